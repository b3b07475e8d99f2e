set_option maxHeartbeats 4000000 in
set_option maxRecDepth 100000 in
theorem c_X7_define (l : Launch) (E : mEv) (A : Nat → Prop) (hO : mOwn mLC E A) (S : mSt) (x kd sz z : Int32) (ts : List Int8) (hts : bHas S 0 ts) : Met l yX7_define (Cond.code yX7_define cX7_define 7 (some .int) :: mv_ws) (mRm 4 89) (mPc mLC E A S [.ref (mAdC E 0 0), .int x, .int kd, .int sz, .int z]) (mQ mLC E A (fun S' => ∃ Sa, bHas Sa 0 [] ∧ mSame (fun k i => scX k i ∨ bX 0 k i) S Sa ∧ (∀ k0 i0, poO S z = some (k0, i0) → (¬ x < 0 ∧ ¬ nI 8 ≤ x ∧ (kd = 1 ∨ kd = 2 ∨ (kd = 0 ∧ ¬ sz < 1 ∧ ¬ 64 < sz))) → ∀ i, i < 8 → x = nI i → S.1 22 (4 + i) 3 = 0 → ((akR S (S.2.1 12 0)) = 0 → ((∀ j, j < 32 → S'.2.1 23 (4 + i) j = shaL ts j) ∧ (∀ j, j < 32 → S'.2.1 24 (4 + i) j = S.2.1 k0 i0 j) ∧ (∀ q, q < 64 → S'.2.1 3 (3 + (4 + i)) q = (0 : Int32).toInt8) ∧ S'.1 2 (3 + (4 + i)) 1 = (if kd = 0 then sz else if kd = 1 then 8 else 32) ∧ S'.1 22 (4 + i) 3 = 1 ∧ S'.1 26 i 1 = kd ∧ S'.1 26 i 2 = 0 ∧ S'.1 26 i 3 = 0 ∧ S'.2.2 26 i 4 = 0 ∧ mSame (fun k i' => vaX i k i' ∨ ((k = 23 ∨ k = 24) ∧ i' = 4 + i)) Sa S')) ∧ (¬ (akR S (S.2.1 12 0)) = 0 → S' = akS Sa (Sa.2.1 12 0))) ∧ (∀ k0 i0, poO S z = some (k0, i0) → (¬ x < 0 ∧ ¬ nI 8 ≤ x ∧ (kd = 1 ∨ kd = 2 ∨ (kd = 0 ∧ ¬ sz < 1 ∧ ¬ 64 < sz))) → ∀ i, i < 8 → x = nI i → ¬ S.1 22 (4 + i) 3 = 0 → S' = Sa) ∧ (poO S z = none → S' = Sa) ∧ (¬ (¬ x < 0 ∧ ¬ nI 8 ≤ x ∧ (kd = 1 ∨ kd = 2 ∨ (kd = 0 ∧ ¬ sz < 1 ∧ ¬ 64 < sz))) → S' = Sa)) (some (.int ((poO S z).elim (-1) (fun _ => if (¬ x < 0 ∧ ¬ nI 8 ≤ x ∧ (kd = 1 ∨ kd = 2 ∨ (kd = 0 ∧ ¬ sz < 1 ∧ ¬ 64 < sz))) then (if S.1 22 (4 + x.toNatClampNeg) 3 = 0 then (akR S (S.2.1 12 0)) else -2) else -1))))) 0 0 A := by
  refine Met.ofW (cc := cX7_define) (maxL := 7) (ret := (some .int)) (by decide) rfl ?_
  intro p e s m args below meth c s₁ B hml hv
  obtain ⟨rfl, hG, hH⟩ := hv
  have hx := B.exec
  have hb := B.bytes
  have hr := B.returns
  have hlocks := B.notSynchronized
  have Cx : CallFix p m c cX7_define 7 s ([.ref (mAdC E 0 0), .int x, .int kd, .int sz, .int z] : List Value).toArray (Cond.code yX7_define cX7_define 7 (some .int) :: mv_ws) RX7 := ⟨hx, hb, hml, findClass_of_methodNamed B.named, atoms_spec (ws := Cond.code yX7_define cX7_define 7 (some .int) :: mv_ws) B.pre⟩
  have hS : va_S A s.heap s.heap [] := va_S.rf
  have hl := lv_entry ([.ref (mAdC E 0 0), .int x, .int kd, .int sz, .int z]) (n := 7) (Nat.le_of_ble_eq_true rfl)
  rw [lg_entry_eq]
  generalize (lg_sl ([.ref (mAdC E 0 0), .int x, .int kd, .int sz, .int z]) ++ List.replicate (7 - (lg_sl ([.ref (mAdC E 0 0), .int x, .int kd, .int sz, .int z])).length) Slot.unset).toArray = ls at hl ⊢
  have hl : lv_has ls 7 [(0, .ref (mAdC E 0 0)), (1, .int x), (2, .int kd), (3, .int sz), (4, .int z)] := hl
  refine lv_aload_n hx hb dX7_define_0 rfl (lv_at hl 0 rfl) ?_
  refine mv_callV (Y := mLC) (C := RX7) (k := 0) (i := 0) (rest := []) Cx hG hH hS (c_X7_takeTapeHash l E A hO S ts hts) q_co_X7_takeTapeHash q_ml_X7_100 q_im_X7_takeTapeHash q_se_X7_takeTapeHash q_in_X7 okC_0 rfl rfl hd_X7_takeTapeHash ⟨Nat.le_of_ble_eq_true rfl, Nat.le_of_ble_eq_true rfl⟩ rfl hl.1 rfl (Nat.le_of_ble_eq_true rfl) ⟨Nat.le_of_ble_eq_true rfl, Nat.le_of_ble_eq_true rfl⟩ dX7_define_1 (fun Sa H locs hP1 hH hS => ?_)
  refine W.eq (g2 := F0 m 4 ls []) rfl ?_
  have hpc : poO Sa z = poO S z := poO_congr (fun q => (hP1.2.2 19 q (by simp [scX, hsX, bX])).1 1)
  have hak : akR Sa (Sa.2.1 12 0) = (akR S (S.2.1 12 0)) := akR_congr ((hP1.2.2 0 0 (by simp [scX, hsX, bX])).1 15) (funext (hP1.2.2 11 0 (by simp [scX, hsX, bX])).2.1) (funext (hP1.2.2 12 0 (by simp [scX, hsX, bX])).2.1)
  refine lv_aload_n hx hb dX7_define_4 rfl (lv_at hl 0 rfl) ?_
  refine lv_iload hx hb dX7_define_5 (lv_at hl 4 rfl) ?_
  obtain ⟨oq, hpo⟩ : ∃ oq, poO S z = oq := ⟨_, rfl⟩
  rcases oq with _ | ⟨kp, ip⟩
  · skip
    refine mv_callV (Y := mLC) (C := RX7) (k := 0) (i := 0) (rest := []) Cx hG hH hS (X7_policyFrom_n l E A hO Sa z (hpc.trans hpo)) q_co_X7_policyFrom q_ml_X7_172 q_im_X7_policyFrom q_se_X7_policyFrom q_in_X7 okC_0 rfl rfl hd_X7_policyFrom ⟨Nat.le_of_ble_eq_true rfl, Nat.le_of_ble_eq_true rfl⟩ rfl hl.1 rfl (Nat.le_of_ble_eq_true rfl) ⟨Nat.le_of_ble_eq_true rfl, Nat.le_of_ble_eq_true rfl⟩ dX7_define_7 (fun S7 H locs hP7 hH hS => ?_)
    refine W.eq (g2 := F0 m 10 ls [.null]) rfl ?_
    have hH := mv_S hP7 hH
    refine lv_astoreN (lv' := [(5, .null), (0, .ref (mAdC E 0 0)), (1, .int x), (2, .int kd), (3, .int sz), (4, .int z)]) hx hb dX7_define_10 hl (by decide) rfl (fun ls hl => ?_)
    refine lv_aloadN hx hb dX7_define_12 (lv_at hl 0 rfl) ?_
    refine lv_ifnullN (tgt := 35) hx hb dX7_define_14 (by decide) ?_
    refine lv_iconst (v := (-1 : Int32)) hx hb dX7_define_35 (by decide) ?_
    exact mv_reti Cx hr hH hS (by rw [hpo]; rfl) (⟨Sa, hP1.2.1, hP1.2.2, fun k i h => (by rw [hpo] at h; cases h), fun k i h => (by rw [hpo] at h; cases h), fun _ => rfl, fun _ => rfl⟩) dX7_define_36 hlocks
  · skip
    have hpB := poO_isB hpo
    have hpn := poO_ne hpo
    refine mv_callV (Y := mLC) (C := RX7) (k := 0) (i := 0) (rest := []) Cx hG hH hS (X7_policyFrom_s l E A hO Sa z kp ip (hpc.trans hpo)) q_co_X7_policyFrom q_ml_X7_172 q_im_X7_policyFrom q_se_X7_policyFrom q_in_X7 okC_0 rfl rfl hd_X7_policyFrom ⟨Nat.le_of_ble_eq_true rfl, Nat.le_of_ble_eq_true rfl⟩ rfl hl.1 rfl (Nat.le_of_ble_eq_true rfl) ⟨Nat.le_of_ble_eq_true rfl, Nat.le_of_ble_eq_true rfl⟩ dX7_define_7 (fun S7 H locs hP7 hH hS => ?_)
    refine W.eq (g2 := F0 m 10 ls [.ref (mAdC E kp ip)]) rfl ?_
    have hH := mv_S hP7 hH
    refine lv_astore (lv' := [(5, .ref (mAdC E kp ip)), (0, .ref (mAdC E 0 0)), (1, .int x), (2, .int kd), (3, .int sz), (4, .int z)]) hx hb dX7_define_10 hl (by decide) rfl (fun ls hl => ?_)
    refine lv_aload hx hb dX7_define_12 (lv_at hl 0 rfl) ?_
    refine lv_ifnull hx hb dX7_define_14 ?_
    refine lv_iload_n hx hb dX7_define_17 rfl (lv_at hl 2 rfl) ?_
    refine lv_if_lt (tgt := 35) hx hb dX7_define_18 (by decide) (fun h18 => ?_) (fun h18 => ?_)
    · skip
      refine lv_iconst (v := (-1 : Int32)) hx hb dX7_define_35 (by decide) ?_
      exact mv_reti Cx hr hH hS (by rw [hpo]; exact (if_neg (fun q => q.1 h18)).symm) (⟨Sa, hP1.2.1, hP1.2.2, fun k i _ z => absurd z (fun q => q.1 h18), fun k i _ z => absurd z (fun q => q.1 h18), fun _ => rfl, fun _ => rfl⟩) dX7_define_36 hlocks
    · skip
      refine lv_iload_n hx hb dX7_define_21 rfl (lv_at hl 2 rfl) ?_
      refine lv_bipush (v := 8) hx hb dX7_define_22 (by decide) ?_
      refine mv_eqi (x' := nI 8) (rfl) ?_
      refine lv_icmp_ge (tgt := 35) hx hb dX7_define_24 (by decide) (fun h24 => ?_) (fun h24 => ?_)
      · skip
        refine lv_iconst (v := (-1 : Int32)) hx hb dX7_define_35 (by decide) ?_
        exact mv_reti Cx hr hH hS (by rw [hpo]; exact (if_neg (fun q => q.2.1 h24)).symm) (⟨Sa, hP1.2.1, hP1.2.2, fun k i _ z => absurd z (fun q => q.2.1 h24), fun k i _ z => absurd z (fun q => q.2.1 h24), fun _ => rfl, fun _ => rfl⟩) dX7_define_36 hlocks
      · skip
        obtain ⟨i, hi, hxi⟩ := ix_of (by decide) h18 h24
        refine lv_iload_n hx hb dX7_define_27 rfl (lv_at hl 3 rfl) ?_
        refine lv_iload_n hx hb dX7_define_28 rfl (lv_at hl 4 rfl) ?_
        refine mv_callS (Y := mLC) (rest := []) Cx hG hH hS (c_X6_mayBe l E A hO Sa kd sz) q_co_X6_mayBe q_ml_X7_202 q_st_X6_mayBe q_in_X6 hd_X6_mayBe ⟨Nat.le_of_ble_eq_true rfl, Nat.le_of_ble_eq_true rfl⟩ rfl hl.1 rfl (Nat.le_of_ble_eq_true rfl) ⟨Nat.le_of_ble_eq_true rfl, Nat.le_of_ble_eq_true rfl⟩ dX7_define_29 (fun S29 H locs hP29 hH hS => ?_)
        refine W.eq (g2 := F0 m 32 ls [.int (if (kd = 1 ∨ kd = 2 ∨ (kd = 0 ∧ ¬ sz < 1 ∧ ¬ 64 < sz)) then 1 else 0)]) rfl ?_
        have hH := mv_S hP29 hH
        refine lv_if_ne (tgt := 37) hx hb dX7_define_32 (by decide) (fun h32 => ?_) (fun h32 => ?_)
        · skip
          have hgd : (¬ x < 0 ∧ ¬ nI 8 ≤ x ∧ (kd = 1 ∨ kd = 2 ∨ (kd = 0 ∧ ¬ sz < 1 ∧ ¬ 64 < sz))) := ⟨h18, h24, p1_of h32⟩
          refine lv_aload_n hx hb dX7_define_37 rfl (lv_at hl 1 rfl) ?_
          refine g_X7_values Cx hG hH q_fl_X7_73 dX7_define_38 ?_
          refine lv_iload_n hx hb dX7_define_41 rfl (lv_at hl 2 rfl) ?_
          refine al_25 Cx hG hH i (hxi) (hi) dX7_define_42 ?_
          refine g_X6_thing Cx hG hH hi q_fl_X7_206 dX7_define_43 ?_
          refine g_X5_present Cx hG hH (by have := hi; omega) q_fl_X7_199 dX7_define_46 ?_
          refine mv_eqi (x' := S.1 22 (4 + i) 3) ((hP1.2.2 22 (4 + i) (by simp [scX, hsX, bX])).1 3) ?_
          refine lv_if_eq (tgt := 55) hx hb dX7_define_49 (by decide) (fun h49 => ?_) (fun h49 => ?_)
          · skip
            refine lv_aload_n hx hb dX7_define_55 rfl (lv_at hl 1 rfl) ?_
            refine lv_aload_n hx hb dX7_define_56 rfl (lv_at hl 1 rfl) ?_
            refine g_X7_ownerAuth Cx hG hH q_fl_X7_41 dX7_define_57 ?_
            refine mv_callV (Y := mLC) (C := RX7) (k := 0) (i := 0) (rest := []) Cx hG hH hS (c_X7_askKey l E A hO Sa 12 0 isC_12) q_co_X7_askKey q_ml_X7_210 q_im_X7_askKey q_se_X7_askKey q_in_X7 okC_0 rfl rfl hd_X7_askKey ⟨Nat.le_of_ble_eq_true rfl, Nat.le_of_ble_eq_true rfl⟩ rfl hl.1 rfl (Nat.le_of_ble_eq_true rfl) ⟨Nat.le_of_ble_eq_true rfl, Nat.le_of_ble_eq_true rfl⟩ dX7_define_60 (fun S60 H locs hP60 hH hS => ?_)
            refine W.eq (g2 := F0 m 63 ls [.int (akR Sa (Sa.2.1 12 0))]) rfl ?_
            refine lv_istore (lv' := [(6, .int (akR Sa (Sa.2.1 12 0))), (5, .ref (mAdC E kp ip)), (0, .ref (mAdC E 0 0)), (1, .int x), (2, .int kd), (3, .int sz), (4, .int z)]) hx hb dX7_define_63 hl (by decide) rfl (fun ls hl => ?_)
            refine lv_iload hx hb dX7_define_65 (lv_at hl 0 rfl) ?_
            refine lv_if_eq (tgt := 73) hx hb dX7_define_67 (by decide) (fun h67 => ?_) (fun h67 => ?_)
            · skip
              have e60 : S60 = Sa := hP60.trans (akS_0 h67)
              refine lv_aload_n hx hb dX7_define_73 rfl (lv_at hl 2 rfl) ?_
              refine g_X7_values Cx hG hH q_fl_X7_73 dX7_define_74 ?_
              refine lv_iload_n hx hb dX7_define_77 rfl (lv_at hl 3 rfl) ?_
              refine al_25 Cx hG hH i (hxi) (hi) dX7_define_78 ?_
              refine lv_iload_n hx hb dX7_define_79 rfl (lv_at hl 4 rfl) ?_
              refine lv_iload_n hx hb dX7_define_80 rfl (lv_at hl 5 rfl) ?_
              refine mv_callV (Y := mLC) (C := RX6) (k := 26) (i := i) (rest := []) Cx hG hH hS (c_X6_begin l E A hO S60 i hi kd sz) q_co_X6_begin q_ml_X7_214 q_im_X6_begin q_se_X6_begin q_in_X6 (okC_26 hi) rfl rfl hd_X6_begin ⟨Nat.le_of_ble_eq_true rfl, Nat.le_of_ble_eq_true rfl⟩ rfl hl.1 rfl (Nat.le_of_ble_eq_true rfl) ⟨Nat.le_of_ble_eq_true rfl, Nat.le_of_ble_eq_true rfl⟩ dX7_define_81 (fun S81 H locs hP81 hH hS => ?_)
              refine W.eq (g2 := F0 m 84 ls []) rfl ?_
              refine lv_aload_n hx hb dX7_define_84 rfl (lv_at hl 2 rfl) ?_
              refine g_X7_scratch Cx hG hH q_fl_X7_47 dX7_define_85 ?_
              refine lv_aload_n hx hb dX7_define_88 rfl (lv_at hl 2 rfl) ?_
              refine g_X7_values Cx hG hH q_fl_X7_73 dX7_define_89 ?_
              refine lv_iload_n hx hb dX7_define_92 rfl (lv_at hl 3 rfl) ?_
              refine al_25 Cx hG hH i (hxi) (hi) dX7_define_93 ?_
              refine g_X6_thing Cx hG hH hi q_fl_X7_206 dX7_define_94 ?_
              refine g_X5_auth Cx hG hH (by have := hi; omega) q_fl_X7_217 dX7_define_97 ?_
              refine mv_callS (Y := mLC) (rest := []) Cx hG hH hS (c_X7_copyDigest l E A hO S81 14 0 isC_14 23 (4 + i) (isC_23 (by omega))) q_co_X7_copyDigest q_ml_X7_107 q_st_X7_copyDigest q_in_X7 hd_X7_copyDigest ⟨Nat.le_of_ble_eq_true rfl, Nat.le_of_ble_eq_true rfl⟩ rfl hl.1 rfl (Nat.le_of_ble_eq_true rfl) ⟨Nat.le_of_ble_eq_true rfl, Nat.le_of_ble_eq_true rfl⟩ dX7_define_100 (fun S100 H locs hP100 hH hS => ?_)
              refine W.eq (g2 := F0 m 103 ls []) rfl ?_
              refine lv_aload hx hb dX7_define_103 (lv_at hl 1 rfl) ?_
              refine lv_aload_n hx hb dX7_define_105 rfl (lv_at hl 2 rfl) ?_
              refine g_X7_values Cx hG hH q_fl_X7_73 dX7_define_106 ?_
              refine lv_iload_n hx hb dX7_define_109 rfl (lv_at hl 3 rfl) ?_
              refine al_25 Cx hG hH i (hxi) (hi) dX7_define_110 ?_
              refine g_X6_thing Cx hG hH hi q_fl_X7_206 dX7_define_111 ?_
              refine g_X5_policy Cx hG hH (by have := hi; omega) q_fl_X7_220 dX7_define_114 ?_
              refine mv_callS (Y := mLC) (rest := []) Cx hG hH hS (c_X7_copyDigest l E A hO S100 kp ip hpB 24 (4 + i) (isC_24 (by omega))) q_co_X7_copyDigest q_ml_X7_107 q_st_X7_copyDigest q_in_X7 hd_X7_copyDigest ⟨Nat.le_of_ble_eq_true rfl, Nat.le_of_ble_eq_true rfl⟩ rfl hl.1 rfl (Nat.le_of_ble_eq_true rfl) ⟨Nat.le_of_ble_eq_true rfl, Nat.le_of_ble_eq_true rfl⟩ dX7_define_117 (fun S117 H locs hP117 hH hS => ?_)
              refine W.eq (g2 := F0 m 120 ls []) rfl ?_
              refine lv_iconst (v := 0) hx hb dX7_define_120 (by decide) ?_
              exact mv_reti Cx hr hH hS (by rw [hpo]; show _ = (if (¬ x < 0 ∧ ¬ nI 8 ≤ x ∧ (kd = 1 ∨ kd = 2 ∨ (kd = 0 ∧ ¬ sz < 1 ∧ ¬ 64 < sz))) then (if S.1 22 (4 + x.toNatClampNeg) 3 = 0 then (akR S (S.2.1 12 0)) else -2) else -1); rw [if_pos hgd, hxi, nI_clamp (by omega), if_pos h49]; exact h67.symm.trans hak) (⟨Sa, hP1.2.1, hP1.2.2, fun k0 i0 h _ j2 hj2 e z => ⟨fun _ => by
                          have ei : j2 = i := ((nI_eq (by omega) (by omega)).mp (e.symm.trans hxi))
                          subst ei
                          rw [hpo] at h
                          cases h
                          rw [e60] at hP81
                          obtain ⟨b1, b2, b3, b4, b5, b6, b7, b8⟩ := hP81
                          have np : ¬ vaX j2 kp ip := by rcases hpn with h | h <;> rw [h] <;> simp [vaX]
                          have np2 : ¬ (kp = 23 ∧ ip = 4 + j2) := by rcases hpn with h | h <;> rw [h] <;> simp
                          refine ⟨fun j hj => ((hP117.2 23 (4 + j2) (by simp)).2.1 j).trans ((hP100.1 j hj).trans (((b8 14 0 (by simp [vaX])).2.1 j).trans (hP1.1 j hj))), fun j hj => (hP117.1 j hj).trans (((hP100.2 kp ip np2).2.1 j).trans (((b8 kp ip np).2.1 j).trans ((hP1.2.2 kp ip (by rcases hpn with h | h <;> rw [h] <;> simp [scX, hsX, bX])).2.1 j))), fun q hq => ((hP117.2 3 _ (by simp)).2.1 q).trans (((hP100.2 3 _ (by simp)).2.1 q).trans (b1 q hq)), ((hP117.2 2 _ (by simp)).1 1).trans (((hP100.2 2 _ (by simp)).1 1).trans b2), ((hP117.2 22 _ (by simp)).1 3).trans (((hP100.2 22 _ (by simp)).1 3).trans b3), ((hP117.2 26 _ (by simp)).1 1).trans (((hP100.2 26 _ (by simp)).1 1).trans b4), ((hP117.2 26 _ (by simp)).1 2).trans (((hP100.2 26 _ (by simp)).1 2).trans b5), ((hP117.2 26 _ (by simp)).1 3).trans (((hP100.2 26 _ (by simp)).1 3).trans b6), ((hP117.2 26 _ (by simp)).2.2 4).trans (((hP100.2 26 _ (by simp)).2.2 4).trans b7), ((b8.wk (fun _ _ h => Or.inl h)).tr (hP100.2.wk (fun _ _ h => Or.inr ⟨Or.inl h.1, h.2⟩))).tr (hP117.2.wk (fun _ _ h => Or.inr ⟨Or.inr h.1, h.2⟩))⟩, fun q => absurd (hak.symm.trans h67) q⟩, fun k i0 _ _ j2 hj2 e z => by (have ei : j2 = i := ((nI_eq (by omega) (by omega)).mp (e.symm.trans hxi)); subst ei; exact absurd h49 z), fun h => by (rw [hpo] at h; cases h), fun z => absurd hgd z⟩) dX7_define_121 hlocks
            · skip
              refine lv_iload hx hb dX7_define_70 (lv_at hl 0 rfl) ?_
              exact mv_reti Cx hr hH hS (by rw [hpo]; show _ = (if (¬ x < 0 ∧ ¬ nI 8 ≤ x ∧ (kd = 1 ∨ kd = 2 ∨ (kd = 0 ∧ ¬ sz < 1 ∧ ¬ 64 < sz))) then (if S.1 22 (4 + x.toNatClampNeg) 3 = 0 then (akR S (S.2.1 12 0)) else -2) else -1); rw [if_pos hgd, hxi, nI_clamp (by omega), if_pos h49]; exact hak) (⟨Sa, hP1.2.1, hP1.2.2, fun k i0 _ _ j2 hj2 e z => ⟨fun q => absurd (hak.trans q) h67, fun _ => hP60⟩, fun k i0 _ _ j2 hj2 e z => by (have ei : j2 = i := ((nI_eq (by omega) (by omega)).mp (e.symm.trans hxi)); subst ei; exact absurd h49 z), fun h => by (rw [hpo] at h; cases h), fun z => absurd hgd z⟩) dX7_define_72 hlocks
          · skip
            refine lv_bipush (v := (-2 : Int32)) hx hb dX7_define_52 (by decide) ?_
            exact mv_reti Cx hr hH hS (by rw [hpo]; show _ = (if (¬ x < 0 ∧ ¬ nI 8 ≤ x ∧ (kd = 1 ∨ kd = 2 ∨ (kd = 0 ∧ ¬ sz < 1 ∧ ¬ 64 < sz))) then (if S.1 22 (4 + x.toNatClampNeg) 3 = 0 then (akR S (S.2.1 12 0)) else -2) else -1); rw [if_pos hgd, hxi, nI_clamp (by omega), if_neg h49]) (⟨Sa, hP1.2.1, hP1.2.2, fun k i0 _ _ j2 hj2 e z => by (have ei : j2 = i := ((nI_eq (by omega) (by omega)).mp (e.symm.trans hxi)); subst ei; exact absurd z h49), fun _ _ _ _ _ _ _ _ => rfl, fun _ => rfl, fun _ => rfl⟩) dX7_define_54 hlocks
        · skip
          refine lv_iconst (v := (-1 : Int32)) hx hb dX7_define_35 (by decide) ?_
          exact mv_reti Cx hr hH hS (by rw [hpo]; exact (if_neg (fun q => p0_of h32 q.2.2)).symm) (⟨Sa, hP1.2.1, hP1.2.2, fun k i _ z => absurd z (fun q => p0_of h32 q.2.2), fun k i _ z => absurd z (fun q => p0_of h32 q.2.2), fun _ => rfl, fun _ => rfl⟩) dX7_define_36 hlocks
