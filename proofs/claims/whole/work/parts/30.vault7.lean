/-! ===== the vault's public methods: the owner, time, the rest ===== -/
theorem akS_0 {S : mSt} {f : Nat → Int8} (h : akR S f = 0) : akS S f = S := by
  unfold akR at h
  unfold akS
  split at h
  · split at h
    · rw [if_pos (by assumption), if_pos (by assumption)]
    · exact absurd h (by decide)
  · exact absurd h (by decide)
theorem akR_congr {S S' : mSt} {f f' : Nat → Int8} (h1 : S'.1 0 0 15 = S.1 0 0 15) (h2 : S'.2.1 11 0 = S.2.1 11 0) (h3 : f' = f) : akR S' f' = akR S f := by
  unfold akR
  rw [h1, h2, h3]
def loR (S : mSt) (x : Int32) (n : Nat) : Int32 := if x = nI 0 then S.1 0 0 15 else if x = nI 1 then S.1 0 0 13 else if x = nI 2 then S.1 0 0 14 else if x = nI 3 then S.1 7 0 4 else if x = nI 4 then cntN (fun q => S.1 22 q 3) 4 else if x = nI 5 then cntN (fun q => S.1 19 q 1) 4 else if x = nI 6 then cntN (fun q => S.1 22 (4 + q) 3) 8 else if x = nI 7 then nI n else -1
theorem loR_out {S : mSt} {x : Int32} {n : Nat} (h : x < 0 ∨ nI 8 ≤ x) : loR S x n = -1 := by
  have key : ∀ k, k < 8 → ¬ x = nI k := fun k hk e => by
    subst e
    rcases h with h | h
    · exact nI_pos (by omega) h
    · have := (nI_leI (by decide) (by omega)).mp h
      omega
  unfold loR
  rw [if_neg (key 0 (by decide)), if_neg (key 1 (by decide)), if_neg (key 2 (by decide)), if_neg (key 3 (by decide)), if_neg (key 4 (by decide)), if_neg (key 5 (by decide)), if_neg (key 6 (by decide)), if_neg (key 7 (by decide))]
theorem poO_congr {S S' : mSt} {z : Int32} (h : ∀ q, S'.1 19 q 1 = S.1 19 q 1) : poO S' z = poO S z := by
  unfold poO seO
  rw [h]
set_option maxHeartbeats 4000000 in
set_option maxRecDepth 100000 in
theorem c_X7_own (l : Launch) (E : mEv) (A : Nat → Prop) (hO : mOwn mLC E A) (S : mSt) (ts : List Int8) (hts : bHas S 0 ts) : Met l yX7_own (Cond.code yX7_own cX7_own 2 (some .int) :: mv_ws) (mRm 4 89) (mPc mLC E A S [.ref (mAdC E 0 0)]) (mQ mLC E A (fun S' => ∃ Sa, bHas Sa 0 [] ∧ mSame (fun k i => scX k i ∨ bX 0 k i) S Sa ∧ ((akR S (S.2.1 12 0)) = 0 → (∀ j, j < 32 → S'.2.1 12 0 j = shaL ts j) ∧ mSame (fun k i => k = 12 ∧ i = 0) Sa S') ∧ (¬ (akR S (S.2.1 12 0)) = 0 → S' = akS Sa (Sa.2.1 12 0))) (some (.int (akR S (S.2.1 12 0))))) 0 0 A := by
  refine Met.ofW (cc := cX7_own) (maxL := 2) (ret := (some .int)) (by decide) rfl ?_
  intro p e s m args below meth c s₁ B hml hv
  obtain ⟨rfl, hG, hH⟩ := hv
  have hx := B.exec
  have hb := B.bytes
  have hr := B.returns
  have hlocks := B.notSynchronized
  have Cx : CallFix p m c cX7_own 2 s ([.ref (mAdC E 0 0)] : List Value).toArray (Cond.code yX7_own cX7_own 2 (some .int) :: mv_ws) RX7 := ⟨hx, hb, hml, findClass_of_methodNamed B.named, atoms_spec (ws := Cond.code yX7_own cX7_own 2 (some .int) :: mv_ws) B.pre⟩
  have hS : va_S A s.heap s.heap [] := va_S.rf
  have hl := lv_entry ([.ref (mAdC E 0 0)]) (n := 2) (Nat.le_of_ble_eq_true rfl)
  rw [lg_entry_eq]
  generalize (lg_sl ([.ref (mAdC E 0 0)]) ++ List.replicate (2 - (lg_sl ([.ref (mAdC E 0 0)])).length) Slot.unset).toArray = ls at hl ⊢
  have hl : lv_has ls 2 [(0, .ref (mAdC E 0 0))] := hl
  refine lv_aload_n hx hb dX7_own_0 rfl (lv_at hl 0 rfl) ?_
  refine mv_callV (Y := mLC) (C := RX7) (k := 0) (i := 0) (rest := []) Cx hG hH hS (c_X7_takeTapeHash l E A hO S ts hts) q_co_X7_takeTapeHash q_ml_X7_100 q_im_X7_takeTapeHash q_se_X7_takeTapeHash q_in_X7 okC_0 rfl rfl hd_X7_takeTapeHash ⟨Nat.le_of_ble_eq_true rfl, Nat.le_of_ble_eq_true rfl⟩ rfl hl.1 rfl (Nat.le_of_ble_eq_true rfl) ⟨Nat.le_of_ble_eq_true rfl, Nat.le_of_ble_eq_true rfl⟩ dX7_own_1 (fun Sa H locs hP1 hH hS => ?_)
  refine W.eq (g2 := F0 m 4 ls []) rfl ?_
  have hak : akR Sa (Sa.2.1 12 0) = (akR S (S.2.1 12 0)) := akR_congr ((hP1.2.2 0 0 (by simp [scX, hsX, bX])).1 15) (funext (hP1.2.2 11 0 (by simp [scX, hsX, bX])).2.1) (funext (hP1.2.2 12 0 (by simp [scX, hsX, bX])).2.1)
  refine lv_aload_n hx hb dX7_own_4 rfl (lv_at hl 0 rfl) ?_
  refine lv_aload_n hx hb dX7_own_5 rfl (lv_at hl 0 rfl) ?_
  refine g_X7_ownerAuth Cx hG hH q_fl_X7_41 dX7_own_6 ?_
  refine mv_callV (Y := mLC) (C := RX7) (k := 0) (i := 0) (rest := []) Cx hG hH hS (c_X7_askKey l E A hO Sa 12 0 isC_12) q_co_X7_askKey q_ml_X7_210 q_im_X7_askKey q_se_X7_askKey q_in_X7 okC_0 rfl rfl hd_X7_askKey ⟨Nat.le_of_ble_eq_true rfl, Nat.le_of_ble_eq_true rfl⟩ rfl hl.1 rfl (Nat.le_of_ble_eq_true rfl) ⟨Nat.le_of_ble_eq_true rfl, Nat.le_of_ble_eq_true rfl⟩ dX7_own_9 (fun S9 H locs hP9 hH hS => ?_)
  refine W.eq (g2 := F0 m 12 ls [.int (akR Sa (Sa.2.1 12 0))]) rfl ?_
  refine lv_istore_n (lv' := [(1, .int (akR Sa (Sa.2.1 12 0))), (0, .ref (mAdC E 0 0))]) hx hb dX7_own_12 rfl hl (by decide) rfl (fun ls hl => ?_)
  refine lv_iload_n hx hb dX7_own_13 rfl (lv_at hl 0 rfl) ?_
  refine lv_if_eq (tgt := 19) hx hb dX7_own_14 (by decide) (fun h14 => ?_) (fun h14 => ?_)
  · skip
    refine lv_aload_n hx hb dX7_own_19 rfl (lv_at hl 1 rfl) ?_
    refine g_X7_scratch Cx hG hH q_fl_X7_47 dX7_own_20 ?_
    refine lv_aload_n hx hb dX7_own_23 rfl (lv_at hl 1 rfl) ?_
    refine g_X7_ownerAuth Cx hG hH q_fl_X7_41 dX7_own_24 ?_
    refine mv_callS (Y := mLC) (rest := []) Cx hG hH hS (c_X7_copyDigest l E A hO S9 14 0 isC_14 12 0 isC_12) q_co_X7_copyDigest q_ml_X7_107 q_st_X7_copyDigest q_in_X7 hd_X7_copyDigest ⟨Nat.le_of_ble_eq_true rfl, Nat.le_of_ble_eq_true rfl⟩ rfl hl.1 rfl (Nat.le_of_ble_eq_true rfl) ⟨Nat.le_of_ble_eq_true rfl, Nat.le_of_ble_eq_true rfl⟩ dX7_own_27 (fun S27 H locs hP27 hH hS => ?_)
    refine W.eq (g2 := F0 m 30 ls []) rfl ?_
    refine lv_iconst (v := 0) hx hb dX7_own_30 (by decide) ?_
    exact mv_reti Cx hr hH hS (h14.symm.trans hak) (⟨Sa, hP1.2.1, hP1.2.2, fun _ => by (have e9 : S9 = Sa := hP9.trans (akS_0 h14)); subst e9; exact ⟨fun j hj => (hP27.1 j hj).trans (hP1.1 j hj), hP27.2⟩, fun z => absurd (hak.symm.trans h14) z⟩) dX7_own_31 hlocks
  · skip
    refine lv_iload_n hx hb dX7_own_17 rfl (lv_at hl 0 rfl) ?_
    exact mv_reti Cx hr hH hS (hak) (⟨Sa, hP1.2.1, hP1.2.2, fun z => absurd (hak.trans z) h14, fun _ => hP9⟩) dX7_own_18 hlocks

set_option maxHeartbeats 4000000 in
set_option maxRecDepth 100000 in
theorem c_X7_clear (l : Launch) (E : mEv) (A : Nat → Prop) (hO : mOwn mLC E A) (S : mSt)  : Met l yX7_clear (Cond.code yX7_clear cX7_clear 3 (some .int) :: mv_ws) (mRm 4 90) (mPc mLC E A S [.ref (mAdC E 0 0)]) (mQ mLC E A (fun S' => ((akR S (S.2.1 12 0)) = 0 → (∀ j, j < 32 → S'.2.1 8 0 j = shaL (mTk (S.2.1 8 0) 32) j) ∧ (∀ q, q < 12 → S'.1 22 q 3 = 0) ∧ (∀ j, j < 32 → S'.2.1 12 0 j = shaL [] j) ∧ mSame (fun k i => scX k i ∨ k = 8 ∨ k = 22 ∨ k = 12) S S') ∧ (¬ (akR S (S.2.1 12 0)) = 0 → S' = (akS S (S.2.1 12 0)))) (some (.int (akR S (S.2.1 12 0))))) 0 0 A := by
  refine Met.ofW (cc := cX7_clear) (maxL := 3) (ret := (some .int)) (by decide) rfl ?_
  intro p e s m args below meth c s₁ B hml hv
  obtain ⟨rfl, hG, hH⟩ := hv
  have hx := B.exec
  have hb := B.bytes
  have hr := B.returns
  have hlocks := B.notSynchronized
  have Cx : CallFix p m c cX7_clear 3 s ([.ref (mAdC E 0 0)] : List Value).toArray (Cond.code yX7_clear cX7_clear 3 (some .int) :: mv_ws) RX7 := ⟨hx, hb, hml, findClass_of_methodNamed B.named, atoms_spec (ws := Cond.code yX7_clear cX7_clear 3 (some .int) :: mv_ws) B.pre⟩
  have hS : va_S A s.heap s.heap [] := va_S.rf
  have hl := lv_entry ([.ref (mAdC E 0 0)]) (n := 3) (Nat.le_of_ble_eq_true rfl)
  rw [lg_entry_eq]
  generalize (lg_sl ([.ref (mAdC E 0 0)]) ++ List.replicate (3 - (lg_sl ([.ref (mAdC E 0 0)])).length) Slot.unset).toArray = ls at hl ⊢
  have hl : lv_has ls 3 [(0, .ref (mAdC E 0 0))] := hl
  refine lv_aload_n hx hb dX7_clear_0 rfl (lv_at hl 0 rfl) ?_
  refine lv_aload_n hx hb dX7_clear_1 rfl (lv_at hl 0 rfl) ?_
  refine g_X7_ownerAuth Cx hG hH q_fl_X7_41 dX7_clear_2 ?_
  refine mv_callV (Y := mLC) (C := RX7) (k := 0) (i := 0) (rest := []) Cx hG hH hS (c_X7_askKey l E A hO S 12 0 isC_12) q_co_X7_askKey q_ml_X7_210 q_im_X7_askKey q_se_X7_askKey q_in_X7 okC_0 rfl rfl hd_X7_askKey ⟨Nat.le_of_ble_eq_true rfl, Nat.le_of_ble_eq_true rfl⟩ rfl hl.1 rfl (Nat.le_of_ble_eq_true rfl) ⟨Nat.le_of_ble_eq_true rfl, Nat.le_of_ble_eq_true rfl⟩ dX7_clear_5 (fun S5 H locs hP5 hH hS => ?_)
  refine W.eq (g2 := F0 m 8 ls [.int (akR S (S.2.1 12 0))]) rfl ?_
  refine lv_istore_n (lv' := [(1, .int (akR S (S.2.1 12 0))), (0, .ref (mAdC E 0 0))]) hx hb dX7_clear_8 rfl hl (by decide) rfl (fun ls hl => ?_)
  refine lv_iload_n hx hb dX7_clear_9 rfl (lv_at hl 0 rfl) ?_
  refine lv_if_eq (tgt := 15) hx hb dX7_clear_10 (by decide) (fun h10 => ?_) (fun h10 => ?_)
  · skip
    have e5 : S5 = S := hP5.trans (akS_0 h10)
    refine lv_aload_n hx hb dX7_clear_15 rfl (lv_at hl 1 rfl) ?_
    refine g_X7_secret Cx hG hH q_fl_X7_21 dX7_clear_16 ?_
    refine mv_callV (Y := mLC) (C := RX3) (k := 7) (i := 0) (rest := []) Cx hG hH hS (c_X3_renew l E A hO S5) q_co_X3_renew q_ml_X7_273 q_im_X3_renew q_se_X3_renew q_in_X3 okC_7 rfl rfl hd_X3_renew ⟨Nat.le_of_ble_eq_true rfl, Nat.le_of_ble_eq_true rfl⟩ rfl hl.1 rfl (Nat.le_of_ble_eq_true rfl) ⟨Nat.le_of_ble_eq_true rfl, Nat.le_of_ble_eq_true rfl⟩ dX7_clear_19 (fun S19 H locs hP19 hH hS => ?_)
    refine W.eq (g2 := F0 m 22 ls []) rfl ?_
    refine lv_iconst (v := 0) hx hb dX7_clear_22 (by decide) ?_
    refine mv_eqi (x' := nI 0) (rfl) ?_
    refine lv_istore_n (lv' := [(2, .int (nI 0)), (1, .int (akR S (S.2.1 12 0))), (0, .ref (mAdC E 0 0))]) hx hb dX7_clear_23 rfl hl (by decide) rfl (fun ls hl => ?_)
    have lp : ∀ (fu j : Nat) (S1 : mSt) (H : Heap) (locs : List Loc) (ls : Array Slot) , 8 - j < fu → j ≤ 8 → ((∀ q, q < j → S1.1 22 (4 + q) 3 = 0) ∧ mSame (fun k _ => k = 22) S19 S1) → mHold mLC E S1 H → va_S A s.heap H locs → lv_has ls 3 [(0, .ref (mAdC E 0 0)), (1, .int (akR S (S.2.1 12 0))), (2, .int (nI j))] → W p l e (headSpec (Cond.code yX7_clear cX7_clear 3 (some .int) :: mv_ws) (mRm 4 90)).room s m ([.ref (mAdC E 0 0)] : List Value).toArray below meth c H locs 0 0 (MQ below (mQ mLC E A (fun S' => ((akR S (S.2.1 12 0)) = 0 → (∀ j, j < 32 → S'.2.1 8 0 j = shaL (mTk (S.2.1 8 0) 32) j) ∧ (∀ q, q < 12 → S'.1 22 q 3 = 0) ∧ (∀ j, j < 32 → S'.2.1 12 0 j = shaL [] j) ∧ mSame (fun k i => scX k i ∨ k = 8 ∨ k = 22 ∨ k = 12) S S') ∧ (¬ (akR S (S.2.1 12 0)) = 0 → S' = (akS S (S.2.1 12 0)))) (some (.int (akR S (S.2.1 12 0))))) ([.ref (mAdC E 0 0)] : List Value).toArray s 0 0 A) (F0 m 24 ls []) := by
      intro fu
      induction fu with
      | zero => intro j S1 H locs ls  hn hj hinv hH hS hl; omega
      | succ fu ih =>
        intro j S1 H locs ls  hn hj hinv hH hS hl
        refine lv_iload_n hx hb dX7_clear_24 rfl (lv_at hl 2 rfl) ?_
        refine lv_bipush (v := 8) hx hb dX7_clear_25 (by decide) ?_
        refine lv_icmp_ge (tgt := 49) hx hb dX7_clear_27 (by decide) (fun h27 => ?_) (fun h27 => ?_)
        · skip
          have hj8 : j = 8 := by have := ge_of (a := 8) (by decide) (by omega) h27; omega
          refine lv_aload_n hx hb dX7_clear_49 rfl (lv_at hl 0 rfl) ?_
          refine mv_callV (Y := mLC) (C := RX7) (k := 0) (i := 0) (rest := []) Cx hG hH hS (c_X7_freeObjects l E A hO S1) q_co_X7_freeObjects q_ml_X7_276 q_im_X7_freeObjects q_se_X7_freeObjects q_in_X7 okC_0 rfl rfl hd_X7_freeObjects ⟨Nat.le_of_ble_eq_true rfl, Nat.le_of_ble_eq_true rfl⟩ rfl hl.1 rfl (Nat.le_of_ble_eq_true rfl) ⟨Nat.le_of_ble_eq_true rfl, Nat.le_of_ble_eq_true rfl⟩ dX7_clear_50 (fun S50 H locs hP50 hH hS => ?_)
          refine W.eq (g2 := F0 m 53 ls []) rfl ?_
          refine lv_aload_n hx hb dX7_clear_53 rfl (lv_at hl 0 rfl) ?_
          refine lv_aload_n hx hb dX7_clear_54 rfl (lv_at hl 0 rfl) ?_
          refine g_X7_ownerAuth Cx hG hH q_fl_X7_41 dX7_clear_55 ?_
          refine mv_callV (Y := mLC) (C := RX7) (k := 0) (i := 0) (rest := []) Cx hG hH hS (c_X7_hashNothing l E A hO S50 12 0 isC_12) q_co_X7_hashNothing q_ml_X7_78 q_im_X7_hashNothing q_se_X7_hashNothing q_in_X7 okC_0 rfl rfl hd_X7_hashNothing ⟨Nat.le_of_ble_eq_true rfl, Nat.le_of_ble_eq_true rfl⟩ rfl hl.1 rfl (Nat.le_of_ble_eq_true rfl) ⟨Nat.le_of_ble_eq_true rfl, Nat.le_of_ble_eq_true rfl⟩ dX7_clear_58 (fun S58 H locs hP58 hH hS => ?_)
          refine W.eq (g2 := F0 m 61 ls []) rfl ?_
          refine lv_iconst (v := 0) hx hb dX7_clear_61 (by decide) ?_
          exact mv_reti Cx hr hH hS (h10.symm) (⟨fun _ => by
                    have s50 : mSame (fun k i => k = 22 ∧ i < 4) S1 S50 := hP50.2
                    refine ⟨fun j hj => ((hP58.2 8 0 (by simp [scX, hsX, bX])).2.1 j).trans (((s50 8 0 (by simp)).2.1 j).trans (((hinv.2 8 0 (by simp)).2.1 j).trans ((hP19.1 j hj).trans (by rw [e5])))), fun q hq => ?_, hP58.1, ?_⟩
                    · rw [(hP58.2 22 q (by simp [scX, hsX, bX])).1 3]
                      by_cases h4 : q < 4
                      · exact hP50.1 q h4
                      · rw [(s50 22 q (by simp; omega)).1 3]
                        have := hinv.1 (q - 4) (by omega)
                        rwa [show 4 + (q - 4) = q by omega] at this
                    · rw [← e5]
                      exact (((hP19.2.wk (fun _ _ h => h.elim Or.inl (fun z => Or.inr (Or.inl z)))).tr (hinv.2.wk (fun _ _ h => Or.inr (Or.inr (Or.inl h))))).tr (s50.wk (fun _ _ h => Or.inr (Or.inr (Or.inl h.1))))).tr (hP58.2.wk (fun _ _ h => h.elim Or.inl (fun z => Or.inr (Or.inr (Or.inr z.1))))), fun z => absurd h10 z⟩) dX7_clear_62 hlocks
        · skip
          have hj8 : j < 8 := lt_of (a := 8) (by decide) (by omega) h27
          refine lv_aload_n hx hb dX7_clear_30 rfl (lv_at hl 0 rfl) ?_
          refine g_X7_values Cx hG hH q_fl_X7_73 dX7_clear_31 ?_
          refine lv_iload_n hx hb dX7_clear_34 rfl (lv_at hl 2 rfl) ?_
          refine al_25 Cx hG hH j (rfl) (hj8) dX7_clear_35 ?_
          refine g_X6_thing Cx hG hH (Nat.lt_of_lt_of_le hj8 (by decide)) q_fl_X7_206 dX7_clear_36 ?_
          refine lv_iconst (v := 0) hx hb dX7_clear_39 (by decide) ?_
          refine p_X5_present Cx hG hO hH hS (by have := hj8; omega) (Or.inl rfl) q_fl_X7_199 dX7_clear_40 (fun H locs hH hS => ?_)
          refine lv_iinc (v := nI (j + 1)) (lv' := [(2, .int (nI (j + 1))), (0, .ref (mAdC E 0 0)), (1, .int (akR S (S.2.1 12 0)))]) hx hb dX7_clear_43 hl (k := 2) rfl (i2_1 j) (by decide) rfl (fun ls hl => ?_)
          refine lv_goto (tgt := 24) hx hb dX7_clear_46 (by decide) ?_
          exact ih (j + 1) (mM S1 22 (4 + j) 3 0) _ _ ls  (by omega) (by omega) (⟨fun q hq => by by_cases e : q = j; (subst e; simp [mM, m3]); (simp only [mM, m3]; rw [if_neg (by omega)]; exact hinv.1 q (by omega)), hinv.2.tr (mSame.M rfl)⟩) hH hS (lv_sub hl [1, 2, 0] rfl)
    exact lp (8 - 0 + 1) 0 S19 _ _ ls  (by omega) (by omega) (⟨fun q h => absurd h (Nat.not_lt_zero _), mSame.rf⟩) hH hS (lv_sub hl [2, 1, 0] rfl)
  · skip
    refine lv_iload_n hx hb dX7_clear_13 rfl (lv_at hl 0 rfl) ?_
    exact mv_reti Cx hr hH hS (rfl) (⟨fun z => absurd z h10, fun _ => hP5⟩) dX7_clear_14 hlocks

set_option maxHeartbeats 4000000 in
set_option maxRecDepth 100000 in
theorem c_X7_tick (l : Launch) (E : mEv) (A : Nat → Prop) (hO : mOwn mLC E A) (S : mSt) (x : Int32) : Met l yX7_tick (Cond.code yX7_tick cX7_tick 4 (some .int) :: mv_ws) (mRm 1 14) (mPc mLC E A S [.ref (mAdC E 0 0), .int x]) (mQ mLC E A (fun S' => S' = if (¬ x < 0 ∧ ¬ 100000 < x ∧ x ≤ 2000000000 - S.1 0 0 13) then mM (mM S 0 0 15 (if 0 < (S.1 0 0 15 - ((S.1 0 0 13 + x) / 100 - S.1 0 0 13 / 100)) then (S.1 0 0 15 - ((S.1 0 0 13 + x) / 100 - S.1 0 0 13 / 100)) else 0)) 0 0 13 (S.1 0 0 13 + x) else S) (some (.int (if (¬ x < 0 ∧ ¬ 100000 < x ∧ x ≤ 2000000000 - S.1 0 0 13) then S.1 0 0 13 + x else -1)))) 0 0 A := by
  refine Met.ofW (cc := cX7_tick) (maxL := 4) (ret := (some .int)) (by decide) rfl ?_
  intro p e s m args below meth c s₁ B hml hv
  obtain ⟨rfl, hG, hH⟩ := hv
  have hx := B.exec
  have hb := B.bytes
  have hr := B.returns
  have hlocks := B.notSynchronized
  have Cx : CallFix p m c cX7_tick 4 s ([.ref (mAdC E 0 0), .int x] : List Value).toArray (Cond.code yX7_tick cX7_tick 4 (some .int) :: mv_ws) RX7 := ⟨hx, hb, hml, findClass_of_methodNamed B.named, atoms_spec (ws := Cond.code yX7_tick cX7_tick 4 (some .int) :: mv_ws) B.pre⟩
  have hS : va_S A s.heap s.heap [] := va_S.rf
  have hl := lv_entry ([.ref (mAdC E 0 0), .int x]) (n := 4) (Nat.le_of_ble_eq_true rfl)
  rw [lg_entry_eq]
  generalize (lg_sl ([.ref (mAdC E 0 0), .int x]) ++ List.replicate (4 - (lg_sl ([.ref (mAdC E 0 0), .int x])).length) Slot.unset).toArray = ls at hl ⊢
  have hl : lv_has ls 4 [(0, .ref (mAdC E 0 0)), (1, .int x)] := hl
  refine lv_iload_n hx hb dX7_tick_0 rfl (lv_at hl 1 rfl) ?_
  refine lv_if_lt (tgt := 23) hx hb dX7_tick_1 (by decide) (fun h1 => ?_) (fun h1 => ?_)
  · skip
    refine lv_iconst (v := (-1 : Int32)) hx hb dX7_tick_23 (by decide) ?_
    exact mv_reti Cx hr hH hS ((if_neg (fun z => z.1 h1)).symm) ((if_neg (fun z => z.1 h1)).symm) dX7_tick_24 hlocks
  · skip
    refine lv_iload_n hx hb dX7_tick_4 rfl (lv_at hl 1 rfl) ?_
    refine lv_ldcw hx hb Cx.2.2.2.1 (Cx.2.2.2.2 _ (List.mem_cons_of_mem _ q_k_X7_279)) dX7_tick_5 ?_
    refine lv_icmp_gt (tgt := 23) hx hb dX7_tick_8 (by decide) (fun h8 => ?_) (fun h8 => ?_)
    · skip
      refine lv_iconst (v := (-1 : Int32)) hx hb dX7_tick_23 (by decide) ?_
      exact mv_reti Cx hr hH hS ((if_neg (fun z => z.2.1 h8)).symm) ((if_neg (fun z => z.2.1 h8)).symm) dX7_tick_24 hlocks
    · skip
      refine lv_iload_n hx hb dX7_tick_11 rfl (lv_at hl 1 rfl) ?_
      refine lv_ldcw hx hb Cx.2.2.2.1 (Cx.2.2.2.2 _ (List.mem_cons_of_mem _ q_k_X7_280)) dX7_tick_12 ?_
      refine lv_aload_n hx hb dX7_tick_15 rfl (lv_at hl 0 rfl) ?_
      refine g_X7_clock Cx hG hH q_fl_X7_125 dX7_tick_16 ?_
      refine lv_isub hx hb dX7_tick_19 ?_
      refine lv_icmp_le (tgt := 25) hx hb dX7_tick_20 (by decide) (fun h20 => ?_) (fun h20 => ?_)
      · skip
        refine lv_aload_n hx hb dX7_tick_25 rfl (lv_at hl 0 rfl) ?_
        refine g_X7_clock Cx hG hH q_fl_X7_125 dX7_tick_26 ?_
        refine lv_iload_n hx hb dX7_tick_29 rfl (lv_at hl 1 rfl) ?_
        refine lv_iadd hx hb dX7_tick_30 ?_
        refine lv_istore_n (lv' := [(2, .int ((S.1 0 0 13) + x)), (0, .ref (mAdC E 0 0)), (1, .int x)]) hx hb dX7_tick_31 rfl hl (by decide) rfl (fun ls hl => ?_)
        refine lv_iload_n hx hb dX7_tick_32 rfl (lv_at hl 0 rfl) ?_
        refine lv_bipush (v := 100) hx hb dX7_tick_33 (by decide) ?_
        refine lv_idiv hx hb dX7_tick_35 (by decide) ?_
        refine lv_aload_n hx hb dX7_tick_36 rfl (lv_at hl 1 rfl) ?_
        refine g_X7_clock Cx hG hH q_fl_X7_125 dX7_tick_37 ?_
        refine lv_bipush (v := 100) hx hb dX7_tick_40 (by decide) ?_
        refine lv_idiv hx hb dX7_tick_42 (by decide) ?_
        refine lv_isub hx hb dX7_tick_43 ?_
        refine lv_istore_n (lv' := [(3, .int ((((S.1 0 0 13) + x) / 100) - ((S.1 0 0 13) / 100))), (2, .int ((S.1 0 0 13) + x)), (0, .ref (mAdC E 0 0)), (1, .int x)]) hx hb dX7_tick_44 rfl hl (by decide) rfl (fun ls hl => ?_)
        refine lv_aload_n hx hb dX7_tick_45 rfl (lv_at hl 2 rfl) ?_
        refine lv_iconst (v := 0) hx hb dX7_tick_46 (by decide) ?_
        refine lv_aload_n hx hb dX7_tick_47 rfl (lv_at hl 2 rfl) ?_
        refine g_X7_failures Cx hG hH q_fl_X7_270 dX7_tick_48 ?_
        refine lv_iload_n hx hb dX7_tick_51 rfl (lv_at hl 0 rfl) ?_
        refine lv_isub hx hb dX7_tick_52 ?_
        refine va_mmax hx hb (Cx.2.2.1.trans hl.1.symm) Cx.2.2.2.1 (Cx.2.2.2.2 _ (List.mem_cons_of_mem _ q_ml_X7_281)) (Cx.2.2.2.2 _ (List.mem_cons_of_mem _ q_st_J9_max_7cf53)) (Cx.2.2.2.2 _ (List.mem_cons_of_mem _ q_in_J9)) (Cx.2.2.2.2 _ (List.mem_cons_of_mem _ q_co_J9_max_7cf53)) (Nat.le_of_ble_eq_true rfl) (Nat.le_of_ble_eq_true rfl) (Nat.le_refl _) (Nat.le_refl _) dX7_tick_53 ?_
        refine p_X7_failures Cx hG hO hH hS q_fl_X7_270 dX7_tick_56 (fun H locs hH hS => ?_)
        refine lv_aload_n hx hb dX7_tick_59 rfl (lv_at hl 2 rfl) ?_
        refine lv_iload_n hx hb dX7_tick_60 rfl (lv_at hl 1 rfl) ?_
        refine p_X7_clock Cx hG hO hH hS q_fl_X7_125 dX7_tick_61 (fun H locs hH hS => ?_)
        refine lv_aload_n hx hb dX7_tick_64 rfl (lv_at hl 2 rfl) ?_
        refine g_X7_clock Cx hG hH q_fl_X7_125 dX7_tick_65 ?_
        refine mv_eqi (x' := S.1 0 0 13 + x) (by simp [mM, m3]) ?_
        exact mv_reti Cx hr hH hS ((if_pos ⟨h1, h8, h20⟩).symm) ((if_pos ⟨h1, h8, h20⟩).symm) dX7_tick_68 hlocks
      · skip
        refine lv_iconst (v := (-1 : Int32)) hx hb dX7_tick_23 (by decide) ?_
        exact mv_reti Cx hr hH hS ((if_neg (fun z => h20 z.2.2)).symm) ((if_neg (fun z => h20 z.2.2)).symm) dX7_tick_24 hlocks

set_option maxHeartbeats 4000000 in
set_option maxRecDepth 100000 in
theorem c_X7_restart (l : Launch) (E : mEv) (A : Nat → Prop) (hO : mOwn mLC E A) (S : mSt)  : Met l yX7_restart (Cond.code yX7_restart cX7_restart 2 (some .int) :: mv_ws) (mRm 1 22) (mPc mLC E A S [.ref (mAdC E 0 0)]) (mQ mLC E A (fun S' => (∀ q, q < 256 → S'.2.1 16 0 q = (0 : Int32).toInt8) ∧ S'.1 15 0 2 = S.1 15 0 2 + nI 8 ∧ (∀ q, q < 4 → S'.1 19 q 1 = 0) ∧ (∀ q, q < 4 → S'.1 22 q 3 = 0) ∧ (∀ q, q < 8 → S'.1 22 (4 + q) 3 = S.1 22 (4 + q) 3) ∧ (∀ q, q < 8 → S'.1 26 q 3 = 0) ∧ (∀ q r, ¬ r = 3 → S'.1 26 q r = S.1 26 q r) ∧ (∀ q, S'.2.2 26 q 4 = S.2.2 26 q 4) ∧ mSame (fun k i => k = 16 ∨ k = 15 ∨ k = 19 ∨ k = 22 ∨ k = 26) (mM S 0 0 14 (S.1 0 0 14 + 1)) S') (some (.int (S.1 0 0 14 + 1)))) 0 0 A := by
  refine Met.ofW (cc := cX7_restart) (maxL := 2) (ret := (some .int)) (by decide) rfl ?_
  intro p e s m args below meth c s₁ B hml hv
  obtain ⟨rfl, hG, hH⟩ := hv
  have hx := B.exec
  have hb := B.bytes
  have hr := B.returns
  have hlocks := B.notSynchronized
  have Cx : CallFix p m c cX7_restart 2 s ([.ref (mAdC E 0 0)] : List Value).toArray (Cond.code yX7_restart cX7_restart 2 (some .int) :: mv_ws) RX7 := ⟨hx, hb, hml, findClass_of_methodNamed B.named, atoms_spec (ws := Cond.code yX7_restart cX7_restart 2 (some .int) :: mv_ws) B.pre⟩
  have hS : va_S A s.heap s.heap [] := va_S.rf
  have hl := lv_entry ([.ref (mAdC E 0 0)]) (n := 2) (Nat.le_of_ble_eq_true rfl)
  rw [lg_entry_eq]
  generalize (lg_sl ([.ref (mAdC E 0 0)]) ++ List.replicate (2 - (lg_sl ([.ref (mAdC E 0 0)])).length) Slot.unset).toArray = ls at hl ⊢
  have hl : lv_has ls 2 [(0, .ref (mAdC E 0 0))] := hl
  refine lv_aload_n hx hb dX7_restart_0 rfl (lv_at hl 0 rfl) ?_
  refine lv_dup hx hb dX7_restart_1 rfl ?_
  refine g_X7_restarts Cx hG hH q_fl_X7_128 dX7_restart_2 ?_
  refine lv_iconst (v := 1) hx hb dX7_restart_5 (by decide) ?_
  refine lv_iadd hx hb dX7_restart_6 ?_
  refine p_X7_restarts Cx hG hO hH hS q_fl_X7_128 dX7_restart_7 (fun H locs hH hS => ?_)
  refine lv_iconst (v := 0) hx hb dX7_restart_10 (by decide) ?_
  refine mv_eqi (x' := nI 0) (rfl) ?_
  refine lv_istore_n (lv' := [(1, .int (nI 0)), (0, .ref (mAdC E 0 0))]) hx hb dX7_restart_11 rfl hl (by decide) rfl (fun ls hl => ?_)
  have lp : ∀ (fu j : Nat) (S1 : mSt) (H : Heap) (locs : List Loc) (ls : Array Slot) , 8 - j < fu → j ≤ 8 → ((∀ q, q < 32 * j → S1.2.1 16 0 q = (0 : Int32).toInt8) ∧ S1.1 15 0 2 = S.1 15 0 2 + nI j ∧ mSame (fun k _ => k = 16 ∨ k = 15) (mM S 0 0 14 (S.1 0 0 14 + 1)) S1) → mHold mLC E S1 H → va_S A s.heap H locs → lv_has ls 2 [(0, .ref (mAdC E 0 0)), (1, .int (nI j))] → W p l e (headSpec (Cond.code yX7_restart cX7_restart 2 (some .int) :: mv_ws) (mRm 1 22)).room s m ([.ref (mAdC E 0 0)] : List Value).toArray below meth c H locs 0 0 (MQ below (mQ mLC E A (fun S' => (∀ q, q < 256 → S'.2.1 16 0 q = (0 : Int32).toInt8) ∧ S'.1 15 0 2 = S.1 15 0 2 + nI 8 ∧ (∀ q, q < 4 → S'.1 19 q 1 = 0) ∧ (∀ q, q < 4 → S'.1 22 q 3 = 0) ∧ (∀ q, q < 8 → S'.1 22 (4 + q) 3 = S.1 22 (4 + q) 3) ∧ (∀ q, q < 8 → S'.1 26 q 3 = 0) ∧ (∀ q r, ¬ r = 3 → S'.1 26 q r = S.1 26 q r) ∧ (∀ q, S'.2.2 26 q 4 = S.2.2 26 q 4) ∧ mSame (fun k i => k = 16 ∨ k = 15 ∨ k = 19 ∨ k = 22 ∨ k = 26) (mM S 0 0 14 (S.1 0 0 14 + 1)) S') (some (.int (S.1 0 0 14 + 1)))) ([.ref (mAdC E 0 0)] : List Value).toArray s 0 0 A) (F0 m 12 ls []) := by
    intro fu
    induction fu with
    | zero => intro j S1 H locs ls  hn hj hinv hH hS hl; omega
    | succ fu ih =>
      intro j S1 H locs ls  hn hj hinv hH hS hl
      refine lv_iload_n hx hb dX7_restart_12 rfl (lv_at hl 1 rfl) ?_
      refine lv_bipush (v := 8) hx hb dX7_restart_13 (by decide) ?_
      refine lv_icmp_ge (tgt := 32) hx hb dX7_restart_15 (by decide) (fun h15 => ?_) (fun h15 => ?_)
      · skip
        have hj8 : j = 8 := by have := ge_of (a := 8) (by decide) (by omega) h15; omega
        refine lv_iconst (v := 0) hx hb dX7_restart_32 (by decide) ?_
        refine mv_eqi (x' := nI 0) (rfl) ?_
        refine lv_istore_n (lv' := [(1, .int (nI 0)), (0, .ref (mAdC E 0 0))]) hx hb dX7_restart_33 rfl hl (by decide) rfl (fun ls hl => ?_)
        have lp2 : ∀ (fu t : Nat) (S2 : mSt) (H : Heap) (locs : List Loc) (ls : Array Slot) , 4 - t < fu → t ≤ 4 → ((∀ q, q < t → S2.1 19 q 1 = 0) ∧ mSame (fun k _ => k = 19) S1 S2) → mHold mLC E S2 H → va_S A s.heap H locs → lv_has ls 2 [(0, .ref (mAdC E 0 0)), (1, .int (nI t))] → W p l e (headSpec (Cond.code yX7_restart cX7_restart 2 (some .int) :: mv_ws) (mRm 1 22)).room s m ([.ref (mAdC E 0 0)] : List Value).toArray below meth c H locs 0 0 (MQ below (mQ mLC E A (fun S' => (∀ q, q < 256 → S'.2.1 16 0 q = (0 : Int32).toInt8) ∧ S'.1 15 0 2 = S.1 15 0 2 + nI 8 ∧ (∀ q, q < 4 → S'.1 19 q 1 = 0) ∧ (∀ q, q < 4 → S'.1 22 q 3 = 0) ∧ (∀ q, q < 8 → S'.1 22 (4 + q) 3 = S.1 22 (4 + q) 3) ∧ (∀ q, q < 8 → S'.1 26 q 3 = 0) ∧ (∀ q r, ¬ r = 3 → S'.1 26 q r = S.1 26 q r) ∧ (∀ q, S'.2.2 26 q 4 = S.2.2 26 q 4) ∧ mSame (fun k i => k = 16 ∨ k = 15 ∨ k = 19 ∨ k = 22 ∨ k = 26) (mM S 0 0 14 (S.1 0 0 14 + 1)) S') (some (.int (S.1 0 0 14 + 1)))) ([.ref (mAdC E 0 0)] : List Value).toArray s 0 0 A) (F0 m 34 ls []) := by
          intro fu
          induction fu with
          | zero => intro t S2 H locs ls  hn2 ht hin2 hH hS hl; omega
          | succ fu ih =>
            intro t S2 H locs ls  hn2 ht hin2 hH hS hl
            refine lv_iload_n hx hb dX7_restart_34 rfl (lv_at hl 1 rfl) ?_
            refine lv_iconst (v := 4) hx hb dX7_restart_35 (by decide) ?_
            refine lv_icmp_ge (tgt := 55) hx hb dX7_restart_36 (by decide) (fun h36 => ?_) (fun h36 => ?_)
            · skip
              have ht4 : t = 4 := by have := ge_of (a := 4) (by decide) (by omega) h36; omega
              refine lv_aload_n hx hb dX7_restart_55 rfl (lv_at hl 0 rfl) ?_
              refine mv_callV (Y := mLC) (C := RX7) (k := 0) (i := 0) (rest := []) Cx hG hH hS (c_X7_freeObjects l E A hO S2) q_co_X7_freeObjects q_ml_X7_276 q_im_X7_freeObjects q_se_X7_freeObjects q_in_X7 okC_0 rfl rfl hd_X7_freeObjects ⟨Nat.le_of_ble_eq_true rfl, Nat.le_of_ble_eq_true rfl⟩ rfl hl.1 rfl (Nat.le_of_ble_eq_true rfl) ⟨Nat.le_of_ble_eq_true rfl, Nat.le_of_ble_eq_true rfl⟩ dX7_restart_56 (fun S56 H locs hP56 hH hS => ?_)
              refine W.eq (g2 := F0 m 59 ls []) rfl ?_
              refine lv_iconst (v := 0) hx hb dX7_restart_59 (by decide) ?_
              refine mv_eqi (x' := nI 0) (rfl) ?_
              refine lv_istore_n (lv' := [(1, .int (nI 0)), (0, .ref (mAdC E 0 0))]) hx hb dX7_restart_60 rfl hl (by decide) rfl (fun ls hl => ?_)
              have lp3 : ∀ (fu u : Nat) (S3 : mSt) (H : Heap) (locs : List Loc) (ls : Array Slot) , 8 - u < fu → u ≤ 8 → ((∀ q, q < u → S3.1 26 q 3 = 0) ∧ (∀ q r, ¬ r = 3 → S3.1 26 q r = S56.1 26 q r) ∧ (∀ q, S3.2.2 26 q 4 = S56.2.2 26 q 4) ∧ mSame (fun k _ => k = 26) S56 S3) → mHold mLC E S3 H → va_S A s.heap H locs → lv_has ls 2 [(0, .ref (mAdC E 0 0)), (1, .int (nI u))] → W p l e (headSpec (Cond.code yX7_restart cX7_restart 2 (some .int) :: mv_ws) (mRm 1 22)).room s m ([.ref (mAdC E 0 0)] : List Value).toArray below meth c H locs 0 0 (MQ below (mQ mLC E A (fun S' => (∀ q, q < 256 → S'.2.1 16 0 q = (0 : Int32).toInt8) ∧ S'.1 15 0 2 = S.1 15 0 2 + nI 8 ∧ (∀ q, q < 4 → S'.1 19 q 1 = 0) ∧ (∀ q, q < 4 → S'.1 22 q 3 = 0) ∧ (∀ q, q < 8 → S'.1 22 (4 + q) 3 = S.1 22 (4 + q) 3) ∧ (∀ q, q < 8 → S'.1 26 q 3 = 0) ∧ (∀ q r, ¬ r = 3 → S'.1 26 q r = S.1 26 q r) ∧ (∀ q, S'.2.2 26 q 4 = S.2.2 26 q 4) ∧ mSame (fun k i => k = 16 ∨ k = 15 ∨ k = 19 ∨ k = 22 ∨ k = 26) (mM S 0 0 14 (S.1 0 0 14 + 1)) S') (some (.int (S.1 0 0 14 + 1)))) ([.ref (mAdC E 0 0)] : List Value).toArray s 0 0 A) (F0 m 61 ls []) := by
                intro fu
                induction fu with
                | zero => intro u S3 H locs ls  hn3 hu hin3 hH hS hl; omega
                | succ fu ih =>
                  intro u S3 H locs ls  hn3 hu hin3 hH hS hl
                  refine lv_iload_n hx hb dX7_restart_61 rfl (lv_at hl 1 rfl) ?_
                  refine lv_bipush (v := 8) hx hb dX7_restart_62 (by decide) ?_
                  refine lv_icmp_ge (tgt := 83) hx hb dX7_restart_64 (by decide) (fun h64 => ?_) (fun h64 => ?_)
                  · skip
                    have hu8 : u = 8 := by have := ge_of (a := 8) (by decide) (by omega) h64; omega
                    refine lv_aload_n hx hb dX7_restart_83 rfl (lv_at hl 0 rfl) ?_
                    refine g_X7_restarts Cx hG hH q_fl_X7_128 dX7_restart_84 ?_
                    refine mv_eqi (x' := S.1 0 0 14 + 1) (((hin3.2.2.2 0 0 (by simp)).1 14).trans (((hP56.2 0 0 (by simp)).1 14).trans (((hin2.2 0 0 (by simp)).1 14).trans (((hinv.2.2 0 0 (by simp)).1 14).trans (by simp [mM, m3]))))) ?_
                    exact mv_reti Cx hr hH hS (rfl) (⟨fun q hq => ((hin3.2.2.2 16 0 (by simp)).2.1 q).trans (((hP56.2 16 0 (by simp)).2.1 q).trans (((hin2.2 16 0 (by simp)).2.1 q).trans (hinv.1 q (by omega)))), ((hin3.2.2.2 15 0 (by simp)).1 2).trans (((hP56.2 15 0 (by simp)).1 2).trans (((hin2.2 15 0 (by simp)).1 2).trans (by rw [hinv.2.1, hj8]))), fun q hq => ((hin3.2.2.2 19 q (by simp)).1 1).trans (((hP56.2 19 q (by simp)).1 1).trans (hin2.1 q (by omega))), fun q hq => ((hin3.2.2.2 22 q (by simp)).1 3).trans (hP56.1 q hq), fun q hq => ((hin3.2.2.2 22 (4 + q) (by simp)).1 3).trans (((hP56.2 22 (4 + q) (by simp)).1 3).trans (((hin2.2 22 (4 + q) (by simp)).1 3).trans ((hinv.2.2 22 (4 + q) (by simp)).1 3))), fun q hq => hin3.1 q (by omega), fun q r hr3 => (hin3.2.1 q r hr3).trans (((hP56.2 26 q (by simp)).1 r).trans (((hin2.2 26 q (by simp)).1 r).trans ((hinv.2.2 26 q (by simp)).1 r))), fun q => (hin3.2.2.1 q).trans (((hP56.2 26 q (by simp)).2.2 4).trans (((hin2.2 26 q (by simp)).2.2 4).trans ((hinv.2.2 26 q (by simp)).2.2 4))), (((hinv.2.2.wk (fun _ _ h => h.elim Or.inl (fun z => Or.inr (Or.inl z)))).tr (hin2.2.wk (fun _ _ h => Or.inr (Or.inr (Or.inl h))))).tr (hP56.2.wk (fun _ _ h => Or.inr (Or.inr (Or.inr (Or.inl h.1)))))).tr (hin3.2.2.2.wk (fun _ _ h => Or.inr (Or.inr (Or.inr (Or.inr h)))))⟩) dX7_restart_87 hlocks
                  · skip
                    have hu8 : u < 8 := lt_of (a := 8) (by decide) (by omega) h64
                    refine lv_aload_n hx hb dX7_restart_67 rfl (lv_at hl 0 rfl) ?_
                    refine g_X7_values Cx hG hH q_fl_X7_73 dX7_restart_68 ?_
                    refine lv_iload_n hx hb dX7_restart_71 rfl (lv_at hl 1 rfl) ?_
                    refine al_25 Cx hG hH u (rfl) (hu8) dX7_restart_72 ?_
                    refine lv_iconst (v := 0) hx hb dX7_restart_73 (by decide) ?_
                    refine p_X6_isShut Cx hG hO hH hS (Nat.lt_of_lt_of_le hu8 (by decide)) (Or.inl rfl) q_fl_X7_263 dX7_restart_74 (fun H locs hH hS => ?_)
                    refine lv_iinc (v := nI (u + 1)) (lv' := [(1, .int (nI (u + 1))), (0, .ref (mAdC E 0 0))]) hx hb dX7_restart_77 hl (k := 1) rfl (i2_1 u) (by decide) rfl (fun ls hl => ?_)
                    refine lv_goto (tgt := 61) hx hb dX7_restart_80 (by decide) ?_
                    exact ih (u + 1) (mM S3 26 u 3 0) _ _ ls  (by omega) (by omega) (⟨fun q hq => by by_cases e : q = u; (subst e; simp [mM, m3]); (simp only [mM, m3]; rw [if_neg (by omega)]; exact hin3.1 q (by omega)), fun q r hr3 => by (simp only [mM, m3]; rw [if_neg (by omega)]; exact hin3.2.1 q r hr3), fun q => hin3.2.2.1 q, hin3.2.2.2.tr (mSame.M rfl)⟩) hH hS (lv_sub hl [1, 0] rfl)
              exact lp3 (8 - 0 + 1) 0 S56 _ _ ls  (by omega) (by omega) (⟨fun q h => absurd h (Nat.not_lt_zero _), fun _ _ _ => rfl, fun _ => rfl, mSame.rf⟩) hH hS (lv_sub hl [1, 0] rfl)
            · skip
              have ht4 : t < 4 := lt_of (a := 4) (by decide) (by omega) h36
              refine lv_aload_n hx hb dX7_restart_39 rfl (lv_at hl 0 rfl) ?_
              refine g_X7_sessions Cx hG hH q_fl_X7_59 dX7_restart_40 ?_
              refine lv_iload_n hx hb dX7_restart_43 rfl (lv_at hl 1 rfl) ?_
              refine al_18 Cx hG hH t (rfl) (ht4) dX7_restart_44 ?_
              refine lv_iconst (v := 0) hx hb dX7_restart_45 (by decide) ?_
              refine p_X4_isOpen Cx hG hO hH hS (Nat.lt_of_lt_of_le ht4 (by decide)) (Or.inl rfl) q_fl_X7_284 dX7_restart_46 (fun H locs hH hS => ?_)
              refine lv_iinc (v := nI (t + 1)) (lv' := [(1, .int (nI (t + 1))), (0, .ref (mAdC E 0 0))]) hx hb dX7_restart_49 hl (k := 1) rfl (i2_1 t) (by decide) rfl (fun ls hl => ?_)
              refine lv_goto (tgt := 34) hx hb dX7_restart_52 (by decide) ?_
              exact ih (t + 1) (mM S2 19 t 1 0) _ _ ls  (by omega) (by omega) (⟨fun q hq => by by_cases e : q = t; (subst e; simp [mM, m3]); (simp only [mM, m3]; rw [if_neg (by omega)]; exact hin2.1 q (by omega)), hin2.2.tr (mSame.M rfl)⟩) hH hS (lv_sub hl [1, 0] rfl)
        exact lp2 (4 - 0 + 1) 0 S1 _ _ ls  (by omega) (by omega) (⟨fun q h => absurd h (Nat.not_lt_zero _), mSame.rf⟩) hH hS (lv_sub hl [1, 0] rfl)
      · skip
        have hj8 : j < 8 := lt_of (a := 8) (by decide) (by omega) h15
        refine lv_aload_n hx hb dX7_restart_18 rfl (lv_at hl 0 rfl) ?_
        refine g_X7_registers Cx hG hH q_fl_X7_53 dX7_restart_19 ?_
        refine lv_iload_n hx hb dX7_restart_22 rfl (lv_at hl 1 rfl) ?_
        refine mv_callV (Y := mLC) (C := RX2) (k := 15) (i := 0) (rest := []) Cx hG hH hS (c_X2_zero l E A hO S1 j hj8) q_co_X2_zero q_ml_X7_115 q_im_X2_zero q_se_X2_zero q_in_X2 okC_15 rfl rfl hd_X2_zero ⟨Nat.le_of_ble_eq_true rfl, Nat.le_of_ble_eq_true rfl⟩ rfl hl.1 rfl (Nat.le_of_ble_eq_true rfl) ⟨Nat.le_of_ble_eq_true rfl, Nat.le_of_ble_eq_true rfl⟩ dX7_restart_23 (fun S23 H locs hP23 hH hS => ?_)
        refine W.eq (g2 := F0 m 26 ls []) rfl ?_
        refine lv_iinc (v := nI (j + 1)) (lv' := [(1, .int (nI (j + 1))), (0, .ref (mAdC E 0 0))]) hx hb dX7_restart_26 hl (k := 1) rfl (i2_1 j) (by decide) rfl (fun ls hl => ?_)
        refine lv_goto (tgt := 12) hx hb dX7_restart_29 (by decide) ?_
        exact ih (j + 1) S23 _ _ ls  (by omega) (by omega) (⟨fun q hq => by by_cases e : q < 32 * j; (rw [hP23.2.1 q (Or.inl e)]; exact hinv.1 q e); (have := hP23.1 (q - 32 * j) (by omega); rwa [show 32 * j + (q - 32 * j) = q by omega] at this), by rw [hP23.2.2.1, hinv.2.1, ← nI_1, Int32.add_assoc], hinv.2.2.tr hP23.2.2.2⟩) hH hS (lv_sub hl [1, 0] rfl)
  exact lp (8 - 0 + 1) 0 (mM S 0 0 14 ((S.1 0 0 14) + 1)) _ _ ls  (by omega) (by omega) (⟨fun q h => absurd h (by omega), by rw [nI_0, Int32.add_zero]; simp [mM, m3], mSame.rf⟩) hH hS (lv_sub hl [1, 0] rfl)

set_option maxHeartbeats 4000000 in
set_option maxRecDepth 100000 in
theorem c_X7_look (l : Launch) (E : mEv) (A : Nat → Prop) (hO : mOwn mLC E A) (S : mSt) (x : Int32) (ts : List Int8) (hts : bHas S 0 ts) : Met l yX7_look (Cond.code yX7_look cX7_look 2 (some .int) :: mv_ws) (mRm 1 22) (mPc mLC E A S [.ref (mAdC E 0 0), .int x]) (mQ mLC E A (fun S' => S' = S) (some (.int (loR S x ts.length)))) 0 0 A := by
  refine Met.ofW (cc := cX7_look) (maxL := 2) (ret := (some .int)) (by decide) rfl ?_
  intro p e s m args below meth c s₁ B hml hv
  obtain ⟨rfl, hG, hH⟩ := hv
  have hx := B.exec
  have hb := B.bytes
  have hr := B.returns
  have hlocks := B.notSynchronized
  have Cx : CallFix p m c cX7_look 2 s ([.ref (mAdC E 0 0), .int x] : List Value).toArray (Cond.code yX7_look cX7_look 2 (some .int) :: mv_ws) RX7 := ⟨hx, hb, hml, findClass_of_methodNamed B.named, atoms_spec (ws := Cond.code yX7_look cX7_look 2 (some .int) :: mv_ws) B.pre⟩
  have hS : va_S A s.heap s.heap [] := va_S.rf
  have hl := lv_entry ([.ref (mAdC E 0 0), .int x]) (n := 2) (Nat.le_of_ble_eq_true rfl)
  rw [lg_entry_eq]
  generalize (lg_sl ([.ref (mAdC E 0 0), .int x]) ++ List.replicate (2 - (lg_sl ([.ref (mAdC E 0 0), .int x])).length) Slot.unset).toArray = ls at hl ⊢
  have hl : lv_has ls 2 [(0, .ref (mAdC E 0 0)), (1, .int x)] := hl
  refine lv_iload_n hx hb dX7_look_0 rfl (lv_at hl 1 rfl) ?_
  rcases pk_ix x (n := 8) (by decide) with hsw | hsw | ⟨jsw, hjsw, esw⟩
  · skip
    have hswo : x.toInt < 0 ∨ 7 < x.toInt := Or.inl (by have h := Int32.lt_iff_toInt_lt.mp hsw; rwa [Int32.toInt_zero] at h)
    refine lv_tableOut (tgt := 94) hx hb dX7_look_1 hswo (by decide) ?_
    refine lv_iconst (v := (-1 : Int32)) hx hb dX7_look_94 (by decide) ?_
    exact mv_reti Cx hr hH hS ((loR_out (Or.inl hsw)).symm) (rfl) dX7_look_95 hlocks
  · skip
    have hswo : x.toInt < 0 ∨ 7 < x.toInt := Or.inr (by have h := Int32.le_iff_toInt_le.mp hsw; rw [nI_toInt (by decide)] at h; omega)
    refine lv_tableOut (tgt := 94) hx hb dX7_look_1 hswo (by decide) ?_
    refine lv_iconst (v := (-1 : Int32)) hx hb dX7_look_94 (by decide) ?_
    exact mv_reti Cx hr hH hS ((loR_out (Or.inr hsw)).symm) (rfl) dX7_look_95 hlocks
  · skip
    rcases (show jsw = 0 ∨ jsw = 1 ∨ jsw = 2 ∨ jsw = 3 ∨ jsw = 4 ∨ jsw = 5 ∨ jsw = 6 ∨ jsw = 7 by omega) with rfl | rfl | rfl | rfl | rfl | rfl | rfl | rfl
    · skip
      refine lv_tableIn (off := 47) (tgt := 48) hx hb dX7_look_1 (by rw [esw]; decide) (by rw [esw]; decide) (by rw [esw]; decide) (by decide) ?_
      refine lv_aload_n hx hb dX7_look_48 rfl (lv_at hl 0 rfl) ?_
      refine g_X7_failures Cx hG hH q_fl_X7_270 dX7_look_49 ?_
      exact mv_reti Cx hr hH hS (by rw [loR, if_pos esw]) (rfl) dX7_look_52 hlocks
    · skip
      refine lv_tableIn (off := 52) (tgt := 53) hx hb dX7_look_1 (by rw [esw]; decide) (by rw [esw]; decide) (by rw [esw]; decide) (by decide) ?_
      refine lv_aload_n hx hb dX7_look_53 rfl (lv_at hl 0 rfl) ?_
      refine g_X7_clock Cx hG hH q_fl_X7_125 dX7_look_54 ?_
      exact mv_reti Cx hr hH hS (by rw [loR, if_neg (by rw [esw]; decide), if_pos esw]) (rfl) dX7_look_57 hlocks
    · skip
      refine lv_tableIn (off := 57) (tgt := 58) hx hb dX7_look_1 (by rw [esw]; decide) (by rw [esw]; decide) (by rw [esw]; decide) (by decide) ?_
      refine lv_aload_n hx hb dX7_look_58 rfl (lv_at hl 0 rfl) ?_
      refine g_X7_restarts Cx hG hH q_fl_X7_128 dX7_look_59 ?_
      exact mv_reti Cx hr hH hS (by rw [loR, if_neg (by rw [esw]; decide), if_neg (by rw [esw]; decide), if_pos esw]) (rfl) dX7_look_62 hlocks
    · skip
      refine lv_tableIn (off := 62) (tgt := 63) hx hb dX7_look_1 (by rw [esw]; decide) (by rw [esw]; decide) (by rw [esw]; decide) (by decide) ?_
      refine lv_aload_n hx hb dX7_look_63 rfl (lv_at hl 0 rfl) ?_
      refine g_X7_secret Cx hG hH q_fl_X7_21 dX7_look_64 ?_
      refine g_X3_blobsMade Cx hG hH q_fl_X7_287 dX7_look_67 ?_
      exact mv_reti Cx hr hH hS (by rw [loR, if_neg (by rw [esw]; decide), if_neg (by rw [esw]; decide), if_neg (by rw [esw]; decide), if_pos esw]) (rfl) dX7_look_70 hlocks
    · skip
      refine lv_tableIn (off := 70) (tgt := 71) hx hb dX7_look_1 (by rw [esw]; decide) (by rw [esw]; decide) (by rw [esw]; decide) (by decide) ?_
      refine lv_aload_n hx hb dX7_look_71 rfl (lv_at hl 0 rfl) ?_
      refine mv_callV (Y := mLC) (C := RX7) (k := 0) (i := 0) (rest := []) Cx hG hH hS (c_X7_objectsHeld l E A hO S) q_co_X7_objectsHeld q_ml_X7_290 q_im_X7_objectsHeld q_se_X7_objectsHeld q_in_X7 okC_0 rfl rfl hd_X7_objectsHeld ⟨Nat.le_of_ble_eq_true rfl, Nat.le_of_ble_eq_true rfl⟩ rfl hl.1 rfl (Nat.le_of_ble_eq_true rfl) ⟨Nat.le_of_ble_eq_true rfl, Nat.le_of_ble_eq_true rfl⟩ dX7_look_72 (fun S72 H locs hP72 hH hS => ?_)
      refine W.eq (g2 := F0 m 75 ls [.int (cntN (fun q => S.1 22 q 3) 4)]) rfl ?_
      have hH := mv_S hP72 hH
      exact mv_reti Cx hr hH hS (by rw [loR, if_neg (by rw [esw]; decide), if_neg (by rw [esw]; decide), if_neg (by rw [esw]; decide), if_neg (by rw [esw]; decide), if_pos esw]) (rfl) dX7_look_75 hlocks
    · skip
      refine lv_tableIn (off := 75) (tgt := 76) hx hb dX7_look_1 (by rw [esw]; decide) (by rw [esw]; decide) (by rw [esw]; decide) (by decide) ?_
      refine lv_aload_n hx hb dX7_look_76 rfl (lv_at hl 0 rfl) ?_
      refine mv_callV (Y := mLC) (C := RX7) (k := 0) (i := 0) (rest := []) Cx hG hH hS (c_X7_sessionsOpen l E A hO S) q_co_X7_sessionsOpen q_ml_X7_293 q_im_X7_sessionsOpen q_se_X7_sessionsOpen q_in_X7 okC_0 rfl rfl hd_X7_sessionsOpen ⟨Nat.le_of_ble_eq_true rfl, Nat.le_of_ble_eq_true rfl⟩ rfl hl.1 rfl (Nat.le_of_ble_eq_true rfl) ⟨Nat.le_of_ble_eq_true rfl, Nat.le_of_ble_eq_true rfl⟩ dX7_look_77 (fun S77 H locs hP77 hH hS => ?_)
      refine W.eq (g2 := F0 m 80 ls [.int (cntN (fun q => S.1 19 q 1) 4)]) rfl ?_
      have hH := mv_S hP77 hH
      exact mv_reti Cx hr hH hS (by rw [loR, if_neg (by rw [esw]; decide), if_neg (by rw [esw]; decide), if_neg (by rw [esw]; decide), if_neg (by rw [esw]; decide), if_neg (by rw [esw]; decide), if_pos esw]) (rfl) dX7_look_80 hlocks
    · skip
      refine lv_tableIn (off := 80) (tgt := 81) hx hb dX7_look_1 (by rw [esw]; decide) (by rw [esw]; decide) (by rw [esw]; decide) (by decide) ?_
      refine lv_aload_n hx hb dX7_look_81 rfl (lv_at hl 0 rfl) ?_
      refine mv_callV (Y := mLC) (C := RX7) (k := 0) (i := 0) (rest := []) Cx hG hH hS (c_X7_valuesDefined l E A hO S) q_co_X7_valuesDefined q_ml_X7_296 q_im_X7_valuesDefined q_se_X7_valuesDefined q_in_X7 okC_0 rfl rfl hd_X7_valuesDefined ⟨Nat.le_of_ble_eq_true rfl, Nat.le_of_ble_eq_true rfl⟩ rfl hl.1 rfl (Nat.le_of_ble_eq_true rfl) ⟨Nat.le_of_ble_eq_true rfl, Nat.le_of_ble_eq_true rfl⟩ dX7_look_82 (fun S82 H locs hP82 hH hS => ?_)
      refine W.eq (g2 := F0 m 85 ls [.int (cntN (fun q => S.1 22 (4 + q) 3) 8)]) rfl ?_
      have hH := mv_S hP82 hH
      exact mv_reti Cx hr hH hS (by rw [loR, if_neg (by rw [esw]; decide), if_neg (by rw [esw]; decide), if_neg (by rw [esw]; decide), if_neg (by rw [esw]; decide), if_neg (by rw [esw]; decide), if_neg (by rw [esw]; decide), if_pos esw]) (rfl) dX7_look_85 hlocks
    · skip
      refine lv_tableIn (off := 85) (tgt := 86) hx hb dX7_look_1 (by rw [esw]; decide) (by rw [esw]; decide) (by rw [esw]; decide) (by decide) ?_
      refine lv_aload_n hx hb dX7_look_86 rfl (lv_at hl 0 rfl) ?_
      refine g_X7_tape Cx hG hH q_fl_X7_30 dX7_look_87 ?_
      refine g_X0_size Cx hG hH (by decide) q_fl_X7_89 dX7_look_90 ?_
      refine mv_eqi (x' := nI ts.length) (hts.1) ?_
      exact mv_reti Cx hr hH hS (by rw [loR, if_neg (by rw [esw]; decide), if_neg (by rw [esw]; decide), if_neg (by rw [esw]; decide), if_neg (by rw [esw]; decide), if_neg (by rw [esw]; decide), if_neg (by rw [esw]; decide), if_neg (by rw [esw]; decide), if_pos esw]) (rfl) dX7_look_93 hlocks

set_option maxHeartbeats 4000000 in
set_option maxRecDepth 100000 in
theorem c_X7_count (l : Launch) (E : mEv) (A : Nat → Prop) (hO : mOwn mLC E A) (S : mSt) (x y : Int32) : Met l yX7_count (Cond.code yX7_count cX7_count 5 (some .int) :: mv_ws) (mRm 5 113) (mPc mLC E A S [.ref (mAdC E 0 0), .int x, .int y]) (mQ mLC E A (fun S' => (voO S x 1 = none → S' = S) ∧ ∀ i, voO S x 1 = some i → ((acP S i y 3).1 = 0 → ∃ S1, S' = mJ S1 0 0 12 (if coN (acP S i y 3).2 i < (acP S i y 3).2.2.2 0 0 12 then (acP S i y 3).2.2.2 0 0 12 else coN (acP S i y 3).2 i) ∧ bHas S1 (3 + (4 + i)) (w4 (((coN (acP S i y 3).2 i).toUInt64 >>> ((32 : Int32).toInt64.toUInt64 &&& Int64.toUInt64 63)).toInt64).toInt32 ++ w4 (coN (acP S i y 3).2 i).toInt32) ∧ mSame (bX (3 + (4 + i))) (mM (mJ (acP S i y 3).2 26 i 4 (coN (acP S i y 3).2 i)) 26 i 2 1) S1) ∧ (¬ (acP S i y 3).1 = 0 → S' = (acP S i y 3).2)) (some (.int ((voO S x 1).elim (-2) (fun i => if (acP S i y 3).1 = 0 then (coN (acP S i y 3).2 i &&& 2147483647).toInt32 else (acP S i y 3).1))))) 0 0 A := by
  refine Met.ofW (cc := cX7_count) (maxL := 5) (ret := (some .int)) (by decide) rfl ?_
  intro p e s m args below meth c s₁ B hml hv
  obtain ⟨rfl, hG, hH⟩ := hv
  have hx := B.exec
  have hb := B.bytes
  have hr := B.returns
  have hlocks := B.notSynchronized
  have Cx : CallFix p m c cX7_count 5 s ([.ref (mAdC E 0 0), .int x, .int y] : List Value).toArray (Cond.code yX7_count cX7_count 5 (some .int) :: mv_ws) RX7 := ⟨hx, hb, hml, findClass_of_methodNamed B.named, atoms_spec (ws := Cond.code yX7_count cX7_count 5 (some .int) :: mv_ws) B.pre⟩
  have hS : va_S A s.heap s.heap [] := va_S.rf
  have hl := lv_entry ([.ref (mAdC E 0 0), .int x, .int y]) (n := 5) (Nat.le_of_ble_eq_true rfl)
  rw [lg_entry_eq]
  generalize (lg_sl ([.ref (mAdC E 0 0), .int x, .int y]) ++ List.replicate (5 - (lg_sl ([.ref (mAdC E 0 0), .int x, .int y])).length) Slot.unset).toArray = ls at hl ⊢
  have hl : lv_has ls 5 [(0, .ref (mAdC E 0 0)), (1, .int x), (2, .int y)] := hl
  refine lv_aload_n hx hb dX7_count_0 rfl (lv_at hl 0 rfl) ?_
  refine lv_iload_n hx hb dX7_count_1 rfl (lv_at hl 1 rfl) ?_
  refine lv_iconst (v := 1) hx hb dX7_count_2 (by decide) ?_
  obtain ⟨oq, hvo⟩ : ∃ oq, voO S x 1 = oq := ⟨_, rfl⟩
  rcases oq with _ | i
  · skip
    refine mv_callV (Y := mLC) (C := RX7) (k := 0) (i := 0) (rest := []) Cx hG hH hS (X7_valueOf_n l E A hO S x 1 hvo) q_co_X7_valueOf q_ml_X7_227 q_im_X7_valueOf q_se_X7_valueOf q_in_X7 okC_0 rfl rfl hd_X7_valueOf ⟨Nat.le_of_ble_eq_true rfl, Nat.le_of_ble_eq_true rfl⟩ rfl hl.1 rfl (Nat.le_of_ble_eq_true rfl) ⟨Nat.le_of_ble_eq_true rfl, Nat.le_of_ble_eq_true rfl⟩ dX7_count_3 (fun S3 H locs hP3 hH hS => ?_)
    refine W.eq (g2 := F0 m 6 ls [.null]) rfl ?_
    have hH := mv_S hP3 hH
    refine lv_astore_nN (lv' := [(3, .null), (0, .ref (mAdC E 0 0)), (1, .int x), (2, .int y)]) hx hb dX7_count_6 rfl hl (by decide) rfl (fun ls hl => ?_)
    refine lv_aload_nN hx hb dX7_count_7 rfl (lv_at hl 0 rfl) ?_
    refine lv_ifnonnullN hx hb dX7_count_8 ?_
    refine lv_bipush (v := (-2 : Int32)) hx hb dX7_count_11 (by decide) ?_
    exact mv_reti Cx hr hH hS (by rw [hvo]; rfl) (⟨fun _ => rfl, fun i h => by (rw [hvo] at h; cases h)⟩) dX7_count_13 hlocks
  · skip
    obtain ⟨hva, hkd⟩ := voO_some hvo
    obtain ⟨hxi, hi, hop⟩ := vaO_some hva
    refine mv_callV (Y := mLC) (C := RX7) (k := 0) (i := 0) (rest := []) Cx hG hH hS (X7_valueOf_s l E A hO S x 1 i hvo) q_co_X7_valueOf q_ml_X7_227 q_im_X7_valueOf q_se_X7_valueOf q_in_X7 okC_0 rfl rfl hd_X7_valueOf ⟨Nat.le_of_ble_eq_true rfl, Nat.le_of_ble_eq_true rfl⟩ rfl hl.1 rfl (Nat.le_of_ble_eq_true rfl) ⟨Nat.le_of_ble_eq_true rfl, Nat.le_of_ble_eq_true rfl⟩ dX7_count_3 (fun S3 H locs hP3 hH hS => ?_)
    refine W.eq (g2 := F0 m 6 ls [.ref (mAdC E 26 i)]) rfl ?_
    have hH := mv_S hP3 hH
    refine lv_astore_n (lv' := [(3, .ref (mAdC E 26 i)), (0, .ref (mAdC E 0 0)), (1, .int x), (2, .int y)]) hx hb dX7_count_6 rfl hl (by decide) rfl (fun ls hl => ?_)
    refine lv_aload_n hx hb dX7_count_7 rfl (lv_at hl 0 rfl) ?_
    refine lv_ifnonnull (tgt := 14) hx hb dX7_count_8 (by decide) ?_
    refine lv_aload_n hx hb dX7_count_14 rfl (lv_at hl 1 rfl) ?_
    refine lv_aload_n hx hb dX7_count_15 rfl (lv_at hl 0 rfl) ?_
    refine lv_iload_n hx hb dX7_count_16 rfl (lv_at hl 3 rfl) ?_
    refine lv_iconst (v := 3) hx hb dX7_count_17 (by decide) ?_
    refine mv_callV (Y := mLC) (C := RX7) (k := 0) (i := 0) (rest := []) Cx hG hH hS (c_X7_askToChange l E A hO S i hi y 3) q_co_X7_askToChange q_ml_X7_235 q_im_X7_askToChange q_se_X7_askToChange q_in_X7 okC_0 rfl rfl hd_X7_askToChange ⟨Nat.le_of_ble_eq_true rfl, Nat.le_of_ble_eq_true rfl⟩ rfl hl.1 rfl (Nat.le_of_ble_eq_true rfl) ⟨Nat.le_of_ble_eq_true rfl, Nat.le_of_ble_eq_true rfl⟩ dX7_count_18 (fun S18 H locs hP18 hH hS => ?_)
    refine W.eq (g2 := F0 m 21 ls [.int ((acP S i y 3).1)]) rfl ?_
    refine lv_istore (lv' := [(4, .int ((acP S i y 3).1)), (3, .ref (mAdC E 26 i)), (0, .ref (mAdC E 0 0)), (1, .int x), (2, .int y)]) hx hb dX7_count_21 hl (by decide) rfl (fun ls hl => ?_)
    refine lv_iload hx hb dX7_count_23 (lv_at hl 0 rfl) ?_
    refine lv_if_eq (tgt := 31) hx hb dX7_count_25 (by decide) (fun h25 => ?_) (fun h25 => ?_)
    · skip
      refine lv_aload_n hx hb dX7_count_31 rfl (lv_at hl 1 rfl) ?_
      refine lv_aload_n hx hb dX7_count_32 rfl (lv_at hl 1 rfl) ?_
      refine g_X6_written Cx hG hH hi q_fl_X7_238 dX7_count_33 ?_
      refine lv_if_eq (tgt := 46) hx hb dX7_count_36 (by decide) (fun h36 => ?_) (fun h36 => ?_)
      · skip
        refine lv_aload_n hx hb dX7_count_46 rfl (lv_at hl 2 rfl) ?_
        refine g_X7_greatest Cx hG hH q_fl_X7_245 dX7_count_47 ?_
        refine lv_lconst (v := 1) hx hb dX7_count_50 (by decide) ?_
        refine lv_ladd hx hb dX7_count_51 ?_
        refine mv_eql (x' := coN S18 i) (by rw [coN, if_pos h36]) ?_
        refine p_X6_number Cx hG hO hH hS hi q_fl_X7_241 dX7_count_52 (fun H locs hH hS => ?_)
        refine lv_aload_n hx hb dX7_count_55 rfl (lv_at hl 1 rfl) ?_
        refine lv_iconst (v := 1) hx hb dX7_count_56 (by decide) ?_
        refine p_X6_written Cx hG hO hH hS hi (Or.inr rfl) q_fl_X7_238 dX7_count_57 (fun H locs hH hS => ?_)
        refine lv_aload_n hx hb dX7_count_60 rfl (lv_at hl 1 rfl) ?_
        refine mv_callV (Y := mLC) (C := RX6) (k := 26) (i := i) (rest := []) Cx hG hH hS (c_X6_spellNumber l E A hO (mM (mJ S18 26 i 4 (coN S18 i)) 26 i 2 1) i hi) q_co_X6_spellNumber q_ml_X7_248 q_im_X6_spellNumber q_se_X6_spellNumber q_in_X6 (okC_26 hi) rfl rfl hd_X6_spellNumber ⟨Nat.le_of_ble_eq_true rfl, Nat.le_of_ble_eq_true rfl⟩ rfl hl.1 rfl (Nat.le_of_ble_eq_true rfl) ⟨Nat.le_of_ble_eq_true rfl, Nat.le_of_ble_eq_true rfl⟩ dX7_count_61 (fun S61 H locs hP61 hH hS => ?_)
        refine W.eq (g2 := F0 m 64 ls []) rfl ?_
        refine lv_aload_n hx hb dX7_count_64 rfl (lv_at hl 2 rfl) ?_
        refine lv_aload_n hx hb dX7_count_65 rfl (lv_at hl 2 rfl) ?_
        refine g_X7_greatest Cx hG hH q_fl_X7_245 dX7_count_66 ?_
        refine mv_eql (x' := S18.2.2 0 0 12) (((hP61.2 0 0 (by simp [bX])).2.2 12).trans (by simp [mM, mJ, m3])) ?_
        refine lv_aload_n hx hb dX7_count_69 rfl (lv_at hl 1 rfl) ?_
        refine g_X6_number Cx hG hH hi q_fl_X7_241 dX7_count_70 ?_
        refine mv_eql (x' := coN S18 i) (((hP61.2 26 i (by simp [bX])).2.2 4).trans (by simp [mM, mJ, m3])) ?_
        refine va_mmax_long hx hb (Cx.2.2.1.trans hl.1.symm) Cx.2.2.2.1 (Cx.2.2.2.2 _ (List.mem_cons_of_mem _ q_ml_X7_251)) (Cx.2.2.2.2 _ (List.mem_cons_of_mem _ q_st_J9_max_f86c9)) (Cx.2.2.2.2 _ (List.mem_cons_of_mem _ q_in_J9)) (Cx.2.2.2.2 _ (List.mem_cons_of_mem _ q_co_J9_max_f86c9)) (Nat.le_of_ble_eq_true rfl) (Nat.le_of_ble_eq_true rfl) (Nat.le_refl _) (Nat.le_refl _) dX7_count_73 ?_
        refine p_X7_greatest Cx hG hO hH hS q_fl_X7_245 dX7_count_76 (fun H locs hH hS => ?_)
        refine lv_aload_n hx hb dX7_count_79 rfl (lv_at hl 1 rfl) ?_
        refine g_X6_number Cx hG hH hi q_fl_X7_241 dX7_count_80 ?_
        refine mv_eql (x' := coN S18 i) ((show (mJ S61 0 0 12 _).2.2 26 i 4 = S61.2.2 26 i 4 by simp [mJ, m3]).trans (((hP61.2 26 i (by simp [bX])).2.2 4).trans (by simp [mM, mJ, m3]))) ?_
        refine lv_ldc2 hx hb Cx.2.2.2.1 (Cx.2.2.2.2 _ (List.mem_cons_of_mem _ q_k_X7_257)) dX7_count_83 ?_
        refine lv_land hx hb dX7_count_86 ?_
        refine lv_l2i hx hb dX7_count_87 rfl ?_
        exact mv_reti Cx hr hH hS (by rw [hvo, hP18]; exact (if_pos h25).symm) (⟨fun h => by (rw [hvo] at h; cases h), fun j h => by (rw [hvo] at h; cases h; rw [← hP18]; exact ⟨fun _ => ⟨S61, rfl, by have q := hP61.1; simpa [mM, mJ, m3] using q, hP61.2⟩, fun q => absurd h25 q⟩)⟩) dX7_count_88 hlocks
      · skip
        refine lv_aload_n hx hb dX7_count_39 rfl (lv_at hl 1 rfl) ?_
        refine g_X6_number Cx hG hH hi q_fl_X7_241 dX7_count_40 ?_
        refine lv_goto (tgt := 50) hx hb dX7_count_43 (by decide) ?_
        refine lv_lconst (v := 1) hx hb dX7_count_50 (by decide) ?_
        refine lv_ladd hx hb dX7_count_51 ?_
        refine mv_eql (x' := coN S18 i) (by rw [coN, if_neg h36]) ?_
        refine p_X6_number Cx hG hO hH hS hi q_fl_X7_241 dX7_count_52 (fun H locs hH hS => ?_)
        refine lv_aload_n hx hb dX7_count_55 rfl (lv_at hl 1 rfl) ?_
        refine lv_iconst (v := 1) hx hb dX7_count_56 (by decide) ?_
        refine p_X6_written Cx hG hO hH hS hi (Or.inr rfl) q_fl_X7_238 dX7_count_57 (fun H locs hH hS => ?_)
        refine lv_aload_n hx hb dX7_count_60 rfl (lv_at hl 1 rfl) ?_
        refine mv_callV (Y := mLC) (C := RX6) (k := 26) (i := i) (rest := []) Cx hG hH hS (c_X6_spellNumber l E A hO (mM (mJ S18 26 i 4 (coN S18 i)) 26 i 2 1) i hi) q_co_X6_spellNumber q_ml_X7_248 q_im_X6_spellNumber q_se_X6_spellNumber q_in_X6 (okC_26 hi) rfl rfl hd_X6_spellNumber ⟨Nat.le_of_ble_eq_true rfl, Nat.le_of_ble_eq_true rfl⟩ rfl hl.1 rfl (Nat.le_of_ble_eq_true rfl) ⟨Nat.le_of_ble_eq_true rfl, Nat.le_of_ble_eq_true rfl⟩ dX7_count_61 (fun S61 H locs hP61 hH hS => ?_)
        refine W.eq (g2 := F0 m 64 ls []) rfl ?_
        refine lv_aload_n hx hb dX7_count_64 rfl (lv_at hl 2 rfl) ?_
        refine lv_aload_n hx hb dX7_count_65 rfl (lv_at hl 2 rfl) ?_
        refine g_X7_greatest Cx hG hH q_fl_X7_245 dX7_count_66 ?_
        refine mv_eql (x' := S18.2.2 0 0 12) (((hP61.2 0 0 (by simp [bX])).2.2 12).trans (by simp [mM, mJ, m3])) ?_
        refine lv_aload_n hx hb dX7_count_69 rfl (lv_at hl 1 rfl) ?_
        refine g_X6_number Cx hG hH hi q_fl_X7_241 dX7_count_70 ?_
        refine mv_eql (x' := coN S18 i) (((hP61.2 26 i (by simp [bX])).2.2 4).trans (by simp [mM, mJ, m3])) ?_
        refine va_mmax_long hx hb (Cx.2.2.1.trans hl.1.symm) Cx.2.2.2.1 (Cx.2.2.2.2 _ (List.mem_cons_of_mem _ q_ml_X7_251)) (Cx.2.2.2.2 _ (List.mem_cons_of_mem _ q_st_J9_max_f86c9)) (Cx.2.2.2.2 _ (List.mem_cons_of_mem _ q_in_J9)) (Cx.2.2.2.2 _ (List.mem_cons_of_mem _ q_co_J9_max_f86c9)) (Nat.le_of_ble_eq_true rfl) (Nat.le_of_ble_eq_true rfl) (Nat.le_refl _) (Nat.le_refl _) dX7_count_73 ?_
        refine p_X7_greatest Cx hG hO hH hS q_fl_X7_245 dX7_count_76 (fun H locs hH hS => ?_)
        refine lv_aload_n hx hb dX7_count_79 rfl (lv_at hl 1 rfl) ?_
        refine g_X6_number Cx hG hH hi q_fl_X7_241 dX7_count_80 ?_
        refine mv_eql (x' := coN S18 i) ((show (mJ S61 0 0 12 _).2.2 26 i 4 = S61.2.2 26 i 4 by simp [mJ, m3]).trans (((hP61.2 26 i (by simp [bX])).2.2 4).trans (by simp [mM, mJ, m3]))) ?_
        refine lv_ldc2 hx hb Cx.2.2.2.1 (Cx.2.2.2.2 _ (List.mem_cons_of_mem _ q_k_X7_257)) dX7_count_83 ?_
        refine lv_land hx hb dX7_count_86 ?_
        refine lv_l2i hx hb dX7_count_87 rfl ?_
        exact mv_reti Cx hr hH hS (by rw [hvo, hP18]; exact (if_pos h25).symm) (⟨fun h => by (rw [hvo] at h; cases h), fun j h => by (rw [hvo] at h; cases h; rw [← hP18]; exact ⟨fun _ => ⟨S61, rfl, by have q := hP61.1; simpa [mM, mJ, m3] using q, hP61.2⟩, fun q => absurd h25 q⟩)⟩) dX7_count_88 hlocks
    · skip
      refine lv_iload hx hb dX7_count_28 (lv_at hl 0 rfl) ?_
      exact mv_reti Cx hr hH hS (by rw [hvo]; exact (if_neg h25).symm) (⟨fun h => by (rw [hvo] at h; cases h), fun j h => by (rw [hvo] at h; cases h; exact ⟨fun q => absurd q h25, fun _ => hP18⟩)⟩) dX7_count_30 hlocks
