/-! ===== the reference: registers and sessions ===== -/
def seM (i : Nat) : Nat → Nat → Prop := fun k j => (k = 23 ∧ 32 * i ≤ j ∧ j < 32 * i + 32) ∨ ((k = 22 ∨ k = 24 ∨ k = 25 ∨ k = 26 ∨ k = 27 ∨ k = 28 ∨ k = 29) ∧ j = i)
theorem nHas.nil' {c cap : Nat} {S : mSt} (h : S.1 0 0 c = 0) : nHas c cap S [] := ⟨h.trans nI_0.symm, Nat.zero_le _, fun j h => absurd h (Nat.not_lt_zero _)⟩
theorem lt_not_ge {x y : Int32} (h : y ≤ x) : ¬ x < y := Int32.not_lt.mpr h
set_option maxHeartbeats 4000000 in
set_option maxRecDepth 100000 in
theorem c_X8_extend (l : Launch) (E : mEv) (A : Nat → Prop) (hO : mOwn mLM E A) (S : mSt) (x : Int32) (ts : List Int8) (hts : nHas 1 400 S ts) : Met l yX8_extend (Cond.code yX8_extend cX8_extend 3 (some .int) :: mv_ws) (mRm 4 112) (mPc mLM E A S [.ref (mAdM E 0 0), .int x]) (mQ mLM E A (fun S' => nHas 1 400 S' [] ∧ (∀ r, x.toNatClampNeg = r → (¬ x < 0 ∧ x < nI 8) → (∀ j, j < 32 → S'.2.1 16 0 (32 * r + j) = shaL (mTk (fun j => S.2.1 16 0 (32 * r + j)) 32 ++ mTk (shaL ts) 32) j) ∧ (∀ q, q < 4 → S'.1 25 0 q = if S.1 25 0 q = 0 ∧ S.1 24 0 q = 0 then 0 else 1) ∧ nSame (fun k j => scM k j ∨ nX 1 k j ∨ (k = 16 ∧ 32 * r ≤ j ∧ j < 32 * r + 32) ∨ (k = 25 ∧ j < 4)) S S') ∧ (¬ (¬ x < 0 ∧ x < nI 8) → nSame (nX 1) S S')) (some (.int (if ¬ x < 0 ∧ x < nI 8 then 0 else -1)))) 0 0 A := by
  refine Met.ofW (cc := cX8_extend) (maxL := 3) (ret := (some .int)) (by decide) rfl ?_
  intro p e s m args below meth c s₁ B hml hv
  obtain ⟨rfl, hG, hH⟩ := hv
  have hx := B.exec
  have hb := B.bytes
  have hr := B.returns
  have hlocks := B.notSynchronized
  have Cx : CallFix p m c cX8_extend 3 s ([.ref (mAdM E 0 0), .int x] : List Value).toArray (Cond.code yX8_extend cX8_extend 3 (some .int) :: mv_ws) RX8 := ⟨hx, hb, hml, findClass_of_methodNamed B.named, atoms_spec (ws := Cond.code yX8_extend cX8_extend 3 (some .int) :: mv_ws) B.pre⟩
  have hS : va_S A s.heap s.heap [] := va_S.rf
  have hlen := hts.2.1
  have hl := lv_entry ([.ref (mAdM E 0 0), .int x]) (n := 3) (Nat.le_of_ble_eq_true rfl)
  rw [lg_entry_eq]
  generalize (lg_sl ([.ref (mAdM E 0 0), .int x]) ++ List.replicate (3 - (lg_sl ([.ref (mAdM E 0 0), .int x])).length) Slot.unset).toArray = ls at hl ⊢
  have hl : lv_has ls 3 [(0, .ref (mAdM E 0 0)), (1, .int x)] := hl
  refine lv_iload_n hx hb dX8_extend_0 rfl (lv_at hl 1 rfl) ?_
  refine lv_if_lt (tgt := 14) hx hb dX8_extend_1 (by decide) (fun h1 => ?_) (fun h1 => ?_)
  · skip
    refine lv_iconst (v := 0) hx hb dX8_extend_14 (by decide) ?_
    refine lv_istore_n (lv' := [(2, .int 0), (0, .ref (mAdM E 0 0)), (1, .int x)]) hx hb dX8_extend_15 rfl hl (by decide) rfl (fun ls hl => ?_)
    refine lv_iload_n hx hb dX8_extend_16 rfl (lv_at hl 0 rfl) ?_
    refine lv_if_eq (tgt := 75) hx hb dX8_extend_17 (by decide) (fun h17 => ?_) (fun h17 => ?_)
    · skip
      refine lv_aload_n hx hb dX8_extend_75 rfl (lv_at hl 1 rfl) ?_
      refine lv_iconst (v := 0) hx hb dX8_extend_76 (by decide) ?_
      refine p_X8_tapeLength Cx hG hO hH hS q_fl_X8_137 dX8_extend_77 (fun H locs hH hS => ?_)
      refine lv_iload_n hx hb dX8_extend_80 rfl (lv_at hl 0 rfl) ?_
      refine lv_if_eq (tgt := 88) hx hb dX8_extend_81 (by decide) (fun h81 => ?_) (fun h81 => ?_)
      · skip
        refine lv_iconst (v := (-1 : Int32)) hx hb dX8_extend_88 (by decide) ?_
        exact mv_reti Cx hr hH hS ((if_neg (fun q => q.1 h1)).symm) (⟨nHas.nil' (by simp [mM, m3]), fun _ _ h => absurd h (fun q => q.1 h1), fun _ => nSame.M (by simp [scM, nX, hX, seM])⟩) dX8_extend_89 hlocks
      · skip
        exact absurd rfl h81
    · skip
      exact absurd rfl h17
  · skip
    refine lv_iload_n hx hb dX8_extend_4 rfl (lv_at hl 1 rfl) ?_
    refine lv_bipush (v := 8) hx hb dX8_extend_5 (by decide) ?_
    refine lv_icmp_ge (tgt := 14) hx hb dX8_extend_7 (by decide) (fun h7 => ?_) (fun h7 => ?_)
    · skip
      refine lv_iconst (v := 0) hx hb dX8_extend_14 (by decide) ?_
      refine lv_istore_n (lv' := [(2, .int 0), (0, .ref (mAdM E 0 0)), (1, .int x)]) hx hb dX8_extend_15 rfl hl (by decide) rfl (fun ls hl => ?_)
      refine lv_iload_n hx hb dX8_extend_16 rfl (lv_at hl 0 rfl) ?_
      refine lv_if_eq (tgt := 75) hx hb dX8_extend_17 (by decide) (fun h17 => ?_) (fun h17 => ?_)
      · skip
        refine lv_aload_n hx hb dX8_extend_75 rfl (lv_at hl 1 rfl) ?_
        refine lv_iconst (v := 0) hx hb dX8_extend_76 (by decide) ?_
        refine p_X8_tapeLength Cx hG hO hH hS q_fl_X8_137 dX8_extend_77 (fun H locs hH hS => ?_)
        refine lv_iload_n hx hb dX8_extend_80 rfl (lv_at hl 0 rfl) ?_
        refine lv_if_eq (tgt := 88) hx hb dX8_extend_81 (by decide) (fun h81 => ?_) (fun h81 => ?_)
        · skip
          refine lv_iconst (v := (-1 : Int32)) hx hb dX8_extend_88 (by decide) ?_
          exact mv_reti Cx hr hH hS ((if_neg (fun q => lt_not_ge h7 q.2)).symm) (⟨nHas.nil' (by simp [mM, m3]), fun _ _ h => absurd h (fun q => lt_not_ge h7 q.2), fun _ => nSame.M (by simp [scM, nX, hX, seM])⟩) dX8_extend_89 hlocks
        · skip
          exact absurd rfl h81
      · skip
        exact absurd rfl h17
    · skip
      obtain ⟨r, hr8, hxr⟩ := ix_of (n := 8) (by decide) h1 h7
      have hlt : x < nI 8 := by rw [hxr]; exact (nI_ltI (by omega) (by decide)).mpr hr8
      have hcl : x.toNatClampNeg = r := by rw [hxr]; exact nI_clamp (by omega)
      have hl : lv_has ls 3 [(0, .ref (mAdM E 0 0)), (1, .int (nI r))] := by rw [← hxr]; exact hl
      refine lv_iconst (v := 1) hx hb dX8_extend_10 (by decide) ?_
      refine lv_goto (tgt := 15) hx hb dX8_extend_11 (by decide) ?_
      refine lv_istore_n (lv' := [(2, .int 1), (0, .ref (mAdM E 0 0)), (1, .int (nI r))]) hx hb dX8_extend_15 rfl hl (by decide) rfl (fun ls hl => ?_)
      refine lv_iload_n hx hb dX8_extend_16 rfl (lv_at hl 0 rfl) ?_
      refine lv_if_eq (tgt := 75) hx hb dX8_extend_17 (by decide) (fun h17 => ?_) (fun h17 => ?_)
      · skip
        exact absurd h17 (by decide)
      · skip
        refine lv_aload_n hx hb dX8_extend_20 rfl (lv_at hl 1 rfl) ?_
        refine lv_aload_n hx hb dX8_extend_21 rfl (lv_at hl 1 rfl) ?_
        refine g_X8_macKey Cx hG hH q_fl_X8_29 dX8_extend_22 ?_
        refine lv_iconst (v := 0) hx hb dX8_extend_25 (by decide) ?_
        refine mv_eqi (x' := nI 0) (rfl) ?_
        refine mv_callV (Y := mLM) (C := RX8) (k := 0) (i := 0) (rest := []) Cx hG hH hS (c_X8_tapeHash l E A hO S 10 32 isM_10 (by decide) 0 (by decide) ts hts) q_co_X8_tapeHash q_ml_X8_146 q_im_X8_tapeHash q_se_X8_tapeHash q_in_X8 okM_0 rfl rfl hd_X8_tapeHash ⟨Nat.le_of_ble_eq_true rfl, Nat.le_of_ble_eq_true rfl⟩ rfl hl.1 rfl (Nat.le_of_ble_eq_true rfl) ⟨Nat.le_of_ble_eq_true rfl, Nat.le_of_ble_eq_true rfl⟩ dX8_extend_26 (fun S26 H locs hP26 hH hS => ?_)
        refine W.eq (g2 := F0 m 29 ls []) rfl ?_
        refine lv_aload_n hx hb dX8_extend_29 rfl (lv_at hl 1 rfl) ?_
        refine lv_iconst (v := 0) hx hb dX8_extend_30 (by decide) ?_
        refine p_X8_rowCount Cx hG hO hH hS q_fl_X8_100 dX8_extend_31 (fun H locs hH hS => ?_)
        refine lv_aload_n hx hb dX8_extend_34 rfl (lv_at hl 1 rfl) ?_
        refine lv_aload_n hx hb dX8_extend_35 rfl (lv_at hl 1 rfl) ?_
        refine g_X8_register Cx hG hH q_fl_X8_44 dX8_extend_36 ?_
        refine lv_bipush (v := 32) hx hb dX8_extend_39 (by decide) ?_
        refine lv_iload_n hx hb dX8_extend_41 rfl (lv_at hl 2 rfl) ?_
        refine lv_imul hx hb dX8_extend_42 ?_
        refine mv_eqi (x' := nI (32 * r)) (pk_mul 32 r) ?_
        refine lv_bipush (v := 32) hx hb dX8_extend_43 (by decide) ?_
        refine mv_eqi (x' := nI 32) (rfl) ?_
        refine mv_callV (Y := mLM) (C := RX8) (k := 0) (i := 0) (rest := []) Cx hG hH hS (c_X8_add_ l E A hO (mM S26 0 0 5 0) 16 256 isM_16 (by decide) (32 * r) 32 (by omega) [] nHas.nil (by decide)) q_co_X8_add_ q_ml_X8_134 q_im_X8_add_ q_se_X8_add_ q_in_X8 okM_0 rfl rfl hd_X8_add_ ⟨Nat.le_of_ble_eq_true rfl, Nat.le_of_ble_eq_true rfl⟩ rfl hl.1 rfl (Nat.le_of_ble_eq_true rfl) ⟨Nat.le_of_ble_eq_true rfl, Nat.le_of_ble_eq_true rfl⟩ dX8_extend_45 (fun S45 H locs hP45 hH hS => ?_)
        refine W.eq (g2 := F0 m 48 ls []) rfl ?_
        refine lv_aload_n hx hb dX8_extend_48 rfl (lv_at hl 1 rfl) ?_
        refine lv_aload_n hx hb dX8_extend_49 rfl (lv_at hl 1 rfl) ?_
        refine g_X8_macKey Cx hG hH q_fl_X8_29 dX8_extend_50 ?_
        refine lv_iconst (v := 0) hx hb dX8_extend_53 (by decide) ?_
        refine mv_eqi (x' := nI 0) (rfl) ?_
        refine lv_bipush (v := 32) hx hb dX8_extend_54 (by decide) ?_
        refine mv_eqi (x' := nI 32) (rfl) ?_
        refine mv_callV (Y := mLM) (C := RX8) (k := 0) (i := 0) (rest := []) Cx hG hH hS (c_X8_add_ l E A hO S45 10 32 isM_10 (by decide) 0 32 (by decide) _ hP45.1 (by simp [mTk_len])) q_co_X8_add_ q_ml_X8_134 q_im_X8_add_ q_se_X8_add_ q_in_X8 okM_0 rfl rfl hd_X8_add_ ⟨Nat.le_of_ble_eq_true rfl, Nat.le_of_ble_eq_true rfl⟩ rfl hl.1 rfl (Nat.le_of_ble_eq_true rfl) ⟨Nat.le_of_ble_eq_true rfl, Nat.le_of_ble_eq_true rfl⟩ dX8_extend_56 (fun S56 H locs hP56 hH hS => ?_)
        refine W.eq (g2 := F0 m 59 ls []) rfl ?_
        have hk : ∀ q, q < 32 → S45.2.1 10 0 (0 + q) = shaL ts q := fun q hq => (hP45.2 10 (0 + q) (by simp only [scM, nX, hX, seM]; omega)).2.1.trans (hP26.1 q hq)
        have hr5 : nHas 5 1024 S56 (mTk (fun j => S.2.1 16 0 (32 * r + j)) 32 ++ mTk (shaL ts) 32) := by have h := hP56.1; rw [List.nil_append] at h; rwa [mTk_congr (g := shaL ts) hk, show mTk (fun q => (mM S26 0 0 5 0).2.1 16 0 (32 * r + q)) 32 = mTk (fun j => S.2.1 16 0 (32 * r + j)) 32 from mTk_congr (fun q hq => (hP26.2 16 _ (by simp only [scM, nX, hX, seM]; omega)).2.1)] at h
        refine lv_aload_n hx hb dX8_extend_59 rfl (lv_at hl 1 rfl) ?_
        refine lv_aload_n hx hb dX8_extend_60 rfl (lv_at hl 1 rfl) ?_
        refine g_X8_register Cx hG hH q_fl_X8_44 dX8_extend_61 ?_
        refine lv_bipush (v := 32) hx hb dX8_extend_64 (by decide) ?_
        refine lv_iload_n hx hb dX8_extend_66 rfl (lv_at hl 2 rfl) ?_
        refine lv_imul hx hb dX8_extend_67 ?_
        refine mv_eqi (x' := nI (32 * r)) (pk_mul 32 r) ?_
        refine mv_callV (Y := mLM) (C := RX8) (k := 0) (i := 0) (rest := []) Cx hG hH hS (c_X8_hashTo l E A hO S56 16 256 isM_16 (by decide) (32 * r) (by omega) _ hr5 (by simp [mTk_len])) q_co_X8_hashTo q_ml_X8_111 q_im_X8_hashTo q_se_X8_hashTo q_in_X8 okM_0 rfl rfl hd_X8_hashTo ⟨Nat.le_of_ble_eq_true rfl, Nat.le_of_ble_eq_true rfl⟩ rfl hl.1 rfl (Nat.le_of_ble_eq_true rfl) ⟨Nat.le_of_ble_eq_true rfl, Nat.le_of_ble_eq_true rfl⟩ dX8_extend_68 (fun S68 H locs hP68 hH hS => ?_)
        refine W.eq (g2 := F0 m 71 ls []) rfl ?_
        refine lv_aload_n hx hb dX8_extend_71 rfl (lv_at hl 1 rfl) ?_
        refine mv_callV (Y := mLM) (C := RX8) (k := 0) (i := 0) (rest := []) Cx hG hH hS (c_X8_change l E A hO S68) q_co_X8_change q_ml_X8_153 q_im_X8_change q_se_X8_change q_in_X8 okM_0 rfl rfl hd_X8_change ⟨Nat.le_of_ble_eq_true rfl, Nat.le_of_ble_eq_true rfl⟩ rfl hl.1 rfl (Nat.le_of_ble_eq_true rfl) ⟨Nat.le_of_ble_eq_true rfl, Nat.le_of_ble_eq_true rfl⟩ dX8_extend_72 (fun S72 H locs hP72 hH hS => ?_)
        refine W.eq (g2 := F0 m 75 ls []) rfl ?_
        have hs68 : nSame (fun k j => scM k j ∨ (k = 16 ∧ 32 * r ≤ j ∧ j < 32 * r + 32)) S S68 := ((((hP26.2.wk (fun k j h => by simp only [scM, nX, hX, seM] at h ⊢; omega)).tr (nSame.M (by simp [scM, nX, hX, seM]))).tr (hP45.2.wk (fun k j h => by simp only [scM, nX, hX, seM] at h ⊢; omega))).tr (hP56.2.wk (fun k j h => by simp only [scM, nX, hX, seM] at h ⊢; omega))).tr (hP68.2.wk (fun k j h => by simp only [scM, nX, hX, seM] at h ⊢; omega))
        refine lv_aload_n hx hb dX8_extend_75 rfl (lv_at hl 1 rfl) ?_
        refine lv_iconst (v := 0) hx hb dX8_extend_76 (by decide) ?_
        refine p_X8_tapeLength Cx hG hO hH hS q_fl_X8_137 dX8_extend_77 (fun H locs hH hS => ?_)
        refine lv_iload_n hx hb dX8_extend_80 rfl (lv_at hl 0 rfl) ?_
        refine lv_if_eq (tgt := 88) hx hb dX8_extend_81 (by decide) (fun h81 => ?_) (fun h81 => ?_)
        · skip
          exact absurd h81 (by decide)
        · skip
          refine lv_iconst (v := 0) hx hb dX8_extend_84 (by decide) ?_
          refine lv_goto (tgt := 89) hx hb dX8_extend_85 (by decide) ?_
          exact mv_reti Cx hr hH hS ((if_pos ⟨h1, hlt⟩).symm) (⟨nHas.nil' (by simp [mM, m3]), fun r' e _ => by (obtain rfl : r = r' := hcl.symm.trans e); exact ⟨fun j hj => (hP72.2 16 _ (by simp only [scM, nX, hX, seM]; omega)).2.1.trans (hP68.1 j hj), fun q hq => by have h := hP72.1 q hq; rw [(hs68 25 q (by simp only [scM, nX, hX, seM]; omega)).1, (hs68 24 q (by simp only [scM, nX, hX, seM]; omega)).1] at h; exact h, ((hs68.wk (fun k j h => by simp only [scM, nX, hX, seM] at h ⊢; omega)).tr (hP72.2.wk (fun k j h => by simp only [scM, nX, hX, seM] at h ⊢; omega))).tr (nSame.M (by simp [scM, nX, hX, seM]))⟩, fun h => absurd ⟨h1, hlt⟩ h⟩) dX8_extend_89 hlocks

set_option maxHeartbeats 4000000 in
set_option maxRecDepth 100000 in
theorem c_X8_reset (l : Launch) (E : mEv) (A : Nat → Prop) (hO : mOwn mLM E A) (S : mSt) (x : Int32) : Met l yX8_reset (Cond.code yX8_reset cX8_reset 3 (some .int) :: mv_ws) (mRm 1 21) (mPc mLM E A S [.ref (mAdM E 0 0), .int x]) (mQ mLM E A (fun S' => (∀ r, x.toNatClampNeg = r → (x = 6 ∨ x = 7) → (∀ q, q < 32 → S'.2.1 16 0 (32 * r + q) = (0 : Int32).toInt8) ∧ (∀ q, q < 4 → S'.1 25 0 q = if S.1 25 0 q = 0 ∧ S.1 24 0 q = 0 then 0 else 1) ∧ nSame (fun k j => (k = 16 ∧ 32 * r ≤ j ∧ j < 32 * r + 32) ∨ (k = 25 ∧ j < 4)) S S') ∧ (¬ (x = 6 ∨ x = 7) → S' = S)) (some (.int (if x = 6 ∨ x = 7 then 0 else -1)))) 0 0 A := by
  refine Met.ofW (cc := cX8_reset) (maxL := 3) (ret := (some .int)) (by decide) rfl ?_
  intro p e s m args below meth c s₁ B hml hv
  obtain ⟨rfl, hG, hH⟩ := hv
  have hx := B.exec
  have hb := B.bytes
  have hr := B.returns
  have hlocks := B.notSynchronized
  have Cx : CallFix p m c cX8_reset 3 s ([.ref (mAdM E 0 0), .int x] : List Value).toArray (Cond.code yX8_reset cX8_reset 3 (some .int) :: mv_ws) RX8 := ⟨hx, hb, hml, findClass_of_methodNamed B.named, atoms_spec (ws := Cond.code yX8_reset cX8_reset 3 (some .int) :: mv_ws) B.pre⟩
  have hS : va_S A s.heap s.heap [] := va_S.rf
  have hl := lv_entry ([.ref (mAdM E 0 0), .int x]) (n := 3) (Nat.le_of_ble_eq_true rfl)
  rw [lg_entry_eq]
  generalize (lg_sl ([.ref (mAdM E 0 0), .int x]) ++ List.replicate (3 - (lg_sl ([.ref (mAdM E 0 0), .int x])).length) Slot.unset).toArray = ls at hl ⊢
  have hl : lv_has ls 3 [(0, .ref (mAdM E 0 0)), (1, .int x)] := hl
  refine lv_iload_n hx hb dX8_reset_0 rfl (lv_at hl 1 rfl) ?_
  refine lv_bipush (v := 6) hx hb dX8_reset_1 (by decide) ?_
  refine lv_icmp_eq (tgt := 14) hx hb dX8_reset_3 (by decide) (fun h3 => ?_) (fun h3 => ?_)
  · skip
    have hxr : x = nI 6 := h3
    have hcl : x.toNatClampNeg = 6 := by rw [hxr]; exact nI_clamp (by decide)
    have hl : lv_has ls 3 [(0, .ref (mAdM E 0 0)), (1, .int (nI 6))] := by rw [← hxr]; exact hl
    refine lv_iconst (v := 0) hx hb dX8_reset_14 (by decide) ?_
    refine mv_eqi (x' := nI 0) (rfl) ?_
    refine lv_istore_n (lv' := [(2, .int (nI 0)), (0, .ref (mAdM E 0 0)), (1, .int (nI 6))]) hx hb dX8_reset_15 rfl hl (by decide) rfl (fun ls hl => ?_)
    have lp : ∀ (fu j : Nat) (S1 : mSt) (H : Heap) (locs : List Loc) (ls : Array Slot) , 32 - j < fu → j ≤ 32 → ((∀ q, q < j → S1.2.1 16 0 (32 * 6 + q) = (0 : Int32).toInt8) ∧ nSame (fun k q => k = 16 ∧ 32 * 6 ≤ q ∧ q < 32 * 6 + 32) S S1) → mHold mLM E S1 H → va_S A s.heap H locs → lv_has ls 3 [(0, .ref (mAdM E 0 0)), (1, .int (nI 6)), (2, .int (nI j))] → W p l e (headSpec (Cond.code yX8_reset cX8_reset 3 (some .int) :: mv_ws) (mRm 1 21)).room s m ([.ref (mAdM E 0 0), .int x] : List Value).toArray below meth c H locs 0 0 (MQ below (mQ mLM E A (fun S' => (∀ r, x.toNatClampNeg = r → (x = 6 ∨ x = 7) → (∀ q, q < 32 → S'.2.1 16 0 (32 * r + q) = (0 : Int32).toInt8) ∧ (∀ q, q < 4 → S'.1 25 0 q = if S.1 25 0 q = 0 ∧ S.1 24 0 q = 0 then 0 else 1) ∧ nSame (fun k j => (k = 16 ∧ 32 * r ≤ j ∧ j < 32 * r + 32) ∨ (k = 25 ∧ j < 4)) S S') ∧ (¬ (x = 6 ∨ x = 7) → S' = S)) (some (.int (if x = 6 ∨ x = 7 then 0 else -1)))) ([.ref (mAdM E 0 0), .int x] : List Value).toArray s 0 0 A) (F0 m 16 ls []) := by
      intro fu
      induction fu with
      | zero => intro j S1 H locs ls  hn hj hinv hH hS hl; omega
      | succ fu ih =>
        intro j S1 H locs ls  hn hj hinv hH hS hl
        refine lv_iload_n hx hb dX8_reset_16 rfl (lv_at hl 2 rfl) ?_
        refine lv_bipush (v := 32) hx hb dX8_reset_17 (by decide) ?_
        refine lv_icmp_ge (tgt := 40) hx hb dX8_reset_19 (by decide) (fun h19 => ?_) (fun h19 => ?_)
        · skip
          have hj32 : j = 32 := by have := ge_of (a := 32) (by decide) (by omega) h19; omega
          rw [hj32] at hinv
          refine lv_aload_n hx hb dX8_reset_40 rfl (lv_at hl 0 rfl) ?_
          refine mv_callV (Y := mLM) (C := RX8) (k := 0) (i := 0) (rest := []) Cx hG hH hS (c_X8_change l E A hO S1) q_co_X8_change q_ml_X8_153 q_im_X8_change q_se_X8_change q_in_X8 okM_0 rfl rfl hd_X8_change ⟨Nat.le_of_ble_eq_true rfl, Nat.le_of_ble_eq_true rfl⟩ rfl hl.1 rfl (Nat.le_of_ble_eq_true rfl) ⟨Nat.le_of_ble_eq_true rfl, Nat.le_of_ble_eq_true rfl⟩ dX8_reset_41 (fun S41 H locs hP41 hH hS => ?_)
          refine W.eq (g2 := F0 m 44 ls []) rfl ?_
          refine lv_iconst (v := 0) hx hb dX8_reset_44 (by decide) ?_
          exact mv_reti Cx hr hH hS ((if_pos (Or.inl h3)).symm) (⟨fun r' e _ => by (obtain rfl : 6 = r' := hcl.symm.trans e); exact ⟨fun j hj => (hP41.2 16 _ (by omega)).2.1.trans (hinv.1 j hj), fun q hq => by have h := hP41.1 q hq; rw [(hinv.2 25 q (by omega)).1, (hinv.2 24 q (by omega)).1] at h; exact h, (hinv.2.wk (fun k j h => Or.inl h)).tr (hP41.2.wk (fun k j h => Or.inr h))⟩, fun h => absurd (Or.inl h3) h⟩) dX8_reset_45 hlocks
        · skip
          have hj32 : j < 32 := lt_of (a := 32) (by decide) (by omega) h19
          refine lv_aload_n hx hb dX8_reset_22 rfl (lv_at hl 0 rfl) ?_
          refine g_X8_register Cx hG hH q_fl_X8_44 dX8_reset_23 ?_
          refine lv_bipush (v := 32) hx hb dX8_reset_26 (by decide) ?_
          refine lv_iload_n hx hb dX8_reset_28 rfl (lv_at hl 1 rfl) ?_
          refine lv_imul hx hb dX8_reset_29 ?_
          refine mv_eqi (x' := nI (32 * 6)) (pk_mul 32 6) ?_
          refine lv_iload_n hx hb dX8_reset_30 rfl (lv_at hl 2 rfl) ?_
          refine lv_iadd hx hb dX8_reset_31 ?_
          refine mv_eqi (x' := nI (32 * 6 + j)) (nI_add _ _) ?_
          refine lv_iconst (v := 0) hx hb dX8_reset_32 (by decide) ?_
          refine mv_bas Cx hG hO hH hS isM_16 (32 * 6 + j) (rfl) (by omega) dX8_reset_33 (fun H locs hH hS => ?_)
          refine lv_iinc (v := nI (j + 1)) (lv' := [(2, .int (nI (j + 1))), (0, .ref (mAdM E 0 0)), (1, .int (nI 6))]) hx hb dX8_reset_34 hl (k := 2) rfl (i2_1 j) (by decide) rfl (fun ls hl => ?_)
          refine lv_goto (tgt := 16) hx hb dX8_reset_37 (by decide) ?_
          exact ih (j + 1) (mB S1 16 0 (32 * 6 + j) (0 : Int32).toInt8) _ _ ls  (by omega) (by omega) (⟨fun q hq => by by_cases e : q = j; (subst e; simp [mB, m3]); (exact (show m3 S1.2.1 16 0 (32 * 6 + j) _ 16 0 (32 * 6 + q) = _ from m3_n _ _ (by omega)).trans (hinv.1 q (by omega))), hinv.2.tr (nSame.B (X := fun k q => k = 16 ∧ 32 * 6 ≤ q ∧ q < 32 * 6 + 32) ⟨rfl, by omega, by omega⟩)⟩) hH hS (lv_sub hl [1, 2, 0] rfl)
    exact lp (32 - 0 + 1) 0 S _ _ ls  (by omega) (by omega) (⟨fun q h => absurd h (Nat.not_lt_zero _), nSame.rf⟩) hH hS (lv_sub hl [1, 2, 0] rfl)
  · skip
    refine lv_iload_n hx hb dX8_reset_6 rfl (lv_at hl 1 rfl) ?_
    refine lv_bipush (v := 7) hx hb dX8_reset_7 (by decide) ?_
    refine lv_icmp_eq (tgt := 14) hx hb dX8_reset_9 (by decide) (fun h9 => ?_) (fun h9 => ?_)
    · skip
      have hxr : x = nI 7 := h9
      have hcl : x.toNatClampNeg = 7 := by rw [hxr]; exact nI_clamp (by decide)
      have hl : lv_has ls 3 [(0, .ref (mAdM E 0 0)), (1, .int (nI 7))] := by rw [← hxr]; exact hl
      refine lv_iconst (v := 0) hx hb dX8_reset_14 (by decide) ?_
      refine mv_eqi (x' := nI 0) (rfl) ?_
      refine lv_istore_n (lv' := [(2, .int (nI 0)), (0, .ref (mAdM E 0 0)), (1, .int (nI 7))]) hx hb dX8_reset_15 rfl hl (by decide) rfl (fun ls hl => ?_)
      have lp : ∀ (fu j : Nat) (S1 : mSt) (H : Heap) (locs : List Loc) (ls : Array Slot) , 32 - j < fu → j ≤ 32 → ((∀ q, q < j → S1.2.1 16 0 (32 * 7 + q) = (0 : Int32).toInt8) ∧ nSame (fun k q => k = 16 ∧ 32 * 7 ≤ q ∧ q < 32 * 7 + 32) S S1) → mHold mLM E S1 H → va_S A s.heap H locs → lv_has ls 3 [(0, .ref (mAdM E 0 0)), (1, .int (nI 7)), (2, .int (nI j))] → W p l e (headSpec (Cond.code yX8_reset cX8_reset 3 (some .int) :: mv_ws) (mRm 1 21)).room s m ([.ref (mAdM E 0 0), .int x] : List Value).toArray below meth c H locs 0 0 (MQ below (mQ mLM E A (fun S' => (∀ r, x.toNatClampNeg = r → (x = 6 ∨ x = 7) → (∀ q, q < 32 → S'.2.1 16 0 (32 * r + q) = (0 : Int32).toInt8) ∧ (∀ q, q < 4 → S'.1 25 0 q = if S.1 25 0 q = 0 ∧ S.1 24 0 q = 0 then 0 else 1) ∧ nSame (fun k j => (k = 16 ∧ 32 * r ≤ j ∧ j < 32 * r + 32) ∨ (k = 25 ∧ j < 4)) S S') ∧ (¬ (x = 6 ∨ x = 7) → S' = S)) (some (.int (if x = 6 ∨ x = 7 then 0 else -1)))) ([.ref (mAdM E 0 0), .int x] : List Value).toArray s 0 0 A) (F0 m 16 ls []) := by
        intro fu
        induction fu with
        | zero => intro j S1 H locs ls  hn hj hinv hH hS hl; omega
        | succ fu ih =>
          intro j S1 H locs ls  hn hj hinv hH hS hl
          refine lv_iload_n hx hb dX8_reset_16 rfl (lv_at hl 2 rfl) ?_
          refine lv_bipush (v := 32) hx hb dX8_reset_17 (by decide) ?_
          refine lv_icmp_ge (tgt := 40) hx hb dX8_reset_19 (by decide) (fun h19 => ?_) (fun h19 => ?_)
          · skip
            have hj32 : j = 32 := by have := ge_of (a := 32) (by decide) (by omega) h19; omega
            rw [hj32] at hinv
            refine lv_aload_n hx hb dX8_reset_40 rfl (lv_at hl 0 rfl) ?_
            refine mv_callV (Y := mLM) (C := RX8) (k := 0) (i := 0) (rest := []) Cx hG hH hS (c_X8_change l E A hO S1) q_co_X8_change q_ml_X8_153 q_im_X8_change q_se_X8_change q_in_X8 okM_0 rfl rfl hd_X8_change ⟨Nat.le_of_ble_eq_true rfl, Nat.le_of_ble_eq_true rfl⟩ rfl hl.1 rfl (Nat.le_of_ble_eq_true rfl) ⟨Nat.le_of_ble_eq_true rfl, Nat.le_of_ble_eq_true rfl⟩ dX8_reset_41 (fun S41 H locs hP41 hH hS => ?_)
            refine W.eq (g2 := F0 m 44 ls []) rfl ?_
            refine lv_iconst (v := 0) hx hb dX8_reset_44 (by decide) ?_
            exact mv_reti Cx hr hH hS ((if_pos (Or.inr h9)).symm) (⟨fun r' e _ => by (obtain rfl : 7 = r' := hcl.symm.trans e); exact ⟨fun j hj => (hP41.2 16 _ (by omega)).2.1.trans (hinv.1 j hj), fun q hq => by have h := hP41.1 q hq; rw [(hinv.2 25 q (by omega)).1, (hinv.2 24 q (by omega)).1] at h; exact h, (hinv.2.wk (fun k j h => Or.inl h)).tr (hP41.2.wk (fun k j h => Or.inr h))⟩, fun h => absurd (Or.inr h9) h⟩) dX8_reset_45 hlocks
          · skip
            have hj32 : j < 32 := lt_of (a := 32) (by decide) (by omega) h19
            refine lv_aload_n hx hb dX8_reset_22 rfl (lv_at hl 0 rfl) ?_
            refine g_X8_register Cx hG hH q_fl_X8_44 dX8_reset_23 ?_
            refine lv_bipush (v := 32) hx hb dX8_reset_26 (by decide) ?_
            refine lv_iload_n hx hb dX8_reset_28 rfl (lv_at hl 1 rfl) ?_
            refine lv_imul hx hb dX8_reset_29 ?_
            refine mv_eqi (x' := nI (32 * 7)) (pk_mul 32 7) ?_
            refine lv_iload_n hx hb dX8_reset_30 rfl (lv_at hl 2 rfl) ?_
            refine lv_iadd hx hb dX8_reset_31 ?_
            refine mv_eqi (x' := nI (32 * 7 + j)) (nI_add _ _) ?_
            refine lv_iconst (v := 0) hx hb dX8_reset_32 (by decide) ?_
            refine mv_bas Cx hG hO hH hS isM_16 (32 * 7 + j) (rfl) (by omega) dX8_reset_33 (fun H locs hH hS => ?_)
            refine lv_iinc (v := nI (j + 1)) (lv' := [(2, .int (nI (j + 1))), (0, .ref (mAdM E 0 0)), (1, .int (nI 7))]) hx hb dX8_reset_34 hl (k := 2) rfl (i2_1 j) (by decide) rfl (fun ls hl => ?_)
            refine lv_goto (tgt := 16) hx hb dX8_reset_37 (by decide) ?_
            exact ih (j + 1) (mB S1 16 0 (32 * 7 + j) (0 : Int32).toInt8) _ _ ls  (by omega) (by omega) (⟨fun q hq => by by_cases e : q = j; (subst e; simp [mB, m3]); (exact (show m3 S1.2.1 16 0 (32 * 7 + j) _ 16 0 (32 * 7 + q) = _ from m3_n _ _ (by omega)).trans (hinv.1 q (by omega))), hinv.2.tr (nSame.B (X := fun k q => k = 16 ∧ 32 * 7 ≤ q ∧ q < 32 * 7 + 32) ⟨rfl, by omega, by omega⟩)⟩) hH hS (lv_sub hl [1, 2, 0] rfl)
      exact lp (32 - 0 + 1) 0 S _ _ ls  (by omega) (by omega) (⟨fun q h => absurd h (Nat.not_lt_zero _), nSame.rf⟩) hH hS (lv_sub hl [1, 2, 0] rfl)
    · skip
      refine lv_iconst (v := (-1 : Int32)) hx hb dX8_reset_12 (by decide) ?_
      exact mv_reti Cx hr hH hS ((if_neg (fun q => q.elim h3 h9)).symm) (⟨fun _ _ h => absurd h (fun q => q.elim h3 h9), fun _ => rfl⟩) dX8_reset_13 hlocks

set_option maxHeartbeats 4000000 in
set_option maxRecDepth 100000 in
theorem c_X8_open (l : Launch) (E : mEv) (A : Nat → Prop) (hO : mOwn mLM E A) (S : mSt) (x : Int32) : Met l yX8_open (Cond.code yX8_open cX8_open 3 (some .int) :: mv_ws) (mRm 1 20) (mPc mLM E A S [.ref (mAdM E 0 0), .int x]) (mQ mLM E A (fun S' => (∀ i, x.toNatClampNeg = i → (¬ x < 0 ∧ x < nI 4) → (∀ q, q < 32 → S'.2.1 23 0 (32 * i + q) = (0 : Int32).toInt8) ∧ S'.1 22 0 i = 1 ∧ S'.1 24 0 i = 0 ∧ S'.1 25 0 i = 0 ∧ S'.1 26 0 i = 0 ∧ S'.1 27 0 i = 0 ∧ S'.1 28 0 i = 0 ∧ nSame (seM i) S S') ∧ (¬ (¬ x < 0 ∧ x < nI 4) → S' = S)) (some (.int (if ¬ x < 0 ∧ x < nI 4 then 0 else -1)))) 0 0 A := by
  refine Met.ofW (cc := cX8_open) (maxL := 3) (ret := (some .int)) (by decide) rfl ?_
  intro p e s m args below meth c s₁ B hml hv
  obtain ⟨rfl, hG, hH⟩ := hv
  have hx := B.exec
  have hb := B.bytes
  have hr := B.returns
  have hlocks := B.notSynchronized
  have Cx : CallFix p m c cX8_open 3 s ([.ref (mAdM E 0 0), .int x] : List Value).toArray (Cond.code yX8_open cX8_open 3 (some .int) :: mv_ws) RX8 := ⟨hx, hb, hml, findClass_of_methodNamed B.named, atoms_spec (ws := Cond.code yX8_open cX8_open 3 (some .int) :: mv_ws) B.pre⟩
  have hS : va_S A s.heap s.heap [] := va_S.rf
  have hl := lv_entry ([.ref (mAdM E 0 0), .int x]) (n := 3) (Nat.le_of_ble_eq_true rfl)
  rw [lg_entry_eq]
  generalize (lg_sl ([.ref (mAdM E 0 0), .int x]) ++ List.replicate (3 - (lg_sl ([.ref (mAdM E 0 0), .int x])).length) Slot.unset).toArray = ls at hl ⊢
  have hl : lv_has ls 3 [(0, .ref (mAdM E 0 0)), (1, .int x)] := hl
  refine lv_iload_n hx hb dX8_open_0 rfl (lv_at hl 1 rfl) ?_
  refine mv_callS (Y := mLM) (rest := []) Cx hG hH hS (c_X8_isSession l E A hO S x) q_co_X8_isSession q_ml_X8_178 q_st_X8_isSession q_in_X8 hd_X8_isSession ⟨Nat.le_of_ble_eq_true rfl, Nat.le_of_ble_eq_true rfl⟩ rfl hl.1 rfl (Nat.le_of_ble_eq_true rfl) ⟨Nat.le_of_ble_eq_true rfl, Nat.le_of_ble_eq_true rfl⟩ dX8_open_1 (fun S1 H locs hP1 hH hS => ?_)
  refine W.eq (g2 := F0 m 4 ls [.int (if x < 0 then 0 else if (4 : Int32) ≤ x then 0 else 1)]) rfl ?_
  have hH := mv_S hP1 hH
  refine lv_if_ne (tgt := 9) hx hb dX8_open_4 (by decide) (fun h4 => ?_) (fun h4 => ?_)
  · skip
    have h0 : ¬ x < 0 := fun h => h4 (if_pos h)
    have h5 : ¬ nI 4 ≤ x := fun h => h4 ((if_neg h0).trans (if_pos h))
    obtain ⟨i, hi, hxi⟩ := ix_of (n := 4) (by decide) h0 h5
    have hlt : x < nI 4 := by rw [hxi]; exact (nI_ltI (by omega) (by decide)).mpr hi
    have hcl : x.toNatClampNeg = i := by rw [hxi]; exact nI_clamp (by omega)
    have hl : lv_has ls 3 [(0, .ref (mAdM E 0 0)), (1, .int (nI i))] := by rw [← hxi]; exact hl
    refine lv_aload_n hx hb dX8_open_9 rfl (lv_at hl 0 rfl) ?_
    refine g_X8_open Cx hG hH q_fl_X8_47 dX8_open_10 ?_
    refine lv_iload_n hx hb dX8_open_13 rfl (lv_at hl 1 rfl) ?_
    refine lv_iconst (v := 1) hx hb dX8_open_14 (by decide) ?_
    refine mv_zas Cx hG hO hH hS isM_22 i (Or.inr rfl) (rfl) (by omega) dX8_open_15 (fun H locs hH hS => ?_)
    refine lv_iconst (v := 0) hx hb dX8_open_16 (by decide) ?_
    refine mv_eqi (x' := nI 0) (rfl) ?_
    refine lv_istore_n (lv' := [(2, .int (nI 0)), (0, .ref (mAdM E 0 0)), (1, .int (nI i))]) hx hb dX8_open_17 rfl hl (by decide) rfl (fun ls hl => ?_)
    have lp : ∀ (fu j : Nat) (S1 : mSt) (H : Heap) (locs : List Loc) (ls : Array Slot) , 32 - j < fu → j ≤ 32 → ((∀ q, q < j → S1.2.1 23 0 (32 * i + q) = (0 : Int32).toInt8) ∧ S1.1 22 0 i = 1 ∧ nSame (seM i) S S1) → mHold mLM E S1 H → va_S A s.heap H locs → lv_has ls 3 [(0, .ref (mAdM E 0 0)), (1, .int (nI i)), (2, .int (nI j))] → W p l e (headSpec (Cond.code yX8_open cX8_open 3 (some .int) :: mv_ws) (mRm 1 20)).room s m ([.ref (mAdM E 0 0), .int x] : List Value).toArray below meth c H locs 0 0 (MQ below (mQ mLM E A (fun S' => (∀ i, x.toNatClampNeg = i → (¬ x < 0 ∧ x < nI 4) → (∀ q, q < 32 → S'.2.1 23 0 (32 * i + q) = (0 : Int32).toInt8) ∧ S'.1 22 0 i = 1 ∧ S'.1 24 0 i = 0 ∧ S'.1 25 0 i = 0 ∧ S'.1 26 0 i = 0 ∧ S'.1 27 0 i = 0 ∧ S'.1 28 0 i = 0 ∧ nSame (seM i) S S') ∧ (¬ (¬ x < 0 ∧ x < nI 4) → S' = S)) (some (.int (if ¬ x < 0 ∧ x < nI 4 then 0 else -1)))) ([.ref (mAdM E 0 0), .int x] : List Value).toArray s 0 0 A) (F0 m 18 ls []) := by
      intro fu
      induction fu with
      | zero => intro j S1 H locs ls  hn hj hinv hH hS hl; omega
      | succ fu ih =>
        intro j S1 H locs ls  hn hj hinv hH hS hl
        refine lv_iload_n hx hb dX8_open_18 rfl (lv_at hl 2 rfl) ?_
        refine lv_bipush (v := 32) hx hb dX8_open_19 (by decide) ?_
        refine lv_icmp_ge (tgt := 42) hx hb dX8_open_21 (by decide) (fun h21 => ?_) (fun h21 => ?_)
        · skip
          have hj32 : j = 32 := by have := ge_of (a := 32) (by decide) (by omega) h21; omega
          rw [hj32] at hinv
          refine lv_aload_n hx hb dX8_open_42 rfl (lv_at hl 0 rfl) ?_
          refine g_X8_ofRegisters Cx hG hH q_fl_X8_54 dX8_open_43 ?_
          refine lv_iload_n hx hb dX8_open_46 rfl (lv_at hl 1 rfl) ?_
          refine lv_iconst (v := 0) hx hb dX8_open_47 (by decide) ?_
          refine mv_zas Cx hG hO hH hS isM_24 i (Or.inl rfl) (rfl) (by omega) dX8_open_48 (fun H locs hH hS => ?_)
          refine lv_aload_n hx hb dX8_open_49 rfl (lv_at hl 0 rfl) ?_
          refine g_X8_changed Cx hG hH q_fl_X8_57 dX8_open_50 ?_
          refine lv_iload_n hx hb dX8_open_53 rfl (lv_at hl 1 rfl) ?_
          refine lv_iconst (v := 0) hx hb dX8_open_54 (by decide) ?_
          refine mv_zas Cx hG hO hH hS isM_25 i (Or.inl rfl) (rfl) (by omega) dX8_open_55 (fun H locs hH hS => ?_)
          refine lv_aload_n hx hb dX8_open_56 rfl (lv_at hl 0 rfl) ?_
          refine g_X8_ofAuth Cx hG hH q_fl_X8_60 dX8_open_57 ?_
          refine lv_iload_n hx hb dX8_open_60 rfl (lv_at hl 1 rfl) ?_
          refine lv_iconst (v := 0) hx hb dX8_open_61 (by decide) ?_
          refine mv_zas Cx hG hO hH hS isM_26 i (Or.inl rfl) (rfl) (by omega) dX8_open_62 (fun H locs hH hS => ?_)
          refine lv_aload_n hx hb dX8_open_63 rfl (lv_at hl 0 rfl) ?_
          refine g_X8_ofTime Cx hG hH q_fl_X8_63 dX8_open_64 ?_
          refine lv_iload_n hx hb dX8_open_67 rfl (lv_at hl 1 rfl) ?_
          refine lv_iconst (v := 0) hx hb dX8_open_68 (by decide) ?_
          refine mv_zas Cx hG hO hH hS isM_27 i (Or.inl rfl) (rfl) (by omega) dX8_open_69 (fun H locs hH hS => ?_)
          refine lv_aload_n hx hb dX8_open_70 rfl (lv_at hl 0 rfl) ?_
          refine g_X8_code Cx hG hH q_fl_X8_66 dX8_open_71 ?_
          refine lv_iload_n hx hb dX8_open_74 rfl (lv_at hl 1 rfl) ?_
          refine lv_iconst (v := 0) hx hb dX8_open_75 (by decide) ?_
          refine mv_ias Cx hG hO hH hS isM_28 i (rfl) (by omega) dX8_open_76 (fun H locs hH hS => ?_)
          refine lv_iconst (v := 0) hx hb dX8_open_77 (by decide) ?_
          exact mv_reti Cx hr hH hS ((if_pos ⟨h0, hlt⟩).symm) (⟨fun i' e _ => by (obtain rfl : i = i' := hcl.symm.trans e); exact ⟨hinv.1, by simp [mM, m3]; exact hinv.2.1, by simp [mM, m3], by simp [mM, m3], by simp [mM, m3], by simp [mM, m3], by simp [mM, m3], (((((hinv.2.2).tr (nSame.M (by simp [scM, nX, hX, seM]))).tr (nSame.M (by simp [scM, nX, hX, seM]))).tr (nSame.M (by simp [scM, nX, hX, seM]))).tr (nSame.M (by simp [scM, nX, hX, seM]))).tr (nSame.M (by simp [scM, nX, hX, seM]))⟩, fun h => absurd ⟨h0, hlt⟩ h⟩) dX8_open_78 hlocks
        · skip
          have hj32 : j < 32 := lt_of (a := 32) (by decide) (by omega) h21
          refine lv_aload_n hx hb dX8_open_24 rfl (lv_at hl 0 rfl) ?_
          refine g_X8_digest Cx hG hH q_fl_X8_51 dX8_open_25 ?_
          refine lv_bipush (v := 32) hx hb dX8_open_28 (by decide) ?_
          refine lv_iload_n hx hb dX8_open_30 rfl (lv_at hl 1 rfl) ?_
          refine lv_imul hx hb dX8_open_31 ?_
          refine mv_eqi (x' := nI (32 * i)) (pk_mul 32 i) ?_
          refine lv_iload_n hx hb dX8_open_32 rfl (lv_at hl 2 rfl) ?_
          refine lv_iadd hx hb dX8_open_33 ?_
          refine mv_eqi (x' := nI (32 * i + j)) (nI_add _ _) ?_
          refine lv_iconst (v := 0) hx hb dX8_open_34 (by decide) ?_
          refine mv_bas Cx hG hO hH hS isM_23 (32 * i + j) (rfl) (by omega) dX8_open_35 (fun H locs hH hS => ?_)
          refine lv_iinc (v := nI (j + 1)) (lv' := [(2, .int (nI (j + 1))), (0, .ref (mAdM E 0 0)), (1, .int (nI i))]) hx hb dX8_open_36 hl (k := 2) rfl (i2_1 j) (by decide) rfl (fun ls hl => ?_)
          refine lv_goto (tgt := 18) hx hb dX8_open_39 (by decide) ?_
          exact ih (j + 1) (mB S1 23 0 (32 * i + j) (0 : Int32).toInt8) _ _ ls  (by omega) (by omega) (⟨fun q hq => by by_cases e : q = j; (subst e; simp [mB, m3]); (exact (show m3 S1.2.1 23 0 (32 * i + j) _ 23 0 (32 * i + q) = _ from m3_n _ _ (by omega)).trans (hinv.1 q (by omega))), hinv.2.1, hinv.2.2.tr (nSame.B (X := seM i) (Or.inl ⟨rfl, by omega, by omega⟩))⟩) hH hS (lv_sub hl [1, 2, 0] rfl)
    exact lp (32 - 0 + 1) 0 (mM S 22 0 i 1) _ _ ls  (by omega) (by omega) (⟨fun q h => absurd h (Nat.not_lt_zero _), by simp [mM, m3], nSame.M (by simp [scM, nX, hX, seM])⟩) hH hS (lv_sub hl [1, 2, 0] rfl)
  · skip
    have hno : ¬ (¬ x < 0 ∧ x < nI 4) := fun q => by rw [if_neg q.1, if_neg (show ¬ (4 : Int32) ≤ x from Int32.not_le.mpr q.2)] at h4; exact absurd h4 (by decide)
    refine lv_iconst (v := (-1 : Int32)) hx hb dX8_open_7 (by decide) ?_
    exact mv_reti Cx hr hH hS ((if_neg hno).symm) (⟨fun _ _ h => absurd h hno, fun _ => rfl⟩) dX8_open_8 hlocks

set_option maxHeartbeats 4000000 in
set_option maxRecDepth 100000 in
theorem c_X8_digest (l : Launch) (E : mEv) (A : Nat → Prop) (hO : mOwn mLM E A) (S : mSt) (x : Int32) : Met l yX8_digest (Cond.code yX8_digest cX8_digest 3 (some .int) :: mv_ws) (mRm 2 41) (mPc mLM E A S [.ref (mAdM E 0 0), .int x]) (mQ mLM E A (fun S' => (msO S x = none → S' = S) ∧ ∀ i, msO S x = some i → nHas 3 512 S' (mTk (fun q => S.2.1 23 0 (32 * i + q)) 32) ∧ nSame (nX 3) S S') (some (.int ((msO S x).elim (-1) (fun _ => 32))))) 0 0 A := by
  refine Met.ofW (cc := cX8_digest) (maxL := 3) (ret := (some .int)) (by decide) rfl ?_
  intro p e s m args below meth c s₁ B hml hv
  obtain ⟨rfl, hG, hH⟩ := hv
  have hx := B.exec
  have hb := B.bytes
  have hr := B.returns
  have hlocks := B.notSynchronized
  have Cx : CallFix p m c cX8_digest 3 s ([.ref (mAdM E 0 0), .int x] : List Value).toArray (Cond.code yX8_digest cX8_digest 3 (some .int) :: mv_ws) RX8 := ⟨hx, hb, hml, findClass_of_methodNamed B.named, atoms_spec (ws := Cond.code yX8_digest cX8_digest 3 (some .int) :: mv_ws) B.pre⟩
  have hS : va_S A s.heap s.heap [] := va_S.rf
  have hl := lv_entry ([.ref (mAdM E 0 0), .int x]) (n := 3) (Nat.le_of_ble_eq_true rfl)
  rw [lg_entry_eq]
  generalize (lg_sl ([.ref (mAdM E 0 0), .int x]) ++ List.replicate (3 - (lg_sl ([.ref (mAdM E 0 0), .int x])).length) Slot.unset).toArray = ls at hl ⊢
  have hl : lv_has ls 3 [(0, .ref (mAdM E 0 0)), (1, .int x)] := hl
  refine lv_aload_n hx hb dX8_digest_0 rfl (lv_at hl 0 rfl) ?_
  refine lv_iload_n hx hb dX8_digest_1 rfl (lv_at hl 1 rfl) ?_
  refine mv_callV (Y := mLM) (C := RX8) (k := 0) (i := 0) (rest := []) Cx hG hH hS (c_X8_opened l E A hO S x) q_co_X8_opened q_ml_X8_182 q_im_X8_opened q_se_X8_opened q_in_X8 okM_0 rfl rfl hd_X8_opened ⟨Nat.le_of_ble_eq_true rfl, Nat.le_of_ble_eq_true rfl⟩ rfl hl.1 rfl (Nat.le_of_ble_eq_true rfl) ⟨Nat.le_of_ble_eq_true rfl, Nat.le_of_ble_eq_true rfl⟩ dX8_digest_2 (fun S2 H locs hP2 hH hS => ?_)
  refine W.eq (g2 := F0 m 5 ls [.int (if (msO S x).isSome = true then 1 else 0)]) rfl ?_
  have hH := mv_S hP2 hH
  refine lv_if_ne (tgt := 10) hx hb dX8_digest_5 (by decide) (fun h5 => ?_) (fun h5 => ?_)
  · skip
    obtain ⟨i, hso⟩ := Option.isSome_iff_exists.mp (b1_of h5)
    obtain ⟨hxi, hi, hop⟩ := opO_some (by decide) hso
    have hl : lv_has ls 3 [(0, .ref (mAdM E 0 0)), (1, .int (nI i))] := by rw [← hxi]; exact hl
    refine lv_iconst (v := 0) hx hb dX8_digest_10 (by decide) ?_
    refine mv_eqi (x' := nI 0) (rfl) ?_
    refine lv_istore_n (lv' := [(2, .int (nI 0)), (0, .ref (mAdM E 0 0)), (1, .int (nI i))]) hx hb dX8_digest_11 rfl hl (by decide) rfl (fun ls hl => ?_)
    have lp : ∀ (fu j : Nat) (S1 : mSt) (H : Heap) (locs : List Loc) (ls : Array Slot) , 32 - j < fu → j ≤ 32 → ((∀ q, q < j → S1.2.1 3 0 q = S.2.1 23 0 (32 * i + q)) ∧ nSame (nX 3) S S1) → mHold mLM E S1 H → va_S A s.heap H locs → lv_has ls 3 [(0, .ref (mAdM E 0 0)), (1, .int (nI i)), (2, .int (nI j))] → W p l e (headSpec (Cond.code yX8_digest cX8_digest 3 (some .int) :: mv_ws) (mRm 2 41)).room s m ([.ref (mAdM E 0 0), .int x] : List Value).toArray below meth c H locs 0 0 (MQ below (mQ mLM E A (fun S' => (msO S x = none → S' = S) ∧ ∀ i, msO S x = some i → nHas 3 512 S' (mTk (fun q => S.2.1 23 0 (32 * i + q)) 32) ∧ nSame (nX 3) S S') (some (.int ((msO S x).elim (-1) (fun _ => 32))))) ([.ref (mAdM E 0 0), .int x] : List Value).toArray s 0 0 A) (F0 m 12 ls []) := by
      intro fu
      induction fu with
      | zero => intro j S1 H locs ls  hn hj hinv hH hS hl; omega
      | succ fu ih =>
        intro j S1 H locs ls  hn hj hinv hH hS hl
        refine lv_iload_n hx hb dX8_digest_12 rfl (lv_at hl 2 rfl) ?_
        refine lv_bipush (v := 32) hx hb dX8_digest_13 (by decide) ?_
        refine lv_icmp_ge (tgt := 41) hx hb dX8_digest_15 (by decide) (fun h15 => ?_) (fun h15 => ?_)
        · skip
          have hj32 : j = 32 := by have := ge_of (a := 32) (by decide) (by omega) h15; omega
          rw [hj32] at hinv
          refine lv_aload_n hx hb dX8_digest_41 rfl (lv_at hl 0 rfl) ?_
          refine mv_callV (Y := mLM) (C := RX8) (k := 0) (i := 0) (rest := []) Cx hG hH hS (c_X8_told l E A hO S1) q_co_X8_told q_ml_X8_149 q_im_X8_told q_se_X8_told q_in_X8 okM_0 rfl rfl hd_X8_told ⟨Nat.le_of_ble_eq_true rfl, Nat.le_of_ble_eq_true rfl⟩ rfl hl.1 rfl (Nat.le_of_ble_eq_true rfl) ⟨Nat.le_of_ble_eq_true rfl, Nat.le_of_ble_eq_true rfl⟩ dX8_digest_42 (fun S42 H locs hP42 hH hS => ?_)
          refine W.eq (g2 := F0 m 45 ls [.int 32]) rfl ?_
          exact mv_reti Cx hr hH hS (by rw [hso]; rfl) (by subst hP42; exact ⟨fun h => by (have e := hso.symm.trans h; cases e), fun i' h => by (rw [hso] at h; injection h with h; subst h; exact ⟨nHas.of (by simp [mM, m3]; rfl) (by decide) hinv.1, hinv.2.tr (nSame.M (Or.inl ⟨rfl, rfl⟩))⟩)⟩) dX8_digest_45 hlocks
        · skip
          have hj32 : j < 32 := lt_of (a := 32) (by decide) (by omega) h15
          refine lv_aload_n hx hb dX8_digest_18 rfl (lv_at hl 0 rfl) ?_
          refine g_X8_out Cx hG hH q_fl_X8_13 dX8_digest_19 ?_
          refine lv_iload_n hx hb dX8_digest_22 rfl (lv_at hl 2 rfl) ?_
          refine lv_aload_n hx hb dX8_digest_23 rfl (lv_at hl 0 rfl) ?_
          refine g_X8_digest Cx hG hH q_fl_X8_51 dX8_digest_24 ?_
          refine lv_bipush (v := 32) hx hb dX8_digest_27 (by decide) ?_
          refine lv_iload_n hx hb dX8_digest_29 rfl (lv_at hl 1 rfl) ?_
          refine lv_imul hx hb dX8_digest_30 ?_
          refine mv_eqi (x' := nI (32 * i)) (pk_mul 32 i) ?_
          refine lv_iload_n hx hb dX8_digest_31 rfl (lv_at hl 2 rfl) ?_
          refine lv_iadd hx hb dX8_digest_32 ?_
          refine mv_eqi (x' := nI (32 * i + j)) (nI_add _ _) ?_
          refine mv_bal Cx hG hH isM_23 (32 * i + j) (rfl) (by omega) dX8_digest_33 ?_
          refine mv_bas8 Cx hG hO hH hS isM_3 j (S1.2.1 23 0 (32 * i + j)) rfl (rfl) (by omega) dX8_digest_34 (fun H locs hH hS => ?_)
          refine lv_iinc (v := nI (j + 1)) (lv' := [(2, .int (nI (j + 1))), (0, .ref (mAdM E 0 0)), (1, .int (nI i))]) hx hb dX8_digest_35 hl (k := 2) rfl (i2_1 j) (by decide) rfl (fun ls hl => ?_)
          refine lv_goto (tgt := 12) hx hb dX8_digest_38 (by decide) ?_
          exact ih (j + 1) (mB S1 3 0 j (S1.2.1 23 0 (32 * i + j))) _ _ ls  (by omega) (by omega) (⟨fun q hq => by by_cases e : q = j; (subst e; exact (show m3 S1.2.1 3 0 q _ 3 0 q = _ by simp [m3]).trans (hinv.2 23 _ (by simp only [scM, nX, hX, seM]; omega)).2.1); (exact (show m3 S1.2.1 3 0 j _ 3 0 q = _ from m3_n _ _ (by omega)).trans (hinv.1 q (by omega))), hinv.2.tr (nSame.B (X := nX 3) (Or.inr rfl))⟩) hH hS (lv_sub hl [1, 2, 0] rfl)
    exact lp (32 - 0 + 1) 0 S _ _ ls  (by omega) (by omega) (⟨fun q h => absurd h (Nat.not_lt_zero _), nSame.rf⟩) hH hS (lv_sub hl [1, 2, 0] rfl)
  · skip
    have hno : msO S x = none := Option.not_isSome_iff_eq_none.mp (b0_of h5)
    refine lv_iconst (v := (-1 : Int32)) hx hb dX8_digest_8 (by decide) ?_
    exact mv_reti Cx hr hH hS (by rw [hno]; rfl) (⟨fun _ => rfl, fun i h => by (rw [hno] at h; cases h)⟩) dX8_digest_9 hlocks

set_option maxHeartbeats 4000000 in
set_option maxRecDepth 100000 in
theorem c_X8_policyAuth (l : Launch) (E : mEv) (A : Nat → Prop) (hO : mOwn mLM E A) (S : mSt) (x : Int32) : Met l yX8_policyAuth (Cond.code yX8_policyAuth cX8_policyAuth 2 (some .int) :: mv_ws) (mRm 3 90) (mPc mLM E A S [.ref (mAdM E 0 0), .int x]) (mQ mLM E A (fun S' => (msO S x = none → S' = S) ∧ ∀ i, msO S x = some i → (∀ j, j < 32 → S'.2.1 23 0 (32 * i + j) = shaL (mTk (fun q => S.2.1 23 0 (32 * i + q)) 32 ++ [(2 : Int32).toInt8]) j) ∧ S'.1 26 0 i = 1 ∧ nSame (fun k j => scM k j ∨ (k = 23 ∧ 32 * i ≤ j ∧ j < 32 * i + 32) ∨ (k = 26 ∧ j = i)) S S') (some (.int ((msO S x).elim (-1) (fun _ => 0))))) 0 0 A := by
  refine Met.ofW (cc := cX8_policyAuth) (maxL := 2) (ret := (some .int)) (by decide) rfl ?_
  intro p e s m args below meth c s₁ B hml hv
  obtain ⟨rfl, hG, hH⟩ := hv
  have hx := B.exec
  have hb := B.bytes
  have hr := B.returns
  have hlocks := B.notSynchronized
  have Cx : CallFix p m c cX8_policyAuth 2 s ([.ref (mAdM E 0 0), .int x] : List Value).toArray (Cond.code yX8_policyAuth cX8_policyAuth 2 (some .int) :: mv_ws) RX8 := ⟨hx, hb, hml, findClass_of_methodNamed B.named, atoms_spec (ws := Cond.code yX8_policyAuth cX8_policyAuth 2 (some .int) :: mv_ws) B.pre⟩
  have hS : va_S A s.heap s.heap [] := va_S.rf
  have hl := lv_entry ([.ref (mAdM E 0 0), .int x]) (n := 2) (Nat.le_of_ble_eq_true rfl)
  rw [lg_entry_eq]
  generalize (lg_sl ([.ref (mAdM E 0 0), .int x]) ++ List.replicate (2 - (lg_sl ([.ref (mAdM E 0 0), .int x])).length) Slot.unset).toArray = ls at hl ⊢
  have hl : lv_has ls 2 [(0, .ref (mAdM E 0 0)), (1, .int x)] := hl
  refine lv_aload_n hx hb dX8_policyAuth_0 rfl (lv_at hl 0 rfl) ?_
  refine lv_iload_n hx hb dX8_policyAuth_1 rfl (lv_at hl 1 rfl) ?_
  refine mv_callV (Y := mLM) (C := RX8) (k := 0) (i := 0) (rest := []) Cx hG hH hS (c_X8_opened l E A hO S x) q_co_X8_opened q_ml_X8_182 q_im_X8_opened q_se_X8_opened q_in_X8 okM_0 rfl rfl hd_X8_opened ⟨Nat.le_of_ble_eq_true rfl, Nat.le_of_ble_eq_true rfl⟩ rfl hl.1 rfl (Nat.le_of_ble_eq_true rfl) ⟨Nat.le_of_ble_eq_true rfl, Nat.le_of_ble_eq_true rfl⟩ dX8_policyAuth_2 (fun S2 H locs hP2 hH hS => ?_)
  refine W.eq (g2 := F0 m 5 ls [.int (if (msO S x).isSome = true then 1 else 0)]) rfl ?_
  have hH := mv_S hP2 hH
  refine lv_if_ne (tgt := 10) hx hb dX8_policyAuth_5 (by decide) (fun h5 => ?_) (fun h5 => ?_)
  · skip
    obtain ⟨i, hso⟩ := Option.isSome_iff_exists.mp (b1_of h5)
    obtain ⟨hxi, hi, hop⟩ := opO_some (by decide) hso
    have hl : lv_has ls 2 [(0, .ref (mAdM E 0 0)), (1, .int (nI i))] := by rw [← hxi]; exact hl
    refine lv_aload_n hx hb dX8_policyAuth_10 rfl (lv_at hl 0 rfl) ?_
    refine lv_iload_n hx hb dX8_policyAuth_11 rfl (lv_at hl 1 rfl) ?_
    refine lv_iconst (v := 2) hx hb dX8_policyAuth_12 (by decide) ?_
    refine mv_callV (Y := mLM) (C := RX8) (k := 0) (i := 0) (rest := []) Cx hG hH hS (c_X8_begin l E A hO S i hi 2) q_co_X8_begin q_ml_X8_185 q_im_X8_begin q_se_X8_begin q_in_X8 okM_0 rfl rfl hd_X8_begin ⟨Nat.le_of_ble_eq_true rfl, Nat.le_of_ble_eq_true rfl⟩ rfl hl.1 rfl (Nat.le_of_ble_eq_true rfl) ⟨Nat.le_of_ble_eq_true rfl, Nat.le_of_ble_eq_true rfl⟩ dX8_policyAuth_13 (fun S13 H locs hP13 hH hS => ?_)
    refine W.eq (g2 := F0 m 16 ls []) rfl ?_
    refine lv_aload_n hx hb dX8_policyAuth_16 rfl (lv_at hl 0 rfl) ?_
    refine lv_aload_n hx hb dX8_policyAuth_17 rfl (lv_at hl 0 rfl) ?_
    refine g_X8_digest Cx hG hH q_fl_X8_51 dX8_policyAuth_18 ?_
    refine lv_bipush (v := 32) hx hb dX8_policyAuth_21 (by decide) ?_
    refine lv_iload_n hx hb dX8_policyAuth_23 rfl (lv_at hl 1 rfl) ?_
    refine lv_imul hx hb dX8_policyAuth_24 ?_
    refine mv_eqi (x' := nI (32 * i)) (pk_mul 32 i) ?_
    refine mv_callV (Y := mLM) (C := RX8) (k := 0) (i := 0) (rest := []) Cx hG hH hS (c_X8_hashTo l E A hO S13 23 128 isM_23 (by decide) (32 * i) (by omega) _ hP13.1 (by simp [mTk_len])) q_co_X8_hashTo q_ml_X8_111 q_im_X8_hashTo q_se_X8_hashTo q_in_X8 okM_0 rfl rfl hd_X8_hashTo ⟨Nat.le_of_ble_eq_true rfl, Nat.le_of_ble_eq_true rfl⟩ rfl hl.1 rfl (Nat.le_of_ble_eq_true rfl) ⟨Nat.le_of_ble_eq_true rfl, Nat.le_of_ble_eq_true rfl⟩ dX8_policyAuth_25 (fun S25 H locs hP25 hH hS => ?_)
    refine W.eq (g2 := F0 m 28 ls []) rfl ?_
    refine lv_aload_n hx hb dX8_policyAuth_28 rfl (lv_at hl 0 rfl) ?_
    refine g_X8_ofAuth Cx hG hH q_fl_X8_60 dX8_policyAuth_29 ?_
    refine lv_iload_n hx hb dX8_policyAuth_32 rfl (lv_at hl 1 rfl) ?_
    refine lv_iconst (v := 1) hx hb dX8_policyAuth_33 (by decide) ?_
    refine mv_zas Cx hG hO hH hS isM_26 i (Or.inr rfl) (rfl) (by omega) dX8_policyAuth_34 (fun H locs hH hS => ?_)
    refine lv_iconst (v := 0) hx hb dX8_policyAuth_35 (by decide) ?_
    exact mv_reti Cx hr hH hS (by rw [hso]; rfl) (⟨fun h => by (have e := hso.symm.trans h; cases e), fun i' h => by (rw [hso] at h; injection h with h; subst h; exact ⟨hP25.1, by simp [mM, m3], ((hP13.2.wk (fun k j h => by simp only [scM, nX, hX, seM] at h ⊢; omega)).tr (hP25.2.wk (fun k j h => by simp only [scM, nX, hX, seM] at h ⊢; omega))).tr (nSame.M (Or.inr (Or.inr ⟨rfl, rfl⟩)))⟩)⟩) dX8_policyAuth_36 hlocks
  · skip
    have hno : msO S x = none := Option.not_isSome_iff_eq_none.mp (b0_of h5)
    refine lv_iconst (v := (-1 : Int32)) hx hb dX8_policyAuth_8 (by decide) ?_
    exact mv_reti Cx hr hH hS (by rw [hno]; rfl) (⟨fun _ => rfl, fun i h => by (rw [hno] at h; cases h)⟩) dX8_policyAuth_9 hlocks

set_option maxHeartbeats 4000000 in
set_option maxRecDepth 100000 in
theorem c_X8_policyCode (l : Launch) (E : mEv) (A : Nat → Prop) (hO : mOwn mLM E A) (S : mSt) (x y : Int32) : Met l yX8_policyCode (Cond.code yX8_policyCode cX8_policyCode 3 (some .int) :: mv_ws) (mRm 3 90) (mPc mLM E A S [.ref (mAdM E 0 0), .int x, .int y]) (mQ mLM E A (fun S' => (msO S x = none → S' = S) ∧ ∀ i, msO S x = some i → ((S.1 28 0 i = 0 ∧ ¬ y < 1 ∧ y ≤ 6) → (∀ j, j < 32 → S'.2.1 23 0 (32 * i + j) = shaL (mTk (fun q => S.2.1 23 0 (32 * i + q)) 32 ++ [(3 : Int32).toInt8] ++ [y.toInt8]) j) ∧ S'.1 28 0 i = y ∧ nSame (fun k j => scM k j ∨ (k = 23 ∧ 32 * i ≤ j ∧ j < 32 * i + 32) ∨ (k = 28 ∧ j = i)) S S') ∧ (¬ (S.1 28 0 i = 0 ∧ ¬ y < 1 ∧ y ≤ 6) → S' = S)) (some (.int ((msO S x).elim (-1) (fun i => if (S.1 28 0 i = 0 ∧ ¬ y < 1 ∧ y ≤ 6) then 0 else -1))))) 0 0 A := by
  refine Met.ofW (cc := cX8_policyCode) (maxL := 3) (ret := (some .int)) (by decide) rfl ?_
  intro p e s m args below meth c s₁ B hml hv
  obtain ⟨rfl, hG, hH⟩ := hv
  have hx := B.exec
  have hb := B.bytes
  have hr := B.returns
  have hlocks := B.notSynchronized
  have Cx : CallFix p m c cX8_policyCode 3 s ([.ref (mAdM E 0 0), .int x, .int y] : List Value).toArray (Cond.code yX8_policyCode cX8_policyCode 3 (some .int) :: mv_ws) RX8 := ⟨hx, hb, hml, findClass_of_methodNamed B.named, atoms_spec (ws := Cond.code yX8_policyCode cX8_policyCode 3 (some .int) :: mv_ws) B.pre⟩
  have hS : va_S A s.heap s.heap [] := va_S.rf
  have hl := lv_entry ([.ref (mAdM E 0 0), .int x, .int y]) (n := 3) (Nat.le_of_ble_eq_true rfl)
  rw [lg_entry_eq]
  generalize (lg_sl ([.ref (mAdM E 0 0), .int x, .int y]) ++ List.replicate (3 - (lg_sl ([.ref (mAdM E 0 0), .int x, .int y])).length) Slot.unset).toArray = ls at hl ⊢
  have hl : lv_has ls 3 [(0, .ref (mAdM E 0 0)), (1, .int x), (2, .int y)] := hl
  refine lv_aload_n hx hb dX8_policyCode_0 rfl (lv_at hl 0 rfl) ?_
  refine lv_iload_n hx hb dX8_policyCode_1 rfl (lv_at hl 1 rfl) ?_
  refine mv_callV (Y := mLM) (C := RX8) (k := 0) (i := 0) (rest := []) Cx hG hH hS (c_X8_opened l E A hO S x) q_co_X8_opened q_ml_X8_182 q_im_X8_opened q_se_X8_opened q_in_X8 okM_0 rfl rfl hd_X8_opened ⟨Nat.le_of_ble_eq_true rfl, Nat.le_of_ble_eq_true rfl⟩ rfl hl.1 rfl (Nat.le_of_ble_eq_true rfl) ⟨Nat.le_of_ble_eq_true rfl, Nat.le_of_ble_eq_true rfl⟩ dX8_policyCode_2 (fun S2 H locs hP2 hH hS => ?_)
  refine W.eq (g2 := F0 m 5 ls [.int (if (msO S x).isSome = true then 1 else 0)]) rfl ?_
  have hH := mv_S hP2 hH
  refine lv_if_eq (tgt := 28) hx hb dX8_policyCode_5 (by decide) (fun h5 => ?_) (fun h5 => ?_)
  · skip
    have hno : msO S x = none := Option.not_isSome_iff_eq_none.mp (b0_of h5)
    refine lv_iconst (v := (-1 : Int32)) hx hb dX8_policyCode_28 (by decide) ?_
    exact mv_reti Cx hr hH hS (by rw [hno]; rfl) (⟨fun _ => rfl, fun i h => by (rw [hno] at h; cases h)⟩) dX8_policyCode_29 hlocks
  · skip
    obtain ⟨i, hso⟩ := Option.isSome_iff_exists.mp (b1_of h5)
    obtain ⟨hxi, hi, hop⟩ := opO_some (by decide) hso
    have hl : lv_has ls 3 [(0, .ref (mAdM E 0 0)), (1, .int (nI i)), (2, .int y)] := by rw [← hxi]; exact hl
    refine lv_iload_n hx hb dX8_policyCode_8 rfl (lv_at hl 2 rfl) ?_
    refine lv_iconst (v := 1) hx hb dX8_policyCode_9 (by decide) ?_
    refine lv_icmp_lt (tgt := 28) hx hb dX8_policyCode_10 (by decide) (fun h10 => ?_) (fun h10 => ?_)
    · skip
      refine lv_iconst (v := (-1 : Int32)) hx hb dX8_policyCode_28 (by decide) ?_
      exact mv_reti Cx hr hH hS (by rw [hso]; exact (if_neg (fun q => q.2.1 h10)).symm) (⟨fun h => by (have e := hso.symm.trans h; cases e), fun i' h => by (rw [hso] at h; injection h with h; subst h; exact ⟨fun h => absurd h (fun q => q.2.1 h10), fun _ => rfl⟩)⟩) dX8_policyCode_29 hlocks
    · skip
      refine lv_iload_n hx hb dX8_policyCode_13 rfl (lv_at hl 2 rfl) ?_
      refine lv_bipush (v := 6) hx hb dX8_policyCode_14 (by decide) ?_
      refine lv_icmp_gt (tgt := 28) hx hb dX8_policyCode_16 (by decide) (fun h16 => ?_) (fun h16 => ?_)
      · skip
        refine lv_iconst (v := (-1 : Int32)) hx hb dX8_policyCode_28 (by decide) ?_
        exact mv_reti Cx hr hH hS (by rw [hso]; exact (if_neg (fun q => absurd h16 (Int32.not_lt.mpr q.2.2))).symm) (⟨fun h => by (have e := hso.symm.trans h; cases e), fun i' h => by (rw [hso] at h; injection h with h; subst h; exact ⟨fun h => absurd h (fun q => absurd h16 (Int32.not_lt.mpr q.2.2)), fun _ => rfl⟩)⟩) dX8_policyCode_29 hlocks
      · skip
        refine lv_aload_n hx hb dX8_policyCode_19 rfl (lv_at hl 0 rfl) ?_
        refine g_X8_code Cx hG hH q_fl_X8_66 dX8_policyCode_20 ?_
        refine lv_iload_n hx hb dX8_policyCode_23 rfl (lv_at hl 1 rfl) ?_
        refine mv_ial Cx hG hH isM_28 i (rfl) (by omega) dX8_policyCode_24 ?_
        refine lv_if_eq (tgt := 30) hx hb dX8_policyCode_25 (by decide) (fun h25 => ?_) (fun h25 => ?_)
        · skip
          have hck : (S.1 28 0 i = 0 ∧ ¬ y < 1 ∧ y ≤ 6) := ⟨h25, h10, Int32.not_lt.mp h16⟩
          refine lv_aload_n hx hb dX8_policyCode_30 rfl (lv_at hl 0 rfl) ?_
          refine lv_iload_n hx hb dX8_policyCode_31 rfl (lv_at hl 1 rfl) ?_
          refine lv_iconst (v := 3) hx hb dX8_policyCode_32 (by decide) ?_
          refine mv_callV (Y := mLM) (C := RX8) (k := 0) (i := 0) (rest := []) Cx hG hH hS (c_X8_begin l E A hO S i hi 3) q_co_X8_begin q_ml_X8_185 q_im_X8_begin q_se_X8_begin q_in_X8 okM_0 rfl rfl hd_X8_begin ⟨Nat.le_of_ble_eq_true rfl, Nat.le_of_ble_eq_true rfl⟩ rfl hl.1 rfl (Nat.le_of_ble_eq_true rfl) ⟨Nat.le_of_ble_eq_true rfl, Nat.le_of_ble_eq_true rfl⟩ dX8_policyCode_33 (fun S33 H locs hP33 hH hS => ?_)
          refine W.eq (g2 := F0 m 36 ls []) rfl ?_
          refine lv_aload_n hx hb dX8_policyCode_36 rfl (lv_at hl 0 rfl) ?_
          refine lv_iload_n hx hb dX8_policyCode_37 rfl (lv_at hl 2 rfl) ?_
          refine mv_callV (Y := mLM) (C := RX8) (k := 0) (i := 0) (rest := []) Cx hG hH hS (c_X8_add l E A hO S33 _ hP33.1 y (by simp [mTk_len])) q_co_X8_add q_ml_X8_104 q_im_X8_add q_se_X8_add q_in_X8 okM_0 rfl rfl hd_X8_add ⟨Nat.le_of_ble_eq_true rfl, Nat.le_of_ble_eq_true rfl⟩ rfl hl.1 rfl (Nat.le_of_ble_eq_true rfl) ⟨Nat.le_of_ble_eq_true rfl, Nat.le_of_ble_eq_true rfl⟩ dX8_policyCode_38 (fun S38 H locs hP38 hH hS => ?_)
          refine W.eq (g2 := F0 m 41 ls []) rfl ?_
          refine lv_aload_n hx hb dX8_policyCode_41 rfl (lv_at hl 0 rfl) ?_
          refine lv_aload_n hx hb dX8_policyCode_42 rfl (lv_at hl 0 rfl) ?_
          refine g_X8_digest Cx hG hH q_fl_X8_51 dX8_policyCode_43 ?_
          refine lv_bipush (v := 32) hx hb dX8_policyCode_46 (by decide) ?_
          refine lv_iload_n hx hb dX8_policyCode_48 rfl (lv_at hl 1 rfl) ?_
          refine lv_imul hx hb dX8_policyCode_49 ?_
          refine mv_eqi (x' := nI (32 * i)) (pk_mul 32 i) ?_
          refine mv_callV (Y := mLM) (C := RX8) (k := 0) (i := 0) (rest := []) Cx hG hH hS (c_X8_hashTo l E A hO S38 23 128 isM_23 (by decide) (32 * i) (by omega) _ hP38.1 (by simp [mTk_len])) q_co_X8_hashTo q_ml_X8_111 q_im_X8_hashTo q_se_X8_hashTo q_in_X8 okM_0 rfl rfl hd_X8_hashTo ⟨Nat.le_of_ble_eq_true rfl, Nat.le_of_ble_eq_true rfl⟩ rfl hl.1 rfl (Nat.le_of_ble_eq_true rfl) ⟨Nat.le_of_ble_eq_true rfl, Nat.le_of_ble_eq_true rfl⟩ dX8_policyCode_50 (fun S50 H locs hP50 hH hS => ?_)
          refine W.eq (g2 := F0 m 53 ls []) rfl ?_
          refine lv_aload_n hx hb dX8_policyCode_53 rfl (lv_at hl 0 rfl) ?_
          refine g_X8_code Cx hG hH q_fl_X8_66 dX8_policyCode_54 ?_
          refine lv_iload_n hx hb dX8_policyCode_57 rfl (lv_at hl 1 rfl) ?_
          refine lv_iload_n hx hb dX8_policyCode_58 rfl (lv_at hl 2 rfl) ?_
          refine mv_ias Cx hG hO hH hS isM_28 i (rfl) (by omega) dX8_policyCode_59 (fun H locs hH hS => ?_)
          refine lv_iconst (v := 0) hx hb dX8_policyCode_60 (by decide) ?_
          exact mv_reti Cx hr hH hS (by rw [hso]; exact (if_pos hck).symm) (⟨fun h => by (have e := hso.symm.trans h; cases e), fun i' h => by (rw [hso] at h; injection h with h; subst h; exact ⟨fun _ => ⟨hP50.1, by simp [mM, m3], (((hP33.2.wk (fun k j h => by simp only [scM, nX, hX, seM] at h ⊢; omega)).tr (hP38.2.wk (fun k j h => by simp only [scM, nX, hX, seM] at h ⊢; omega))).tr (hP50.2.wk (fun k j h => by simp only [scM, nX, hX, seM] at h ⊢; omega))).tr (nSame.M (Or.inr (Or.inr ⟨rfl, rfl⟩)))⟩, fun h => absurd hck h⟩)⟩) dX8_policyCode_61 hlocks
        · skip
          refine lv_iconst (v := (-1 : Int32)) hx hb dX8_policyCode_28 (by decide) ?_
          exact mv_reti Cx hr hH hS (by rw [hso]; exact (if_neg (fun q => h25 q.1)).symm) (⟨fun h => by (have e := hso.symm.trans h; cases e), fun i' h => by (rw [hso] at h; injection h with h; subst h; exact ⟨fun h => absurd h (fun q => h25 q.1), fun _ => rfl⟩)⟩) dX8_policyCode_29 hlocks

set_option maxHeartbeats 4000000 in
set_option maxRecDepth 100000 in
theorem c_X8_policyTime (l : Launch) (E : mEv) (A : Nat → Prop) (hO : mOwn mLM E A) (S : mSt) (x y : Int32) : Met l yX8_policyTime (Cond.code yX8_policyTime cX8_policyTime 3 (some .int) :: mv_ws) (mRm 3 90) (mPc mLM E A S [.ref (mAdM E 0 0), .int x, .int y]) (mQ mLM E A (fun S' => (msO S x = none → S' = S) ∧ ∀ i, msO S x = some i → (∀ j, j < 32 → S'.2.1 23 0 (32 * i + j) = shaL (mTk (fun q => S.2.1 23 0 (32 * i + q)) 32 ++ [(4 : Int32).toInt8] ++ w4 y) j) ∧ S'.1 27 0 i = 1 ∧ S'.1 29 0 i = (if S.1 27 0 i = 0 then y else if y < S.1 29 0 i then y else S.1 29 0 i) ∧ nSame (fun k j => scM k j ∨ (k = 23 ∧ 32 * i ≤ j ∧ j < 32 * i + 32) ∨ ((k = 27 ∨ k = 29) ∧ j = i)) S S') (some (.int ((msO S x).elim (-1) (fun _ => 0))))) 0 0 A := by
  refine Met.ofW (cc := cX8_policyTime) (maxL := 3) (ret := (some .int)) (by decide) rfl ?_
  intro p e s m args below meth c s₁ B hml hv
  obtain ⟨rfl, hG, hH⟩ := hv
  have hx := B.exec
  have hb := B.bytes
  have hr := B.returns
  have hlocks := B.notSynchronized
  have Cx : CallFix p m c cX8_policyTime 3 s ([.ref (mAdM E 0 0), .int x, .int y] : List Value).toArray (Cond.code yX8_policyTime cX8_policyTime 3 (some .int) :: mv_ws) RX8 := ⟨hx, hb, hml, findClass_of_methodNamed B.named, atoms_spec (ws := Cond.code yX8_policyTime cX8_policyTime 3 (some .int) :: mv_ws) B.pre⟩
  have hS : va_S A s.heap s.heap [] := va_S.rf
  have hl := lv_entry ([.ref (mAdM E 0 0), .int x, .int y]) (n := 3) (Nat.le_of_ble_eq_true rfl)
  rw [lg_entry_eq]
  generalize (lg_sl ([.ref (mAdM E 0 0), .int x, .int y]) ++ List.replicate (3 - (lg_sl ([.ref (mAdM E 0 0), .int x, .int y])).length) Slot.unset).toArray = ls at hl ⊢
  have hl : lv_has ls 3 [(0, .ref (mAdM E 0 0)), (1, .int x), (2, .int y)] := hl
  refine lv_aload_n hx hb dX8_policyTime_0 rfl (lv_at hl 0 rfl) ?_
  refine lv_iload_n hx hb dX8_policyTime_1 rfl (lv_at hl 1 rfl) ?_
  refine mv_callV (Y := mLM) (C := RX8) (k := 0) (i := 0) (rest := []) Cx hG hH hS (c_X8_opened l E A hO S x) q_co_X8_opened q_ml_X8_182 q_im_X8_opened q_se_X8_opened q_in_X8 okM_0 rfl rfl hd_X8_opened ⟨Nat.le_of_ble_eq_true rfl, Nat.le_of_ble_eq_true rfl⟩ rfl hl.1 rfl (Nat.le_of_ble_eq_true rfl) ⟨Nat.le_of_ble_eq_true rfl, Nat.le_of_ble_eq_true rfl⟩ dX8_policyTime_2 (fun S2 H locs hP2 hH hS => ?_)
  refine W.eq (g2 := F0 m 5 ls [.int (if (msO S x).isSome = true then 1 else 0)]) rfl ?_
  have hH := mv_S hP2 hH
  refine lv_if_ne (tgt := 10) hx hb dX8_policyTime_5 (by decide) (fun h5 => ?_) (fun h5 => ?_)
  · skip
    obtain ⟨i, hso⟩ := Option.isSome_iff_exists.mp (b1_of h5)
    obtain ⟨hxi, hi, hop⟩ := opO_some (by decide) hso
    have hl : lv_has ls 3 [(0, .ref (mAdM E 0 0)), (1, .int (nI i)), (2, .int y)] := by rw [← hxi]; exact hl
    refine lv_aload_n hx hb dX8_policyTime_10 rfl (lv_at hl 0 rfl) ?_
    refine lv_iload_n hx hb dX8_policyTime_11 rfl (lv_at hl 1 rfl) ?_
    refine lv_iconst (v := 4) hx hb dX8_policyTime_12 (by decide) ?_
    refine mv_callV (Y := mLM) (C := RX8) (k := 0) (i := 0) (rest := []) Cx hG hH hS (c_X8_begin l E A hO S i hi 4) q_co_X8_begin q_ml_X8_185 q_im_X8_begin q_se_X8_begin q_in_X8 okM_0 rfl rfl hd_X8_begin ⟨Nat.le_of_ble_eq_true rfl, Nat.le_of_ble_eq_true rfl⟩ rfl hl.1 rfl (Nat.le_of_ble_eq_true rfl) ⟨Nat.le_of_ble_eq_true rfl, Nat.le_of_ble_eq_true rfl⟩ dX8_policyTime_13 (fun S13 H locs hP13 hH hS => ?_)
    refine W.eq (g2 := F0 m 16 ls []) rfl ?_
    refine lv_aload_n hx hb dX8_policyTime_16 rfl (lv_at hl 0 rfl) ?_
    refine lv_iload_n hx hb dX8_policyTime_17 rfl (lv_at hl 2 rfl) ?_
    refine mv_callV (Y := mLM) (C := RX8) (k := 0) (i := 0) (rest := []) Cx hG hH hS (c_X8_word l E A hO S13 _ hP13.1 y (by simp [mTk_len])) q_co_X8_word q_ml_X8_108 q_im_X8_word q_se_X8_word q_in_X8 okM_0 rfl rfl hd_X8_word ⟨Nat.le_of_ble_eq_true rfl, Nat.le_of_ble_eq_true rfl⟩ rfl hl.1 rfl (Nat.le_of_ble_eq_true rfl) ⟨Nat.le_of_ble_eq_true rfl, Nat.le_of_ble_eq_true rfl⟩ dX8_policyTime_18 (fun S18 H locs hP18 hH hS => ?_)
    refine W.eq (g2 := F0 m 21 ls []) rfl ?_
    refine lv_aload_n hx hb dX8_policyTime_21 rfl (lv_at hl 0 rfl) ?_
    refine lv_aload_n hx hb dX8_policyTime_22 rfl (lv_at hl 0 rfl) ?_
    refine g_X8_digest Cx hG hH q_fl_X8_51 dX8_policyTime_23 ?_
    refine lv_bipush (v := 32) hx hb dX8_policyTime_26 (by decide) ?_
    refine lv_iload_n hx hb dX8_policyTime_28 rfl (lv_at hl 1 rfl) ?_
    refine lv_imul hx hb dX8_policyTime_29 ?_
    refine mv_eqi (x' := nI (32 * i)) (pk_mul 32 i) ?_
    refine mv_callV (Y := mLM) (C := RX8) (k := 0) (i := 0) (rest := []) Cx hG hH hS (c_X8_hashTo l E A hO S18 23 128 isM_23 (by decide) (32 * i) (by omega) _ hP18.1 (by simp [mTk_len, w4_len])) q_co_X8_hashTo q_ml_X8_111 q_im_X8_hashTo q_se_X8_hashTo q_in_X8 okM_0 rfl rfl hd_X8_hashTo ⟨Nat.le_of_ble_eq_true rfl, Nat.le_of_ble_eq_true rfl⟩ rfl hl.1 rfl (Nat.le_of_ble_eq_true rfl) ⟨Nat.le_of_ble_eq_true rfl, Nat.le_of_ble_eq_true rfl⟩ dX8_policyTime_30 (fun S30 H locs hP30 hH hS => ?_)
    refine W.eq (g2 := F0 m 33 ls []) rfl ?_
    have hs30 : nSame (fun k j => scM k j ∨ (k = 23 ∧ 32 * i ≤ j ∧ j < 32 * i + 32)) S S30 := ((hP13.2.wk (fun k j h => by simp only [scM, nX, hX, seM] at h ⊢; omega)).tr (hP18.2.wk (fun k j h => by simp only [scM, nX, hX, seM] at h ⊢; omega))).tr (hP30.2.wk (fun k j h => by simp only [scM, nX, hX, seM] at h ⊢; omega))
    refine lv_aload_n hx hb dX8_policyTime_33 rfl (lv_at hl 0 rfl) ?_
    refine g_X8_ofTime Cx hG hH q_fl_X8_63 dX8_policyTime_34 ?_
    refine lv_iload_n hx hb dX8_policyTime_37 rfl (lv_at hl 1 rfl) ?_
    refine mv_zal Cx hG hH isM_27 i (rfl) (by omega) dX8_policyTime_38 ?_
    refine mv_eqi (x' := S.1 27 0 i) ((hs30 27 i (by simp only [scM, nX, hX, seM]; omega)).1) ?_
    refine lv_if_eq (tgt := 52) hx hb dX8_policyTime_39 (by decide) (fun h39 => ?_) (fun h39 => ?_)
    · skip
      refine lv_aload_n hx hb dX8_policyTime_52 rfl (lv_at hl 0 rfl) ?_
      refine g_X8_time Cx hG hH q_fl_X8_70 dX8_policyTime_53 ?_
      refine lv_iload_n hx hb dX8_policyTime_56 rfl (lv_at hl 1 rfl) ?_
      refine lv_iload_n hx hb dX8_policyTime_57 rfl (lv_at hl 2 rfl) ?_
      refine mv_ias Cx hG hO hH hS isM_29 i (rfl) (by omega) dX8_policyTime_58 (fun H locs hH hS => ?_)
      refine lv_aload_n hx hb dX8_policyTime_59 rfl (lv_at hl 0 rfl) ?_
      refine g_X8_ofTime Cx hG hH q_fl_X8_63 dX8_policyTime_60 ?_
      refine lv_iload_n hx hb dX8_policyTime_63 rfl (lv_at hl 1 rfl) ?_
      refine lv_iconst (v := 1) hx hb dX8_policyTime_64 (by decide) ?_
      refine mv_zas Cx hG hO hH hS isM_27 i (Or.inr rfl) (rfl) (by omega) dX8_policyTime_65 (fun H locs hH hS => ?_)
      refine lv_iconst (v := 0) hx hb dX8_policyTime_66 (by decide) ?_
      exact mv_reti Cx hr hH hS (by rw [hso]; rfl) (⟨fun h => by (have e := hso.symm.trans h; cases e), fun i' h => by (rw [hso] at h; injection h with h; subst h; exact ⟨hP30.1, by simp [mM, m3], by simp [mM, m3, h39], ((hs30.wk (fun k j h => by simp only [scM, nX, hX, seM] at h ⊢; omega)).tr (nSame.M (by simp [scM, nX, hX, seM]))).tr (nSame.M (by simp [scM, nX, hX, seM]))⟩)⟩) dX8_policyTime_67 hlocks
    · skip
      refine lv_iload_n hx hb dX8_policyTime_42 rfl (lv_at hl 2 rfl) ?_
      refine lv_aload_n hx hb dX8_policyTime_43 rfl (lv_at hl 0 rfl) ?_
      refine g_X8_time Cx hG hH q_fl_X8_70 dX8_policyTime_44 ?_
      refine lv_iload_n hx hb dX8_policyTime_47 rfl (lv_at hl 1 rfl) ?_
      refine mv_ial Cx hG hH isM_29 i (rfl) (by omega) dX8_policyTime_48 ?_
      refine mv_eqi (x' := S.1 29 0 i) ((hs30 29 i (by simp only [scM, nX, hX, seM]; omega)).1) ?_
      refine lv_icmp_ge (tgt := 59) hx hb dX8_policyTime_49 (by decide) (fun h49 => ?_) (fun h49 => ?_)
      · skip
        refine lv_aload_n hx hb dX8_policyTime_59 rfl (lv_at hl 0 rfl) ?_
        refine g_X8_ofTime Cx hG hH q_fl_X8_63 dX8_policyTime_60 ?_
        refine lv_iload_n hx hb dX8_policyTime_63 rfl (lv_at hl 1 rfl) ?_
        refine lv_iconst (v := 1) hx hb dX8_policyTime_64 (by decide) ?_
        refine mv_zas Cx hG hO hH hS isM_27 i (Or.inr rfl) (rfl) (by omega) dX8_policyTime_65 (fun H locs hH hS => ?_)
        refine lv_iconst (v := 0) hx hb dX8_policyTime_66 (by decide) ?_
        exact mv_reti Cx hr hH hS (by rw [hso]; rfl) (⟨fun h => by (have e := hso.symm.trans h; cases e), fun i' h => by (rw [hso] at h; injection h with h; subst h; exact ⟨hP30.1, by simp [mM, m3], by rw [if_neg h39, if_neg (Int32.not_lt.mpr h49)]; simp [mM, m3]; exact (hs30 29 i (by simp only [scM, nX, hX, seM]; omega)).1, (hs30.wk (fun k j h => by simp only [scM, nX, hX, seM] at h ⊢; omega)).tr (nSame.M (by simp [scM, nX, hX, seM]))⟩)⟩) dX8_policyTime_67 hlocks
      · skip
        refine lv_aload_n hx hb dX8_policyTime_52 rfl (lv_at hl 0 rfl) ?_
        refine g_X8_time Cx hG hH q_fl_X8_70 dX8_policyTime_53 ?_
        refine lv_iload_n hx hb dX8_policyTime_56 rfl (lv_at hl 1 rfl) ?_
        refine lv_iload_n hx hb dX8_policyTime_57 rfl (lv_at hl 2 rfl) ?_
        refine mv_ias Cx hG hO hH hS isM_29 i (rfl) (by omega) dX8_policyTime_58 (fun H locs hH hS => ?_)
        refine lv_aload_n hx hb dX8_policyTime_59 rfl (lv_at hl 0 rfl) ?_
        refine g_X8_ofTime Cx hG hH q_fl_X8_63 dX8_policyTime_60 ?_
        refine lv_iload_n hx hb dX8_policyTime_63 rfl (lv_at hl 1 rfl) ?_
        refine lv_iconst (v := 1) hx hb dX8_policyTime_64 (by decide) ?_
        refine mv_zas Cx hG hO hH hS isM_27 i (Or.inr rfl) (rfl) (by omega) dX8_policyTime_65 (fun H locs hH hS => ?_)
        refine lv_iconst (v := 0) hx hb dX8_policyTime_66 (by decide) ?_
        exact mv_reti Cx hr hH hS (by rw [hso]; rfl) (⟨fun h => by (have e := hso.symm.trans h; cases e), fun i' h => by (rw [hso] at h; injection h with h; subst h; exact ⟨hP30.1, by simp [mM, m3], by rw [if_neg h39, if_pos (Int32.not_le.mp h49)]; simp [mM, m3], ((hs30.wk (fun k j h => by simp only [scM, nX, hX, seM] at h ⊢; omega)).tr (nSame.M (by simp [scM, nX, hX, seM]))).tr (nSame.M (by simp [scM, nX, hX, seM]))⟩)⟩) dX8_policyTime_67 hlocks
  · skip
    have hno : msO S x = none := Option.not_isSome_iff_eq_none.mp (b0_of h5)
    refine lv_iconst (v := (-1 : Int32)) hx hb dX8_policyTime_8 (by decide) ?_
    exact mv_reti Cx hr hH hS (by rw [hno]; rfl) (⟨fun _ => rfl, fun i h => by (rw [hno] at h; cases h)⟩) dX8_policyTime_9 hlocks

set_option maxHeartbeats 4000000 in
set_option maxRecDepth 100000 in
theorem c_X8_policyState (l : Launch) (E : mEv) (A : Nat → Prop) (hO : mOwn mLM E A) (S : mSt) (x y : Int32) : Met l yX8_policyState (Cond.code yX8_policyState cX8_policyState 3 (some .int) :: mv_ws) (mRm 4 114) (mPc mLM E A S [.ref (mAdM E 0 0), .int x, .int y]) (mQ mLM E A (fun S' => (msO S x = none → S' = S) ∧ ∀ i, msO S x = some i → (∀ j, j < 32 → S'.2.1 23 0 (32 * i + j) = shaL (mTk (fun q => S.2.1 23 0 (32 * i + q)) 32 ++ [(1 : Int32).toInt8] ++ [y.toInt8] ++ mTk (shaL (regL (S.2.1 16 0) y 8)) 32) j) ∧ S'.1 24 0 i = 1 ∧ nSame (fun k j => scM k j ∨ (k = 23 ∧ 32 * i ≤ j ∧ j < 32 * i + 32) ∨ (k = 24 ∧ j = i)) S S') (some (.int ((msO S x).elim (-1) (fun _ => 0))))) 0 0 A := by
  refine Met.ofW (cc := cX8_policyState) (maxL := 3) (ret := (some .int)) (by decide) rfl ?_
  intro p e s m args below meth c s₁ B hml hv
  obtain ⟨rfl, hG, hH⟩ := hv
  have hx := B.exec
  have hb := B.bytes
  have hr := B.returns
  have hlocks := B.notSynchronized
  have Cx : CallFix p m c cX8_policyState 3 s ([.ref (mAdM E 0 0), .int x, .int y] : List Value).toArray (Cond.code yX8_policyState cX8_policyState 3 (some .int) :: mv_ws) RX8 := ⟨hx, hb, hml, findClass_of_methodNamed B.named, atoms_spec (ws := Cond.code yX8_policyState cX8_policyState 3 (some .int) :: mv_ws) B.pre⟩
  have hS : va_S A s.heap s.heap [] := va_S.rf
  have hl := lv_entry ([.ref (mAdM E 0 0), .int x, .int y]) (n := 3) (Nat.le_of_ble_eq_true rfl)
  rw [lg_entry_eq]
  generalize (lg_sl ([.ref (mAdM E 0 0), .int x, .int y]) ++ List.replicate (3 - (lg_sl ([.ref (mAdM E 0 0), .int x, .int y])).length) Slot.unset).toArray = ls at hl ⊢
  have hl : lv_has ls 3 [(0, .ref (mAdM E 0 0)), (1, .int x), (2, .int y)] := hl
  refine lv_aload_n hx hb dX8_policyState_0 rfl (lv_at hl 0 rfl) ?_
  refine lv_iload_n hx hb dX8_policyState_1 rfl (lv_at hl 1 rfl) ?_
  refine mv_callV (Y := mLM) (C := RX8) (k := 0) (i := 0) (rest := []) Cx hG hH hS (c_X8_opened l E A hO S x) q_co_X8_opened q_ml_X8_182 q_im_X8_opened q_se_X8_opened q_in_X8 okM_0 rfl rfl hd_X8_opened ⟨Nat.le_of_ble_eq_true rfl, Nat.le_of_ble_eq_true rfl⟩ rfl hl.1 rfl (Nat.le_of_ble_eq_true rfl) ⟨Nat.le_of_ble_eq_true rfl, Nat.le_of_ble_eq_true rfl⟩ dX8_policyState_2 (fun S2 H locs hP2 hH hS => ?_)
  refine W.eq (g2 := F0 m 5 ls [.int (if (msO S x).isSome = true then 1 else 0)]) rfl ?_
  have hH := mv_S hP2 hH
  refine lv_if_ne (tgt := 10) hx hb dX8_policyState_5 (by decide) (fun h5 => ?_) (fun h5 => ?_)
  · skip
    obtain ⟨i, hso⟩ := Option.isSome_iff_exists.mp (b1_of h5)
    obtain ⟨hxi, hi, hop⟩ := opO_some (by decide) hso
    have hl : lv_has ls 3 [(0, .ref (mAdM E 0 0)), (1, .int (nI i)), (2, .int y)] := by rw [← hxi]; exact hl
    refine lv_aload_n hx hb dX8_policyState_10 rfl (lv_at hl 0 rfl) ?_
    refine lv_iload_n hx hb dX8_policyState_11 rfl (lv_at hl 2 rfl) ?_
    refine lv_aload_n hx hb dX8_policyState_12 rfl (lv_at hl 0 rfl) ?_
    refine g_X8_macKey Cx hG hH q_fl_X8_29 dX8_policyState_13 ?_
    refine lv_iconst (v := 0) hx hb dX8_policyState_16 (by decide) ?_
    refine mv_eqi (x' := nI 0) (rfl) ?_
    refine mv_callV (Y := mLM) (C := RX8) (k := 0) (i := 0) (rest := []) Cx hG hH hS (c_X8_stateTo l E A hO S y 10 32 isM_10 (by decide) 0 (by decide)) q_co_X8_stateTo q_ml_X8_156 q_im_X8_stateTo q_se_X8_stateTo q_in_X8 okM_0 rfl rfl hd_X8_stateTo ⟨Nat.le_of_ble_eq_true rfl, Nat.le_of_ble_eq_true rfl⟩ rfl hl.1 rfl (Nat.le_of_ble_eq_true rfl) ⟨Nat.le_of_ble_eq_true rfl, Nat.le_of_ble_eq_true rfl⟩ dX8_policyState_17 (fun S17 H locs hP17 hH hS => ?_)
    refine W.eq (g2 := F0 m 20 ls []) rfl ?_
    refine lv_aload_n hx hb dX8_policyState_20 rfl (lv_at hl 0 rfl) ?_
    refine lv_iload_n hx hb dX8_policyState_21 rfl (lv_at hl 1 rfl) ?_
    refine lv_iconst (v := 1) hx hb dX8_policyState_22 (by decide) ?_
    refine mv_callV (Y := mLM) (C := RX8) (k := 0) (i := 0) (rest := []) Cx hG hH hS (c_X8_begin l E A hO S17 i hi 1) q_co_X8_begin q_ml_X8_185 q_im_X8_begin q_se_X8_begin q_in_X8 okM_0 rfl rfl hd_X8_begin ⟨Nat.le_of_ble_eq_true rfl, Nat.le_of_ble_eq_true rfl⟩ rfl hl.1 rfl (Nat.le_of_ble_eq_true rfl) ⟨Nat.le_of_ble_eq_true rfl, Nat.le_of_ble_eq_true rfl⟩ dX8_policyState_23 (fun S23 H locs hP23 hH hS => ?_)
    refine W.eq (g2 := F0 m 26 ls []) rfl ?_
    refine lv_aload_n hx hb dX8_policyState_26 rfl (lv_at hl 0 rfl) ?_
    refine lv_iload_n hx hb dX8_policyState_27 rfl (lv_at hl 2 rfl) ?_
    refine mv_callV (Y := mLM) (C := RX8) (k := 0) (i := 0) (rest := []) Cx hG hH hS (c_X8_add l E A hO S23 _ hP23.1 y (by simp [mTk_len])) q_co_X8_add q_ml_X8_104 q_im_X8_add q_se_X8_add q_in_X8 okM_0 rfl rfl hd_X8_add ⟨Nat.le_of_ble_eq_true rfl, Nat.le_of_ble_eq_true rfl⟩ rfl hl.1 rfl (Nat.le_of_ble_eq_true rfl) ⟨Nat.le_of_ble_eq_true rfl, Nat.le_of_ble_eq_true rfl⟩ dX8_policyState_28 (fun S28 H locs hP28 hH hS => ?_)
    refine W.eq (g2 := F0 m 31 ls []) rfl ?_
    refine lv_aload_n hx hb dX8_policyState_31 rfl (lv_at hl 0 rfl) ?_
    refine lv_aload_n hx hb dX8_policyState_32 rfl (lv_at hl 0 rfl) ?_
    refine g_X8_macKey Cx hG hH q_fl_X8_29 dX8_policyState_33 ?_
    refine lv_iconst (v := 0) hx hb dX8_policyState_36 (by decide) ?_
    refine mv_eqi (x' := nI 0) (rfl) ?_
    refine lv_bipush (v := 32) hx hb dX8_policyState_37 (by decide) ?_
    refine mv_eqi (x' := nI 32) (rfl) ?_
    refine mv_callV (Y := mLM) (C := RX8) (k := 0) (i := 0) (rest := []) Cx hG hH hS (c_X8_add_ l E A hO S28 10 32 isM_10 (by decide) 0 32 (by decide) _ hP28.1 (by simp [mTk_len])) q_co_X8_add_ q_ml_X8_134 q_im_X8_add_ q_se_X8_add_ q_in_X8 okM_0 rfl rfl hd_X8_add_ ⟨Nat.le_of_ble_eq_true rfl, Nat.le_of_ble_eq_true rfl⟩ rfl hl.1 rfl (Nat.le_of_ble_eq_true rfl) ⟨Nat.le_of_ble_eq_true rfl, Nat.le_of_ble_eq_true rfl⟩ dX8_policyState_39 (fun S39 H locs hP39 hH hS => ?_)
    refine W.eq (g2 := F0 m 42 ls []) rfl ?_
    have hr5 : nHas 5 1024 S39 (mTk (fun q => S.2.1 23 0 (32 * i + q)) 32 ++ [(1 : Int32).toInt8] ++ [y.toInt8] ++ mTk (shaL (regL (S.2.1 16 0) y 8)) 32) := by have h := hP39.1; rwa [show mTk (fun q => S17.2.1 23 0 (32 * i + q)) 32 = mTk (fun q => S.2.1 23 0 (32 * i + q)) 32 from mTk_congr (fun q hq => (hP17.2 23 _ (by simp only [scM, nX, hX, seM]; omega)).2.1), show mTk (fun q => S28.2.1 10 0 (0 + q)) 32 = mTk (shaL (regL (S.2.1 16 0) y 8)) 32 from mTk_congr (fun q hq => ((hP28.2 10 _ (by simp only [scM, nX, hX, seM]; omega)).2.1.trans (hP23.2 10 _ (by simp only [scM, nX, hX, seM]; omega)).2.1).trans (hP17.1 q hq))] at h
    refine lv_aload_n hx hb dX8_policyState_42 rfl (lv_at hl 0 rfl) ?_
    refine lv_aload_n hx hb dX8_policyState_43 rfl (lv_at hl 0 rfl) ?_
    refine g_X8_digest Cx hG hH q_fl_X8_51 dX8_policyState_44 ?_
    refine lv_bipush (v := 32) hx hb dX8_policyState_47 (by decide) ?_
    refine lv_iload_n hx hb dX8_policyState_49 rfl (lv_at hl 1 rfl) ?_
    refine lv_imul hx hb dX8_policyState_50 ?_
    refine mv_eqi (x' := nI (32 * i)) (pk_mul 32 i) ?_
    refine mv_callV (Y := mLM) (C := RX8) (k := 0) (i := 0) (rest := []) Cx hG hH hS (c_X8_hashTo l E A hO S39 23 128 isM_23 (by decide) (32 * i) (by omega) _ hr5 (by simp [mTk_len])) q_co_X8_hashTo q_ml_X8_111 q_im_X8_hashTo q_se_X8_hashTo q_in_X8 okM_0 rfl rfl hd_X8_hashTo ⟨Nat.le_of_ble_eq_true rfl, Nat.le_of_ble_eq_true rfl⟩ rfl hl.1 rfl (Nat.le_of_ble_eq_true rfl) ⟨Nat.le_of_ble_eq_true rfl, Nat.le_of_ble_eq_true rfl⟩ dX8_policyState_51 (fun S51 H locs hP51 hH hS => ?_)
    refine W.eq (g2 := F0 m 54 ls []) rfl ?_
    refine lv_aload_n hx hb dX8_policyState_54 rfl (lv_at hl 0 rfl) ?_
    refine g_X8_ofRegisters Cx hG hH q_fl_X8_54 dX8_policyState_55 ?_
    refine lv_iload_n hx hb dX8_policyState_58 rfl (lv_at hl 1 rfl) ?_
    refine lv_iconst (v := 1) hx hb dX8_policyState_59 (by decide) ?_
    refine mv_zas Cx hG hO hH hS isM_24 i (Or.inr rfl) (rfl) (by omega) dX8_policyState_60 (fun H locs hH hS => ?_)
    refine lv_iconst (v := 0) hx hb dX8_policyState_61 (by decide) ?_
    exact mv_reti Cx hr hH hS (by rw [hso]; rfl) (⟨fun h => by (have e := hso.symm.trans h; cases e), fun i' h => by (rw [hso] at h; injection h with h; subst h; exact ⟨hP51.1, by simp [mM, m3], (((((hP17.2.wk (fun k j h => by simp only [scM, nX, hX, seM] at h ⊢; omega)).tr (hP23.2.wk (fun k j h => by simp only [scM, nX, hX, seM] at h ⊢; omega))).tr (hP28.2.wk (fun k j h => by simp only [scM, nX, hX, seM] at h ⊢; omega))).tr (hP39.2.wk (fun k j h => by simp only [scM, nX, hX, seM] at h ⊢; omega))).tr (hP51.2.wk (fun k j h => by simp only [scM, nX, hX, seM] at h ⊢; omega))).tr (nSame.M (Or.inr (Or.inr ⟨rfl, rfl⟩)))⟩)⟩) dX8_policyState_62 hlocks
  · skip
    have hno : msO S x = none := Option.not_isSome_iff_eq_none.mp (b0_of h5)
    refine lv_iconst (v := (-1 : Int32)) hx hb dX8_policyState_8 (by decide) ?_
    exact mv_reti Cx hr hH hS (by rw [hno]; rfl) (⟨fun _ => rfl, fun i h => by (rw [hno] at h; cases h)⟩) dX8_policyState_9 hlocks
