/-! ===== the reference: definitions, quotes, blobs ===== -/
theorem nHas.app {c cap n : Nat} {S S' : mSt} {xs : List Int8} {f : Nat → Int8} (h : nHas c cap S xs) (h1 : ∀ j, j < xs.length → S'.2.1 c 0 j = S.2.1 c 0 j) (h2 : ∀ q, q < n → S'.2.1 c 0 (xs.length + q) = f q) (h3 : S'.1 0 0 c = nI (xs.length + n)) (h4 : xs.length + n ≤ cap) : nHas c cap S' (xs ++ mTk f n) := by
  refine ⟨by rw [List.length_append, mTk_len]; exact h3, by rw [List.length_append, mTk_len]; exact h4, fun j hj => ?_⟩
  rw [List.length_append, mTk_len] at hj
  by_cases e : j < xs.length
  · rw [h1 j e, h.2.2 j e]
    simp [List.getD_eq_getElem?_getD, List.getElem?_append_left e]
  · have h := h2 (j - xs.length) (by omega)
    rw [show xs.length + (j - xs.length) = j by omega] at h
    rw [h, ← mTk_get f (n := n) (j := j - xs.length) (by omega)]
    simp [List.getD_eq_getElem?_getD, List.getElem?_append_right (Nat.not_lt.mp e)]
theorem mTk_getD (xs : List Int8) : mTk (fun q => xs.getD q 0) xs.length = xs := mTk_list (fun _ _ => rfl)
def dfX (i : Nat) : Nat → Nat → Prop := fun k j => scM k j ∨ ((k = 31 ∨ k = 32) ∧ 32 * (4 + i) ≤ j ∧ j < 32 * (4 + i) + 32) ∨ ((k = 30 ∨ k = 34 ∨ k = 35 ∨ k = 36 ∨ k = 37) ∧ j = 4 + i) ∨ (k = 33 ∧ 128 * (4 + i) ≤ j ∧ j < 128 * (4 + i) + 128)
abbrev dfOk (S : mSt) (x kd sz z : Int32) : Prop := ¬ x < 0 ∧ ¬ 7 < x ∧ ¬ kd < 0 ∧ ¬ 2 < kd ∧ (z = -1 ∨ (msO S z).isSome = true) ∧ (kd = 0 → ¬ sz < 1 ∧ sz ≤ 64)
def mquL (S : mSt) (x : Int32) (ts : List Int8) : List Int8 := [(81 : Int32).toInt8] ++ [x.toInt8] ++ mTk (shaL (regL (S.2.1 16 0) x 8)) 32 ++ w4 (S.1 0 0 16) ++ w4 (S.1 0 0 17) ++ ts
theorem mquL_len (S : mSt) (x : Int32) (ts : List Int8) : (mquL S x ts).length = 42 + ts.length := by
  simp only [mquL, List.length_append, List.length_singleton, mTk_len, w4_len]
abbrev mpOk (S : mSt) (x : Int32) : Prop := x = -1 ∨ (msO S x).isSome = true
def mfO (S : mSt) : Option Nat := if S.1 30 0 0 = 0 then some 0 else if S.1 30 0 1 = 0 then some 1 else if S.1 30 0 2 = 0 then some 2 else if S.1 30 0 3 = 0 then some 3 else none
theorem mfO_of {S : mSt} {j : Nat} (hj : j < 4) (h : ∀ q, q < j → ¬ S.1 30 0 q = 0) (h0 : S.1 30 0 j = 0) : mfO S = some j := by
  unfold mfO
  rcases (show j = 0 ∨ j = 1 ∨ j = 2 ∨ j = 3 by omega) with rfl | rfl | rfl | rfl
  · rw [if_pos h0]
  · rw [if_neg (h 0 (by omega)), if_pos h0]
  · rw [if_neg (h 0 (by omega)), if_neg (h 1 (by omega)), if_pos h0]
  · rw [if_neg (h 0 (by omega)), if_neg (h 1 (by omega)), if_neg (h 2 (by omega)), if_pos h0]
theorem mfO_none {S : mSt} (h : ∀ q, q < 4 → ¬ S.1 30 0 q = 0) : mfO S = none := by
  unfold mfO
  rw [if_neg (h 0 (by omega)), if_neg (h 1 (by omega)), if_neg (h 2 (by omega)), if_neg (h 3 (by omega))]
theorem mfO_congr {S S' : mSt} (h : ∀ q, q < 4 → S'.1 30 0 q = S.1 30 0 q) : mfO S' = mfO S := by
  unfold mfO
  rw [h 0 (by omega), h 1 (by omega), h 2 (by omega), h 3 (by omega)]
theorem sh24 (x : Int32) : (x &&& 255) <<< ((24 : Int32) &&& 31) = x <<< ((24 : Int32) &&& 31) := by
  apply u32_inj
  show u32 ((x &&& 255) <<< (nI 24 &&& 31)) = u32 (x <<< (nI 24 &&& 31))
  rw [u32_shl _ (by decide), u32_shl _ (by decide), u32_and, show u32 (255 : Int32) = 2 ^ 8 - 1 from rfl, Nat.and_two_pow_sub_one_eq_mod]
  omega
theorem lt_of_nI8 {x : Int32} (h : nI 8 ≤ x) : 7 < x := by
  have h1 := Int32.le_iff_toInt_le.mp h
  rw [nI_toInt (by decide)] at h1
  apply Int32.lt_iff_toInt_lt.mpr
  have h2 : (7 : Int32).toInt = 7 := rfl
  omega
set_option maxHeartbeats 4000000 in
set_option maxRecDepth 100000 in
theorem c_X8_define (l : Launch) (E : mEv) (A : Nat → Prop) (hO : mOwn mLM E A) (S : mSt) (x kd sz z : Int32) (ts : List Int8) (hts : nHas 1 400 S ts) : Met l yX8_define (Cond.code yX8_define cX8_define 9 (some .int) :: mv_ws) (mRm 3 90) (mPc mLM E A S [.ref (mAdM E 0 0), .int x, .int kd, .int sz, .int z]) (mQ mLM E A (fun S' => (¬ dfOk (mM S 0 0 1 0) x kd sz z → S' = (mM S 0 0 1 0)) ∧ (dfOk (mM S 0 0 1 0) x kd sz z → ∀ i, i < 8 → x = nI i → (¬ (mM S 0 0 1 0).1 30 0 (4 + i) = 0 → S' = (mM S 0 0 1 0)) ∧ ((mM S 0 0 1 0).1 30 0 (4 + i) = 0 → ((mkR (mM S 0 0 1 0) (S.2.1 15 0) 0) = 0 → (∀ j, j < 32 → S'.2.1 31 0 (32 * (4 + i) + j) = shaL ts j) ∧ (∀ j, j < 32 → S'.2.1 32 0 (32 * (4 + i) + j) = mpF S z j) ∧ S'.1 30 0 (4 + i) = 1 ∧ S'.1 35 0 (4 + i) = kd ∧ S'.1 34 0 (4 + i) = (if kd = 0 then sz else if kd = 1 then 8 else 32) ∧ S'.1 36 0 (4 + i) = 0 ∧ S'.1 37 0 (4 + i) = 0 ∧ (∀ q, q < 128 → S'.2.1 33 0 (128 * (4 + i) + q) = (0 : Int32).toInt8) ∧ nSame (dfX i) (mM S 0 0 1 0) S') ∧ (¬ (mkR (mM S 0 0 1 0) (S.2.1 15 0) 0) = 0 → S' = mkS (mM S 0 0 1 0) (S.2.1 15 0) 0)))) (some (.int (if dfOk (mM S 0 0 1 0) x kd sz z then (if (mM S 0 0 1 0).1 30 0 (4 + x.toNatClampNeg) = 0 then (mkR (mM S 0 0 1 0) (S.2.1 15 0) 0) else -2) else -1)))) 0 0 A := by
  refine Met.ofW (cc := cX8_define) (maxL := 9) (ret := (some .int)) (by decide) rfl ?_
  intro p e s m args below meth c s₁ B hml hv
  obtain ⟨rfl, hG, hH⟩ := hv
  have hx := B.exec
  have hb := B.bytes
  have hr := B.returns
  have hlocks := B.notSynchronized
  have Cx : CallFix p m c cX8_define 9 s ([.ref (mAdM E 0 0), .int x, .int kd, .int sz, .int z] : List Value).toArray (Cond.code yX8_define cX8_define 9 (some .int) :: mv_ws) RX8 := ⟨hx, hb, hml, findClass_of_methodNamed B.named, atoms_spec (ws := Cond.code yX8_define cX8_define 9 (some .int) :: mv_ws) B.pre⟩
  have hS : va_S A s.heap s.heap [] := va_S.rf
  have hlen := hts.2.1
  have hl := lv_entry ([.ref (mAdM E 0 0), .int x, .int kd, .int sz, .int z]) (n := 9) (Nat.le_of_ble_eq_true rfl)
  rw [lg_entry_eq]
  generalize (lg_sl ([.ref (mAdM E 0 0), .int x, .int kd, .int sz, .int z]) ++ List.replicate (9 - (lg_sl ([.ref (mAdM E 0 0), .int x, .int kd, .int sz, .int z])).length) Slot.unset).toArray = ls at hl ⊢
  have hl : lv_has ls 9 [(0, .ref (mAdM E 0 0)), (1, .int x), (2, .int kd), (3, .int sz), (4, .int z)] := hl
  refine lv_aload_n hx hb dX8_define_0 rfl (lv_at hl 0 rfl) ?_
  refine g_X8_tapeLength Cx hG hH q_fl_X8_137 dX8_define_1 ?_
  refine mv_eqi (x' := nI ts.length) (hts.1) ?_
  refine lv_istore (lv' := [(5, .int (nI ts.length)), (0, .ref (mAdM E 0 0)), (1, .int x), (2, .int kd), (3, .int sz), (4, .int z)]) hx hb dX8_define_4 hl (by decide) rfl (fun ls hl => ?_)
  refine lv_aload_n hx hb dX8_define_6 rfl (lv_at hl 1 rfl) ?_
  refine lv_iconst (v := 0) hx hb dX8_define_7 (by decide) ?_
  refine p_X8_tapeLength Cx hG hO hH hS q_fl_X8_137 dX8_define_8 (fun H locs hH hS => ?_)
  refine lv_iload_n hx hb dX8_define_11 rfl (lv_at hl 2 rfl) ?_
  refine lv_if_lt (tgt := 60) hx hb dX8_define_12 (by decide) (fun h12 => ?_) (fun h12 => ?_)
  · skip
    have hok : ¬ dfOk (mM S 0 0 1 0) x kd sz z := fun q => q.1 h12
    refine lv_iconst (v := (-1 : Int32)) hx hb dX8_define_60 (by decide) ?_
    exact mv_reti Cx hr hH hS ((if_neg hok).symm) (⟨fun _ => rfl, fun q => absurd q hok⟩) dX8_define_61 hlocks
  · skip
    refine lv_iload_n hx hb dX8_define_15 rfl (lv_at hl 2 rfl) ?_
    refine lv_bipush (v := 7) hx hb dX8_define_16 (by decide) ?_
    refine lv_icmp_gt (tgt := 60) hx hb dX8_define_18 (by decide) (fun h18 => ?_) (fun h18 => ?_)
    · skip
      have hok : ¬ dfOk (mM S 0 0 1 0) x kd sz z := fun q => q.2.1 h18
      refine lv_iconst (v := (-1 : Int32)) hx hb dX8_define_60 (by decide) ?_
      exact mv_reti Cx hr hH hS ((if_neg hok).symm) (⟨fun _ => rfl, fun q => absurd q hok⟩) dX8_define_61 hlocks
    · skip
      refine lv_iload_n hx hb dX8_define_21 rfl (lv_at hl 3 rfl) ?_
      refine lv_if_lt (tgt := 60) hx hb dX8_define_22 (by decide) (fun h22 => ?_) (fun h22 => ?_)
      · skip
        have hok : ¬ dfOk (mM S 0 0 1 0) x kd sz z := fun q => q.2.2.1 h22
        refine lv_iconst (v := (-1 : Int32)) hx hb dX8_define_60 (by decide) ?_
        exact mv_reti Cx hr hH hS ((if_neg hok).symm) (⟨fun _ => rfl, fun q => absurd q hok⟩) dX8_define_61 hlocks
      · skip
        refine lv_iload_n hx hb dX8_define_25 rfl (lv_at hl 3 rfl) ?_
        refine lv_iconst (v := 2) hx hb dX8_define_26 (by decide) ?_
        refine lv_icmp_gt (tgt := 60) hx hb dX8_define_27 (by decide) (fun h27 => ?_) (fun h27 => ?_)
        · skip
          have hok : ¬ dfOk (mM S 0 0 1 0) x kd sz z := fun q => q.2.2.2.1 h27
          refine lv_iconst (v := (-1 : Int32)) hx hb dX8_define_60 (by decide) ?_
          exact mv_reti Cx hr hH hS ((if_neg hok).symm) (⟨fun _ => rfl, fun q => absurd q hok⟩) dX8_define_61 hlocks
        · skip
          refine lv_iload hx hb dX8_define_30 (lv_at hl 5 rfl) ?_
          refine lv_iconst (v := (-1 : Int32)) hx hb dX8_define_32 (by decide) ?_
          refine lv_icmp_eq (tgt := 45) hx hb dX8_define_33 (by decide) (fun h33 => ?_) (fun h33 => ?_)
          · skip
            refine lv_iload_n hx hb dX8_define_45 rfl (lv_at hl 3 rfl) ?_
            refine lv_if_ne (tgt := 62) hx hb dX8_define_46 (by decide) (fun h46 => ?_) (fun h46 => ?_)
            · skip
              have hok : dfOk (mM S 0 0 1 0) x kd sz z := ⟨h12, h18, h22, h27, Or.inl h33, fun e => absurd e h46⟩
              obtain ⟨i, hi, hxi⟩ := ix_of (n := 8) (by decide) h12 (fun q => h18 (lt_of_nI8 q))
              have hl : lv_has ls 9 [(5, .int (nI ts.length)), (0, .ref (mAdM E 0 0)), (1, .int (nI i)), (2, .int kd), (3, .int sz), (4, .int z)] := by rw [← hxi]; exact hl
              have hzp : ∀ q, mpF S z q = (0 : Int32).toInt8 := fun q => by rw [h33]; exact mpF_m
              refine lv_aload_n hx hb dX8_define_62 rfl (lv_at hl 1 rfl) ?_
              refine g_X8_there Cx hG hH q_fl_X8_73 dX8_define_63 ?_
              refine lv_iconst (v := 4) hx hb dX8_define_66 (by decide) ?_
              refine lv_iload_n hx hb dX8_define_67 rfl (lv_at hl 2 rfl) ?_
              refine lv_iadd hx hb dX8_define_68 ?_
              refine mv_eqi (x' := nI (4 + i)) (nI_add 4 i) ?_
              refine mv_zal Cx hG hH isM_30 (4 + i) (rfl) (by omega) dX8_define_69 ?_
              refine lv_if_eq (tgt := 76) hx hb dX8_define_70 (by decide) (fun h70 => ?_) (fun h70 => ?_)
              · skip
                refine lv_aload_n hx hb dX8_define_76 rfl (lv_at hl 1 rfl) ?_
                refine mv_callV (Y := mLM) (C := RX8) (k := 0) (i := 0) (rest := []) Cx hG hH hS (c_X8_owners l E A hO (mM S 0 0 1 0)) q_co_X8_owners q_ml_X8_225 q_im_X8_owners q_se_X8_owners q_in_X8 okM_0 rfl rfl hd_X8_owners ⟨Nat.le_of_ble_eq_true rfl, Nat.le_of_ble_eq_true rfl⟩ rfl hl.1 rfl (Nat.le_of_ble_eq_true rfl) ⟨Nat.le_of_ble_eq_true rfl, Nat.le_of_ble_eq_true rfl⟩ dX8_define_77 (fun S77 H locs hP77 hH hS => ?_)
                refine W.eq (g2 := F0 m 80 ls [.int (mkR (mM S 0 0 1 0) (S.2.1 15 0) 0)]) rfl ?_
                have hH := mv_S hP77 hH
                refine lv_istore (lv' := [(6, .int (mkR (mM S 0 0 1 0) (S.2.1 15 0) 0)), (5, .int (nI ts.length)), (0, .ref (mAdM E 0 0)), (1, .int (nI i)), (2, .int kd), (3, .int sz), (4, .int z)]) hx hb dX8_define_80 hl (by decide) rfl (fun ls hl => ?_)
                refine lv_iload hx hb dX8_define_82 (lv_at hl 0 rfl) ?_
                refine lv_if_ge (tgt := 90) hx hb dX8_define_84 (by decide) (fun h84 => ?_) (fun h84 => ?_)
                · skip
                  have h0 := mkR_ge h84
                  have hH := mv_S (mkS_0 h0) hH
                  refine lv_iconst (v := 4) hx hb dX8_define_90 (by decide) ?_
                  refine lv_iload_n hx hb dX8_define_91 rfl (lv_at hl 3 rfl) ?_
                  refine lv_iadd hx hb dX8_define_92 ?_
                  refine mv_eqi (x' := nI (4 + i)) (nI_add 4 i) ?_
                  refine lv_istore (lv' := [(7, .int (nI (4 + i))), (6, .int (mkR (mM S 0 0 1 0) (S.2.1 15 0) 0)), (5, .int (nI ts.length)), (0, .ref (mAdM E 0 0)), (1, .int (nI i)), (2, .int kd), (3, .int sz), (4, .int z)]) hx hb dX8_define_93 hl (by decide) rfl (fun ls hl => ?_)
                  refine lv_aload_n hx hb dX8_define_95 rfl (lv_at hl 3 rfl) ?_
                  refine lv_iconst (v := 0) hx hb dX8_define_96 (by decide) ?_
                  refine p_X8_rowCount Cx hG hO hH hS q_fl_X8_100 dX8_define_97 (fun H locs hH hS => ?_)
                  refine lv_aload_n hx hb dX8_define_100 rfl (lv_at hl 3 rfl) ?_
                  refine lv_aload_n hx hb dX8_define_101 rfl (lv_at hl 3 rfl) ?_
                  refine g_X8_tape Cx hG hH q_fl_X8_9 dX8_define_102 ?_
                  refine lv_iconst (v := 0) hx hb dX8_define_105 (by decide) ?_
                  refine mv_eqi (x' := nI 0) (rfl) ?_
                  refine lv_iload hx hb dX8_define_106 (lv_at hl 2 rfl) ?_
                  refine mv_callV (Y := mLM) (C := RX8) (k := 0) (i := 0) (rest := []) Cx hG hH hS (c_X8_add_ l E A hO (mM (mM S 0 0 1 0) 0 0 5 0) 1 400 isM_1 (by decide) 0 ts.length (by omega) [] nHas.nil (by simp; omega)) q_co_X8_add_ q_ml_X8_134 q_im_X8_add_ q_se_X8_add_ q_in_X8 okM_0 rfl rfl hd_X8_add_ ⟨Nat.le_of_ble_eq_true rfl, Nat.le_of_ble_eq_true rfl⟩ rfl hl.1 rfl (Nat.le_of_ble_eq_true rfl) ⟨Nat.le_of_ble_eq_true rfl, Nat.le_of_ble_eq_true rfl⟩ dX8_define_108 (fun S108 H locs hP108 hH hS => ?_)
                  refine W.eq (g2 := F0 m 111 ls []) rfl ?_
                  have hr5 : nHas 5 1024 S108 ts := by have h := hP108.1; rw [List.nil_append] at h; rwa [show mTk (fun q => (mM (mM S 0 0 1 0) 0 0 5 0).2.1 1 0 (0 + q)) ts.length = ts from hts.list] at h
                  refine lv_aload_n hx hb dX8_define_111 rfl (lv_at hl 3 rfl) ?_
                  refine lv_aload_n hx hb dX8_define_112 rfl (lv_at hl 3 rfl) ?_
                  refine g_X8_auth Cx hG hH q_fl_X8_76 dX8_define_113 ?_
                  refine lv_bipush (v := 32) hx hb dX8_define_116 (by decide) ?_
                  refine lv_iload hx hb dX8_define_118 (lv_at hl 0 rfl) ?_
                  refine lv_imul hx hb dX8_define_120 ?_
                  refine mv_eqi (x' := nI (32 * (4 + i))) (pk_mul 32 (4 + i)) ?_
                  refine mv_callV (Y := mLM) (C := RX8) (k := 0) (i := 0) (rest := []) Cx hG hH hS (c_X8_hashTo l E A hO S108 31 384 isM_31 (by decide) (32 * (4 + i)) (by omega) ts hr5 (by omega)) q_co_X8_hashTo q_ml_X8_111 q_im_X8_hashTo q_se_X8_hashTo q_in_X8 okM_0 rfl rfl hd_X8_hashTo ⟨Nat.le_of_ble_eq_true rfl, Nat.le_of_ble_eq_true rfl⟩ rfl hl.1 rfl (Nat.le_of_ble_eq_true rfl) ⟨Nat.le_of_ble_eq_true rfl, Nat.le_of_ble_eq_true rfl⟩ dX8_define_121 (fun S121 H locs hP121 hH hS => ?_)
                  refine W.eq (g2 := F0 m 124 ls []) rfl ?_
                  have hs121 : nSame (dfX i) (mM S 0 0 1 0) S121 := ((nSame.M (by simp [dfX, scM, nX])).tr (hP108.2.wk (fun k j h => by simp only [dfX, scM, nX, hX] at h ⊢; omega))).tr (hP121.2.wk (fun k j h => by simp only [dfX, scM, nX, hX] at h ⊢; omega))
                  refine lv_iconst (v := 0) hx hb dX8_define_124 (by decide) ?_
                  refine mv_eqi (x' := nI 0) (rfl) ?_
                  refine lv_istore (lv' := [(8, .int (nI 0)), (7, .int (nI (4 + i))), (6, .int (mkR (mM S 0 0 1 0) (S.2.1 15 0) 0)), (5, .int (nI ts.length)), (0, .ref (mAdM E 0 0)), (1, .int (nI i)), (2, .int kd), (3, .int sz), (4, .int z)]) hx hb dX8_define_125 hl (by decide) rfl (fun ls hl => ?_)
                  have lp : ∀ (fu j : Nat) (S1 : mSt) (H : Heap) (locs : List Loc) (ls : Array Slot) , 32 - j < fu → j ≤ 32 → ((∀ q, q < j → S1.2.1 32 0 (32 * (4 + i) + q) = mpF S z q) ∧ nSame (fun k q => k = 32 ∧ 32 * (4 + i) ≤ q ∧ q < 32 * (4 + i) + 32) S121 S1) → mHold mLM E S1 H → va_S A s.heap H locs → lv_has ls 9 [(0, .ref (mAdM E 0 0)), (2, .int kd), (3, .int sz), (4, .int z), (7, .int (nI (4 + i))), (8, .int (nI j))] → W p l e (headSpec (Cond.code yX8_define cX8_define 9 (some .int) :: mv_ws) (mRm 3 90)).room s m ([.ref (mAdM E 0 0), .int x, .int kd, .int sz, .int z] : List Value).toArray below meth c H locs 0 0 (MQ below (mQ mLM E A (fun S' => (¬ dfOk (mM S 0 0 1 0) x kd sz z → S' = (mM S 0 0 1 0)) ∧ (dfOk (mM S 0 0 1 0) x kd sz z → ∀ i, i < 8 → x = nI i → (¬ (mM S 0 0 1 0).1 30 0 (4 + i) = 0 → S' = (mM S 0 0 1 0)) ∧ ((mM S 0 0 1 0).1 30 0 (4 + i) = 0 → ((mkR (mM S 0 0 1 0) (S.2.1 15 0) 0) = 0 → (∀ j, j < 32 → S'.2.1 31 0 (32 * (4 + i) + j) = shaL ts j) ∧ (∀ j, j < 32 → S'.2.1 32 0 (32 * (4 + i) + j) = mpF S z j) ∧ S'.1 30 0 (4 + i) = 1 ∧ S'.1 35 0 (4 + i) = kd ∧ S'.1 34 0 (4 + i) = (if kd = 0 then sz else if kd = 1 then 8 else 32) ∧ S'.1 36 0 (4 + i) = 0 ∧ S'.1 37 0 (4 + i) = 0 ∧ (∀ q, q < 128 → S'.2.1 33 0 (128 * (4 + i) + q) = (0 : Int32).toInt8) ∧ nSame (dfX i) (mM S 0 0 1 0) S') ∧ (¬ (mkR (mM S 0 0 1 0) (S.2.1 15 0) 0) = 0 → S' = mkS (mM S 0 0 1 0) (S.2.1 15 0) 0)))) (some (.int (if dfOk (mM S 0 0 1 0) x kd sz z then (if (mM S 0 0 1 0).1 30 0 (4 + x.toNatClampNeg) = 0 then (mkR (mM S 0 0 1 0) (S.2.1 15 0) 0) else -2) else -1)))) ([.ref (mAdM E 0 0), .int x, .int kd, .int sz, .int z] : List Value).toArray s 0 0 A) (F0 m 127 ls []) := by
                    intro fu
                    induction fu with
                    | zero => intro j S1 H locs ls  hn hj hinv hH hS hl; omega
                    | succ fu ih =>
                      intro j S1 H locs ls  hn hj hinv hH hS hl
                      refine lv_iload hx hb dX8_define_127 (lv_at hl 5 rfl) ?_
                      refine lv_bipush (v := 32) hx hb dX8_define_129 (by decide) ?_
                      refine lv_icmp_ge (tgt := 175) hx hb dX8_define_131 (by decide) (fun h131 => ?_) (fun h131 => ?_)
                      · skip
                        have hje : j = 32 := by have := ge_of (a := 32) (b := j) (by omega) (by omega) h131; omega
                        rw [hje] at hinv
                        refine lv_aload_n hx hb dX8_define_175 rfl (lv_at hl 0 rfl) ?_
                        refine g_X8_there Cx hG hH q_fl_X8_73 dX8_define_176 ?_
                        refine lv_iload hx hb dX8_define_179 (lv_at hl 4 rfl) ?_
                        refine lv_iconst (v := 1) hx hb dX8_define_181 (by decide) ?_
                        refine mv_zas Cx hG hO hH hS isM_30 (4 + i) (Or.inr rfl) (rfl) (by omega) dX8_define_182 (fun H locs hH hS => ?_)
                        refine lv_aload_n hx hb dX8_define_183 rfl (lv_at hl 0 rfl) ?_
                        refine g_X8_kind Cx hG hH q_fl_X8_88 dX8_define_184 ?_
                        refine lv_iload hx hb dX8_define_187 (lv_at hl 4 rfl) ?_
                        refine lv_iload_n hx hb dX8_define_189 rfl (lv_at hl 1 rfl) ?_
                        refine mv_ias Cx hG hO hH hS isM_35 (4 + i) (rfl) (by omega) dX8_define_190 (fun H locs hH hS => ?_)
                        refine lv_aload_n hx hb dX8_define_191 rfl (lv_at hl 0 rfl) ?_
                        refine g_X8_size Cx hG hH q_fl_X8_85 dX8_define_192 ?_
                        refine lv_iload hx hb dX8_define_195 (lv_at hl 4 rfl) ?_
                        refine lv_iload_n hx hb dX8_define_197 rfl (lv_at hl 1 rfl) ?_
                        refine lv_if_ne (tgt := 205) hx hb dX8_define_198 (by decide) (fun h198 => ?_) (fun h198 => ?_)
                        · skip
                          refine lv_iload_n hx hb dX8_define_205 rfl (lv_at hl 1 rfl) ?_
                          refine lv_iconst (v := 1) hx hb dX8_define_206 (by decide) ?_
                          refine lv_icmp_ne (tgt := 215) hx hb dX8_define_207 (by decide) (fun h207 => ?_) (fun h207 => ?_)
                          · skip
                            refine lv_bipush (v := 32) hx hb dX8_define_215 (by decide) ?_
                            refine mv_ias Cx hG hO hH hS isM_34 (4 + i) (rfl) (by omega) dX8_define_217 (fun H locs hH hS => ?_)
                            refine lv_aload_n hx hb dX8_define_218 rfl (lv_at hl 0 rfl) ?_
                            refine g_X8_written Cx hG hH q_fl_X8_91 dX8_define_219 ?_
                            refine lv_iload hx hb dX8_define_222 (lv_at hl 4 rfl) ?_
                            refine lv_iconst (v := 0) hx hb dX8_define_224 (by decide) ?_
                            refine mv_zas Cx hG hO hH hS isM_36 (4 + i) (Or.inl rfl) (rfl) (by omega) dX8_define_225 (fun H locs hH hS => ?_)
                            refine lv_aload_n hx hb dX8_define_226 rfl (lv_at hl 0 rfl) ?_
                            refine g_X8_isShut Cx hG hH q_fl_X8_94 dX8_define_227 ?_
                            refine lv_iload hx hb dX8_define_230 (lv_at hl 4 rfl) ?_
                            refine lv_iconst (v := 0) hx hb dX8_define_232 (by decide) ?_
                            refine mv_zas Cx hG hO hH hS isM_37 (4 + i) (Or.inl rfl) (rfl) (by omega) dX8_define_233 (fun H locs hH hS => ?_)
                            refine lv_iconst (v := 0) hx hb dX8_define_234 (by decide) ?_
                            refine mv_eqi (x' := nI 0) (rfl) ?_
                            refine lv_istore (lv' := [(8, .int (nI 0)), (0, .ref (mAdM E 0 0)), (2, .int kd), (3, .int sz), (4, .int z), (7, .int (nI (4 + i)))]) hx hb dX8_define_235 hl (by decide) rfl (fun ls hl => ?_)
                            have lp2 : ∀ (fu u : Nat) (S2 : mSt) (H : Heap) (locs : List Loc) (ls : Array Slot) , 128 - u < fu → u ≤ 128 → ((∀ q, q < u → S2.2.1 33 0 (128 * (4 + i) + q) = (0 : Int32).toInt8) ∧ nSame (fun k q => k = 33 ∧ 128 * (4 + i) ≤ q ∧ q < 128 * (4 + i) + 128) (mM (mM (mM (mM (mM S1 30 0 (4 + i) 1) 35 0 (4 + i) kd) 34 0 (4 + i) 32) 36 0 (4 + i) 0) 37 0 (4 + i) 0) S2) → mHold mLM E S2 H → va_S A s.heap H locs → lv_has ls 9 [(0, .ref (mAdM E 0 0)), (7, .int (nI (4 + i))), (8, .int (nI u))] → W p l e (headSpec (Cond.code yX8_define cX8_define 9 (some .int) :: mv_ws) (mRm 3 90)).room s m ([.ref (mAdM E 0 0), .int x, .int kd, .int sz, .int z] : List Value).toArray below meth c H locs 0 0 (MQ below (mQ mLM E A (fun S' => (¬ dfOk (mM S 0 0 1 0) x kd sz z → S' = (mM S 0 0 1 0)) ∧ (dfOk (mM S 0 0 1 0) x kd sz z → ∀ i, i < 8 → x = nI i → (¬ (mM S 0 0 1 0).1 30 0 (4 + i) = 0 → S' = (mM S 0 0 1 0)) ∧ ((mM S 0 0 1 0).1 30 0 (4 + i) = 0 → ((mkR (mM S 0 0 1 0) (S.2.1 15 0) 0) = 0 → (∀ j, j < 32 → S'.2.1 31 0 (32 * (4 + i) + j) = shaL ts j) ∧ (∀ j, j < 32 → S'.2.1 32 0 (32 * (4 + i) + j) = mpF S z j) ∧ S'.1 30 0 (4 + i) = 1 ∧ S'.1 35 0 (4 + i) = kd ∧ S'.1 34 0 (4 + i) = (if kd = 0 then sz else if kd = 1 then 8 else 32) ∧ S'.1 36 0 (4 + i) = 0 ∧ S'.1 37 0 (4 + i) = 0 ∧ (∀ q, q < 128 → S'.2.1 33 0 (128 * (4 + i) + q) = (0 : Int32).toInt8) ∧ nSame (dfX i) (mM S 0 0 1 0) S') ∧ (¬ (mkR (mM S 0 0 1 0) (S.2.1 15 0) 0) = 0 → S' = mkS (mM S 0 0 1 0) (S.2.1 15 0) 0)))) (some (.int (if dfOk (mM S 0 0 1 0) x kd sz z then (if (mM S 0 0 1 0).1 30 0 (4 + x.toNatClampNeg) = 0 then (mkR (mM S 0 0 1 0) (S.2.1 15 0) 0) else -2) else -1)))) ([.ref (mAdM E 0 0), .int x, .int kd, .int sz, .int z] : List Value).toArray s 0 0 A) (F0 m 237 ls []) := by
                              intro fu
                              induction fu with
                              | zero => intro u S2 H locs ls  hn2 hu hin2 hH hS hl; omega
                              | succ fu ih2 =>
                                intro u S2 H locs ls  hn2 hu hin2 hH hS hl
                                refine lv_iload hx hb dX8_define_237 (lv_at hl 2 rfl) ?_
                                refine lv_sipush (v := 128) hx hb dX8_define_239 (by decide) ?_
                                refine lv_icmp_ge (tgt := 266) hx hb dX8_define_242 (by decide) (fun h242 => ?_) (fun h242 => ?_)
                                · skip
                                  have hue : u = 128 := by have := ge_of (a := 128) (b := u) (by omega) (by omega) h242; omega
                                  rw [hue] at hin2
                                  refine lv_iconst (v := 0) hx hb dX8_define_266 (by decide) ?_
                                  exact mv_reti Cx hr hH hS (by rw [if_pos hok, hxi, nI_clamp (by omega), if_pos h70]; exact h0.symm) (⟨fun q => absurd hok q, fun _ i' hi' ei => by (obtain rfl : i = i' := (nI_eq (by omega) (by omega)).mp (hxi.symm.trans ei)); exact ⟨fun q => absurd h70 q, fun _ => ⟨fun _ => ⟨fun j hj => (hin2.2 31 _ (by omega)).2.1.trans ((hinv.2 31 _ (by omega)).2.1.trans (hP121.1 j hj)), fun j hj => (hin2.2 32 _ (by omega)).2.1.trans (hinv.1 j hj), (hin2.2 30 (4 + i) (by omega)).1.trans (by simp [mM, m3]), (hin2.2 35 (4 + i) (by omega)).1.trans (by simp [mM, m3]), (hin2.2 34 (4 + i) (by omega)).1.trans ((show (mM (mM (mM (mM (mM S1 30 0 (4 + i) 1) 35 0 (4 + i) kd) 34 0 (4 + i) 32) 36 0 (4 + i) 0) 37 0 (4 + i) 0).1 34 0 (4 + i) = 32 by simp [mM, m3]).trans (((if_neg h198).trans (if_neg h207)).symm)), (hin2.2 36 (4 + i) (by omega)).1.trans (by simp [mM, m3]), (hin2.2 37 (4 + i) (by omega)).1.trans (by simp [mM, m3]), hin2.1, ((((((hs121.tr (hinv.2.wk (fun k j h => by simp only [dfX, scM, nX, hX] at h ⊢; omega))).tr (nSame.M (by simp [dfX]))).tr (nSame.M (by simp [dfX]))).tr (nSame.M (by simp [dfX]))).tr (nSame.M (by simp [dfX]))).tr (nSame.M (by simp [dfX]))).tr (hin2.2.wk (fun k j h => by simp only [dfX, scM, nX, hX] at h ⊢; omega))⟩, fun q => absurd h0 q⟩⟩⟩) dX8_define_267 hlocks
                                · skip
                                  have hue : u < 128 := by have := lt_of (a := 128) (b := u) (by omega) (by omega) h242; omega
                                  refine lv_aload_n hx hb dX8_define_245 rfl (lv_at hl 0 rfl) ?_
                                  refine g_X8_data Cx hG hH q_fl_X8_82 dX8_define_246 ?_
                                  refine lv_sipush (v := 128) hx hb dX8_define_249 (by decide) ?_
                                  refine lv_iload hx hb dX8_define_252 (lv_at hl 1 rfl) ?_
                                  refine lv_imul hx hb dX8_define_254 ?_
                                  refine mv_eqi (x' := nI (128 * (4 + i))) (pk_mul 128 (4 + i)) ?_
                                  refine lv_iload hx hb dX8_define_255 (lv_at hl 2 rfl) ?_
                                  refine lv_iadd hx hb dX8_define_257 ?_
                                  refine mv_eqi (x' := nI (128 * (4 + i) + u)) (nI_add _ _) ?_
                                  refine lv_iconst (v := 0) hx hb dX8_define_258 (by decide) ?_
                                  refine mv_bas Cx hG hO hH hS isM_33 (128 * (4 + i) + u) (rfl) (by omega) dX8_define_259 (fun H locs hH hS => ?_)
                                  refine lv_iinc (v := nI (u + 1)) (lv' := [(8, .int (nI (u + 1))), (0, .ref (mAdM E 0 0)), (7, .int (nI (4 + i)))]) hx hb dX8_define_260 hl (k := 2) rfl (i2_1 u) (by decide) rfl (fun ls hl => ?_)
                                  refine lv_goto (tgt := 237) hx hb dX8_define_263 (by decide) ?_
                                  exact ih2 (u + 1) (mB S2 33 0 (128 * (4 + i) + u) (0 : Int32).toInt8) _ _ ls  (by omega) (by omega) (⟨fun q hq => by by_cases e : q = u; (subst e; exact m3_s _ _ _ _ _); (exact (show m3 S2.2.1 33 0 (128 * (4 + i) + u) _ 33 0 (128 * (4 + i) + q) = _ from m3_n _ _ (by omega)).trans (hin2.1 q (by omega))), hin2.2.tr (nSame.B (X := (fun k q => k = 33 ∧ 128 * (4 + i) ≤ q ∧ q < 128 * (4 + i) + 128)) ⟨rfl, by omega, by omega⟩)⟩) hH hS (lv_sub hl [1, 2, 0] rfl)
                            exact lp2 (128 - 0 + 1) 0 (mM (mM (mM (mM (mM S1 30 0 (4 + i) 1) 35 0 (4 + i) kd) 34 0 (4 + i) 32) 36 0 (4 + i) 0) 37 0 (4 + i) 0) _ _ ls  (by omega) (by omega) (⟨fun q h => absurd h (Nat.not_lt_zero _), nSame.rf⟩) hH hS (lv_sub hl [1, 5, 0] rfl)
                          · skip
                            refine lv_bipush (v := 8) hx hb dX8_define_210 (by decide) ?_
                            refine lv_goto (tgt := 217) hx hb dX8_define_212 (by decide) ?_
                            refine mv_ias Cx hG hO hH hS isM_34 (4 + i) (rfl) (by omega) dX8_define_217 (fun H locs hH hS => ?_)
                            refine lv_aload_n hx hb dX8_define_218 rfl (lv_at hl 0 rfl) ?_
                            refine g_X8_written Cx hG hH q_fl_X8_91 dX8_define_219 ?_
                            refine lv_iload hx hb dX8_define_222 (lv_at hl 4 rfl) ?_
                            refine lv_iconst (v := 0) hx hb dX8_define_224 (by decide) ?_
                            refine mv_zas Cx hG hO hH hS isM_36 (4 + i) (Or.inl rfl) (rfl) (by omega) dX8_define_225 (fun H locs hH hS => ?_)
                            refine lv_aload_n hx hb dX8_define_226 rfl (lv_at hl 0 rfl) ?_
                            refine g_X8_isShut Cx hG hH q_fl_X8_94 dX8_define_227 ?_
                            refine lv_iload hx hb dX8_define_230 (lv_at hl 4 rfl) ?_
                            refine lv_iconst (v := 0) hx hb dX8_define_232 (by decide) ?_
                            refine mv_zas Cx hG hO hH hS isM_37 (4 + i) (Or.inl rfl) (rfl) (by omega) dX8_define_233 (fun H locs hH hS => ?_)
                            refine lv_iconst (v := 0) hx hb dX8_define_234 (by decide) ?_
                            refine mv_eqi (x' := nI 0) (rfl) ?_
                            refine lv_istore (lv' := [(8, .int (nI 0)), (0, .ref (mAdM E 0 0)), (2, .int kd), (3, .int sz), (4, .int z), (7, .int (nI (4 + i)))]) hx hb dX8_define_235 hl (by decide) rfl (fun ls hl => ?_)
                            have lp2 : ∀ (fu u : Nat) (S2 : mSt) (H : Heap) (locs : List Loc) (ls : Array Slot) , 128 - u < fu → u ≤ 128 → ((∀ q, q < u → S2.2.1 33 0 (128 * (4 + i) + q) = (0 : Int32).toInt8) ∧ nSame (fun k q => k = 33 ∧ 128 * (4 + i) ≤ q ∧ q < 128 * (4 + i) + 128) (mM (mM (mM (mM (mM S1 30 0 (4 + i) 1) 35 0 (4 + i) kd) 34 0 (4 + i) 8) 36 0 (4 + i) 0) 37 0 (4 + i) 0) S2) → mHold mLM E S2 H → va_S A s.heap H locs → lv_has ls 9 [(0, .ref (mAdM E 0 0)), (7, .int (nI (4 + i))), (8, .int (nI u))] → W p l e (headSpec (Cond.code yX8_define cX8_define 9 (some .int) :: mv_ws) (mRm 3 90)).room s m ([.ref (mAdM E 0 0), .int x, .int kd, .int sz, .int z] : List Value).toArray below meth c H locs 0 0 (MQ below (mQ mLM E A (fun S' => (¬ dfOk (mM S 0 0 1 0) x kd sz z → S' = (mM S 0 0 1 0)) ∧ (dfOk (mM S 0 0 1 0) x kd sz z → ∀ i, i < 8 → x = nI i → (¬ (mM S 0 0 1 0).1 30 0 (4 + i) = 0 → S' = (mM S 0 0 1 0)) ∧ ((mM S 0 0 1 0).1 30 0 (4 + i) = 0 → ((mkR (mM S 0 0 1 0) (S.2.1 15 0) 0) = 0 → (∀ j, j < 32 → S'.2.1 31 0 (32 * (4 + i) + j) = shaL ts j) ∧ (∀ j, j < 32 → S'.2.1 32 0 (32 * (4 + i) + j) = mpF S z j) ∧ S'.1 30 0 (4 + i) = 1 ∧ S'.1 35 0 (4 + i) = kd ∧ S'.1 34 0 (4 + i) = (if kd = 0 then sz else if kd = 1 then 8 else 32) ∧ S'.1 36 0 (4 + i) = 0 ∧ S'.1 37 0 (4 + i) = 0 ∧ (∀ q, q < 128 → S'.2.1 33 0 (128 * (4 + i) + q) = (0 : Int32).toInt8) ∧ nSame (dfX i) (mM S 0 0 1 0) S') ∧ (¬ (mkR (mM S 0 0 1 0) (S.2.1 15 0) 0) = 0 → S' = mkS (mM S 0 0 1 0) (S.2.1 15 0) 0)))) (some (.int (if dfOk (mM S 0 0 1 0) x kd sz z then (if (mM S 0 0 1 0).1 30 0 (4 + x.toNatClampNeg) = 0 then (mkR (mM S 0 0 1 0) (S.2.1 15 0) 0) else -2) else -1)))) ([.ref (mAdM E 0 0), .int x, .int kd, .int sz, .int z] : List Value).toArray s 0 0 A) (F0 m 237 ls []) := by
                              intro fu
                              induction fu with
                              | zero => intro u S2 H locs ls  hn2 hu hin2 hH hS hl; omega
                              | succ fu ih2 =>
                                intro u S2 H locs ls  hn2 hu hin2 hH hS hl
                                refine lv_iload hx hb dX8_define_237 (lv_at hl 2 rfl) ?_
                                refine lv_sipush (v := 128) hx hb dX8_define_239 (by decide) ?_
                                refine lv_icmp_ge (tgt := 266) hx hb dX8_define_242 (by decide) (fun h242 => ?_) (fun h242 => ?_)
                                · skip
                                  have hue : u = 128 := by have := ge_of (a := 128) (b := u) (by omega) (by omega) h242; omega
                                  rw [hue] at hin2
                                  refine lv_iconst (v := 0) hx hb dX8_define_266 (by decide) ?_
                                  exact mv_reti Cx hr hH hS (by rw [if_pos hok, hxi, nI_clamp (by omega), if_pos h70]; exact h0.symm) (⟨fun q => absurd hok q, fun _ i' hi' ei => by (obtain rfl : i = i' := (nI_eq (by omega) (by omega)).mp (hxi.symm.trans ei)); exact ⟨fun q => absurd h70 q, fun _ => ⟨fun _ => ⟨fun j hj => (hin2.2 31 _ (by omega)).2.1.trans ((hinv.2 31 _ (by omega)).2.1.trans (hP121.1 j hj)), fun j hj => (hin2.2 32 _ (by omega)).2.1.trans (hinv.1 j hj), (hin2.2 30 (4 + i) (by omega)).1.trans (by simp [mM, m3]), (hin2.2 35 (4 + i) (by omega)).1.trans (by simp [mM, m3]), (hin2.2 34 (4 + i) (by omega)).1.trans ((show (mM (mM (mM (mM (mM S1 30 0 (4 + i) 1) 35 0 (4 + i) kd) 34 0 (4 + i) 8) 36 0 (4 + i) 0) 37 0 (4 + i) 0).1 34 0 (4 + i) = 8 by simp [mM, m3]).trans (((if_neg h198).trans (if_pos h207)).symm)), (hin2.2 36 (4 + i) (by omega)).1.trans (by simp [mM, m3]), (hin2.2 37 (4 + i) (by omega)).1.trans (by simp [mM, m3]), hin2.1, ((((((hs121.tr (hinv.2.wk (fun k j h => by simp only [dfX, scM, nX, hX] at h ⊢; omega))).tr (nSame.M (by simp [dfX]))).tr (nSame.M (by simp [dfX]))).tr (nSame.M (by simp [dfX]))).tr (nSame.M (by simp [dfX]))).tr (nSame.M (by simp [dfX]))).tr (hin2.2.wk (fun k j h => by simp only [dfX, scM, nX, hX] at h ⊢; omega))⟩, fun q => absurd h0 q⟩⟩⟩) dX8_define_267 hlocks
                                · skip
                                  have hue : u < 128 := by have := lt_of (a := 128) (b := u) (by omega) (by omega) h242; omega
                                  refine lv_aload_n hx hb dX8_define_245 rfl (lv_at hl 0 rfl) ?_
                                  refine g_X8_data Cx hG hH q_fl_X8_82 dX8_define_246 ?_
                                  refine lv_sipush (v := 128) hx hb dX8_define_249 (by decide) ?_
                                  refine lv_iload hx hb dX8_define_252 (lv_at hl 1 rfl) ?_
                                  refine lv_imul hx hb dX8_define_254 ?_
                                  refine mv_eqi (x' := nI (128 * (4 + i))) (pk_mul 128 (4 + i)) ?_
                                  refine lv_iload hx hb dX8_define_255 (lv_at hl 2 rfl) ?_
                                  refine lv_iadd hx hb dX8_define_257 ?_
                                  refine mv_eqi (x' := nI (128 * (4 + i) + u)) (nI_add _ _) ?_
                                  refine lv_iconst (v := 0) hx hb dX8_define_258 (by decide) ?_
                                  refine mv_bas Cx hG hO hH hS isM_33 (128 * (4 + i) + u) (rfl) (by omega) dX8_define_259 (fun H locs hH hS => ?_)
                                  refine lv_iinc (v := nI (u + 1)) (lv' := [(8, .int (nI (u + 1))), (0, .ref (mAdM E 0 0)), (7, .int (nI (4 + i)))]) hx hb dX8_define_260 hl (k := 2) rfl (i2_1 u) (by decide) rfl (fun ls hl => ?_)
                                  refine lv_goto (tgt := 237) hx hb dX8_define_263 (by decide) ?_
                                  exact ih2 (u + 1) (mB S2 33 0 (128 * (4 + i) + u) (0 : Int32).toInt8) _ _ ls  (by omega) (by omega) (⟨fun q hq => by by_cases e : q = u; (subst e; exact m3_s _ _ _ _ _); (exact (show m3 S2.2.1 33 0 (128 * (4 + i) + u) _ 33 0 (128 * (4 + i) + q) = _ from m3_n _ _ (by omega)).trans (hin2.1 q (by omega))), hin2.2.tr (nSame.B (X := (fun k q => k = 33 ∧ 128 * (4 + i) ≤ q ∧ q < 128 * (4 + i) + 128)) ⟨rfl, by omega, by omega⟩)⟩) hH hS (lv_sub hl [1, 2, 0] rfl)
                            exact lp2 (128 - 0 + 1) 0 (mM (mM (mM (mM (mM S1 30 0 (4 + i) 1) 35 0 (4 + i) kd) 34 0 (4 + i) 8) 36 0 (4 + i) 0) 37 0 (4 + i) 0) _ _ ls  (by omega) (by omega) (⟨fun q h => absurd h (Nat.not_lt_zero _), nSame.rf⟩) hH hS (lv_sub hl [1, 5, 0] rfl)
                        · skip
                          exact absurd h198 h46
                      · skip
                        have hje : j < 32 := by have := lt_of (a := 32) (b := j) (by omega) (by omega) h131; omega
                        refine lv_aload_n hx hb dX8_define_134 rfl (lv_at hl 0 rfl) ?_
                        refine g_X8_policy Cx hG hH q_fl_X8_79 dX8_define_135 ?_
                        refine lv_bipush (v := 32) hx hb dX8_define_138 (by decide) ?_
                        refine lv_iload hx hb dX8_define_140 (lv_at hl 4 rfl) ?_
                        refine lv_imul hx hb dX8_define_142 ?_
                        refine mv_eqi (x' := nI (32 * (4 + i))) (pk_mul 32 (4 + i)) ?_
                        refine lv_iload hx hb dX8_define_143 (lv_at hl 5 rfl) ?_
                        refine lv_iadd hx hb dX8_define_145 ?_
                        refine mv_eqi (x' := nI (32 * (4 + i) + j)) (nI_add _ _) ?_
                        refine lv_iload hx hb dX8_define_146 (lv_at hl 3 rfl) ?_
                        refine lv_if_ge (tgt := 155) hx hb dX8_define_148 (by decide) (fun h148 => ?_) (fun h148 => ?_)
                        · skip
                          exact absurd h148 (by rw [h33]; decide)
                        · skip
                          refine lv_iconst (v := 0) hx hb dX8_define_151 (by decide) ?_
                          refine lv_goto (tgt := 168) hx hb dX8_define_152 (by decide) ?_
                          refine mv_bas Cx hG hO hH hS isM_32 (32 * (4 + i) + j) (rfl) (by omega) dX8_define_168 (fun H locs hH hS => ?_)
                          refine lv_iinc (v := nI (j + 1)) (lv' := [(8, .int (nI (j + 1))), (0, .ref (mAdM E 0 0)), (2, .int kd), (3, .int sz), (4, .int z), (7, .int (nI (4 + i)))]) hx hb dX8_define_169 hl (k := 5) rfl (i2_1 j) (by decide) rfl (fun ls hl => ?_)
                          refine lv_goto (tgt := 127) hx hb dX8_define_172 (by decide) ?_
                          exact ih (j + 1) (mB S1 32 0 (32 * (4 + i) + j) (0 : Int32).toInt8) _ _ ls  (by omega) (by omega) (⟨fun q hq => by by_cases e : q = j; (subst e; exact (m3_s _ _ _ _ _).trans (hzp q).symm); (exact (show m3 S1.2.1 32 0 (32 * (4 + i) + j) _ 32 0 (32 * (4 + i) + q) = _ from m3_n _ _ (by omega)).trans (hinv.1 q (by omega))), hinv.2.tr (nSame.B (X := (fun k q => k = 32 ∧ 32 * (4 + i) ≤ q ∧ q < 32 * (4 + i) + 32)) ⟨rfl, by omega, by omega⟩)⟩) hH hS (lv_sub hl [1, 2, 3, 4, 5, 0] rfl)
                  exact lp (32 - 0 + 1) 0 S121 _ _ ls  (by omega) (by omega) (⟨fun q h => absurd h (Nat.not_lt_zero _), nSame.rf⟩) hH hS (lv_sub hl [4, 6, 7, 8, 1, 0] rfl)
                · skip
                  have h0 := mkR_ne h84
                  refine lv_iload hx hb dX8_define_87 (lv_at hl 0 rfl) ?_
                  exact mv_reti Cx hr hH hS (by rw [if_pos hok, hxi, nI_clamp (by omega), if_pos h70]) (⟨fun q => absurd hok q, fun _ i' hi' ei => by (obtain rfl : i = i' := (nI_eq (by omega) (by omega)).mp (hxi.symm.trans ei)); exact ⟨fun q => absurd h70 q, fun _ => ⟨fun q => absurd q h0, fun _ => rfl⟩⟩⟩) dX8_define_89 hlocks
              · skip
                refine lv_bipush (v := (-2 : Int32)) hx hb dX8_define_73 (by decide) ?_
                exact mv_reti Cx hr hH hS (by rw [if_pos hok, hxi, nI_clamp (by omega), if_neg h70]) (⟨fun q => absurd hok q, fun _ i' hi' ei => by (obtain rfl : i = i' := (nI_eq (by omega) (by omega)).mp (hxi.symm.trans ei)); exact ⟨fun _ => rfl, fun q => absurd q h70⟩⟩) dX8_define_75 hlocks
            · skip
              refine lv_iload_n hx hb dX8_define_49 rfl (lv_at hl 4 rfl) ?_
              refine lv_iconst (v := 1) hx hb dX8_define_50 (by decide) ?_
              refine lv_icmp_lt (tgt := 60) hx hb dX8_define_51 (by decide) (fun h51 => ?_) (fun h51 => ?_)
              · skip
                have hok : ¬ dfOk (mM S 0 0 1 0) x kd sz z := fun q => (q.2.2.2.2.2 h46).1 h51
                refine lv_iconst (v := (-1 : Int32)) hx hb dX8_define_60 (by decide) ?_
                exact mv_reti Cx hr hH hS ((if_neg hok).symm) (⟨fun _ => rfl, fun q => absurd q hok⟩) dX8_define_61 hlocks
              · skip
                refine lv_iload_n hx hb dX8_define_54 rfl (lv_at hl 4 rfl) ?_
                refine lv_bipush (v := 64) hx hb dX8_define_55 (by decide) ?_
                refine lv_icmp_le (tgt := 62) hx hb dX8_define_57 (by decide) (fun h57 => ?_) (fun h57 => ?_)
                · skip
                  have hok : dfOk (mM S 0 0 1 0) x kd sz z := ⟨h12, h18, h22, h27, Or.inl h33, fun _ => ⟨h51, h57⟩⟩
                  obtain ⟨i, hi, hxi⟩ := ix_of (n := 8) (by decide) h12 (fun q => h18 (lt_of_nI8 q))
                  have hl : lv_has ls 9 [(5, .int (nI ts.length)), (0, .ref (mAdM E 0 0)), (1, .int (nI i)), (2, .int kd), (3, .int sz), (4, .int z)] := by rw [← hxi]; exact hl
                  have hzp : ∀ q, mpF S z q = (0 : Int32).toInt8 := fun q => by rw [h33]; exact mpF_m
                  refine lv_aload_n hx hb dX8_define_62 rfl (lv_at hl 1 rfl) ?_
                  refine g_X8_there Cx hG hH q_fl_X8_73 dX8_define_63 ?_
                  refine lv_iconst (v := 4) hx hb dX8_define_66 (by decide) ?_
                  refine lv_iload_n hx hb dX8_define_67 rfl (lv_at hl 2 rfl) ?_
                  refine lv_iadd hx hb dX8_define_68 ?_
                  refine mv_eqi (x' := nI (4 + i)) (nI_add 4 i) ?_
                  refine mv_zal Cx hG hH isM_30 (4 + i) (rfl) (by omega) dX8_define_69 ?_
                  refine lv_if_eq (tgt := 76) hx hb dX8_define_70 (by decide) (fun h70 => ?_) (fun h70 => ?_)
                  · skip
                    refine lv_aload_n hx hb dX8_define_76 rfl (lv_at hl 1 rfl) ?_
                    refine mv_callV (Y := mLM) (C := RX8) (k := 0) (i := 0) (rest := []) Cx hG hH hS (c_X8_owners l E A hO (mM S 0 0 1 0)) q_co_X8_owners q_ml_X8_225 q_im_X8_owners q_se_X8_owners q_in_X8 okM_0 rfl rfl hd_X8_owners ⟨Nat.le_of_ble_eq_true rfl, Nat.le_of_ble_eq_true rfl⟩ rfl hl.1 rfl (Nat.le_of_ble_eq_true rfl) ⟨Nat.le_of_ble_eq_true rfl, Nat.le_of_ble_eq_true rfl⟩ dX8_define_77 (fun S77 H locs hP77 hH hS => ?_)
                    refine W.eq (g2 := F0 m 80 ls [.int (mkR (mM S 0 0 1 0) (S.2.1 15 0) 0)]) rfl ?_
                    have hH := mv_S hP77 hH
                    refine lv_istore (lv' := [(6, .int (mkR (mM S 0 0 1 0) (S.2.1 15 0) 0)), (5, .int (nI ts.length)), (0, .ref (mAdM E 0 0)), (1, .int (nI i)), (2, .int kd), (3, .int sz), (4, .int z)]) hx hb dX8_define_80 hl (by decide) rfl (fun ls hl => ?_)
                    refine lv_iload hx hb dX8_define_82 (lv_at hl 0 rfl) ?_
                    refine lv_if_ge (tgt := 90) hx hb dX8_define_84 (by decide) (fun h84 => ?_) (fun h84 => ?_)
                    · skip
                      have h0 := mkR_ge h84
                      have hH := mv_S (mkS_0 h0) hH
                      refine lv_iconst (v := 4) hx hb dX8_define_90 (by decide) ?_
                      refine lv_iload_n hx hb dX8_define_91 rfl (lv_at hl 3 rfl) ?_
                      refine lv_iadd hx hb dX8_define_92 ?_
                      refine mv_eqi (x' := nI (4 + i)) (nI_add 4 i) ?_
                      refine lv_istore (lv' := [(7, .int (nI (4 + i))), (6, .int (mkR (mM S 0 0 1 0) (S.2.1 15 0) 0)), (5, .int (nI ts.length)), (0, .ref (mAdM E 0 0)), (1, .int (nI i)), (2, .int kd), (3, .int sz), (4, .int z)]) hx hb dX8_define_93 hl (by decide) rfl (fun ls hl => ?_)
                      refine lv_aload_n hx hb dX8_define_95 rfl (lv_at hl 3 rfl) ?_
                      refine lv_iconst (v := 0) hx hb dX8_define_96 (by decide) ?_
                      refine p_X8_rowCount Cx hG hO hH hS q_fl_X8_100 dX8_define_97 (fun H locs hH hS => ?_)
                      refine lv_aload_n hx hb dX8_define_100 rfl (lv_at hl 3 rfl) ?_
                      refine lv_aload_n hx hb dX8_define_101 rfl (lv_at hl 3 rfl) ?_
                      refine g_X8_tape Cx hG hH q_fl_X8_9 dX8_define_102 ?_
                      refine lv_iconst (v := 0) hx hb dX8_define_105 (by decide) ?_
                      refine mv_eqi (x' := nI 0) (rfl) ?_
                      refine lv_iload hx hb dX8_define_106 (lv_at hl 2 rfl) ?_
                      refine mv_callV (Y := mLM) (C := RX8) (k := 0) (i := 0) (rest := []) Cx hG hH hS (c_X8_add_ l E A hO (mM (mM S 0 0 1 0) 0 0 5 0) 1 400 isM_1 (by decide) 0 ts.length (by omega) [] nHas.nil (by simp; omega)) q_co_X8_add_ q_ml_X8_134 q_im_X8_add_ q_se_X8_add_ q_in_X8 okM_0 rfl rfl hd_X8_add_ ⟨Nat.le_of_ble_eq_true rfl, Nat.le_of_ble_eq_true rfl⟩ rfl hl.1 rfl (Nat.le_of_ble_eq_true rfl) ⟨Nat.le_of_ble_eq_true rfl, Nat.le_of_ble_eq_true rfl⟩ dX8_define_108 (fun S108 H locs hP108 hH hS => ?_)
                      refine W.eq (g2 := F0 m 111 ls []) rfl ?_
                      have hr5 : nHas 5 1024 S108 ts := by have h := hP108.1; rw [List.nil_append] at h; rwa [show mTk (fun q => (mM (mM S 0 0 1 0) 0 0 5 0).2.1 1 0 (0 + q)) ts.length = ts from hts.list] at h
                      refine lv_aload_n hx hb dX8_define_111 rfl (lv_at hl 3 rfl) ?_
                      refine lv_aload_n hx hb dX8_define_112 rfl (lv_at hl 3 rfl) ?_
                      refine g_X8_auth Cx hG hH q_fl_X8_76 dX8_define_113 ?_
                      refine lv_bipush (v := 32) hx hb dX8_define_116 (by decide) ?_
                      refine lv_iload hx hb dX8_define_118 (lv_at hl 0 rfl) ?_
                      refine lv_imul hx hb dX8_define_120 ?_
                      refine mv_eqi (x' := nI (32 * (4 + i))) (pk_mul 32 (4 + i)) ?_
                      refine mv_callV (Y := mLM) (C := RX8) (k := 0) (i := 0) (rest := []) Cx hG hH hS (c_X8_hashTo l E A hO S108 31 384 isM_31 (by decide) (32 * (4 + i)) (by omega) ts hr5 (by omega)) q_co_X8_hashTo q_ml_X8_111 q_im_X8_hashTo q_se_X8_hashTo q_in_X8 okM_0 rfl rfl hd_X8_hashTo ⟨Nat.le_of_ble_eq_true rfl, Nat.le_of_ble_eq_true rfl⟩ rfl hl.1 rfl (Nat.le_of_ble_eq_true rfl) ⟨Nat.le_of_ble_eq_true rfl, Nat.le_of_ble_eq_true rfl⟩ dX8_define_121 (fun S121 H locs hP121 hH hS => ?_)
                      refine W.eq (g2 := F0 m 124 ls []) rfl ?_
                      have hs121 : nSame (dfX i) (mM S 0 0 1 0) S121 := ((nSame.M (by simp [dfX, scM, nX])).tr (hP108.2.wk (fun k j h => by simp only [dfX, scM, nX, hX] at h ⊢; omega))).tr (hP121.2.wk (fun k j h => by simp only [dfX, scM, nX, hX] at h ⊢; omega))
                      refine lv_iconst (v := 0) hx hb dX8_define_124 (by decide) ?_
                      refine mv_eqi (x' := nI 0) (rfl) ?_
                      refine lv_istore (lv' := [(8, .int (nI 0)), (7, .int (nI (4 + i))), (6, .int (mkR (mM S 0 0 1 0) (S.2.1 15 0) 0)), (5, .int (nI ts.length)), (0, .ref (mAdM E 0 0)), (1, .int (nI i)), (2, .int kd), (3, .int sz), (4, .int z)]) hx hb dX8_define_125 hl (by decide) rfl (fun ls hl => ?_)
                      have lp : ∀ (fu j : Nat) (S1 : mSt) (H : Heap) (locs : List Loc) (ls : Array Slot) , 32 - j < fu → j ≤ 32 → ((∀ q, q < j → S1.2.1 32 0 (32 * (4 + i) + q) = mpF S z q) ∧ nSame (fun k q => k = 32 ∧ 32 * (4 + i) ≤ q ∧ q < 32 * (4 + i) + 32) S121 S1) → mHold mLM E S1 H → va_S A s.heap H locs → lv_has ls 9 [(0, .ref (mAdM E 0 0)), (2, .int kd), (3, .int sz), (4, .int z), (7, .int (nI (4 + i))), (8, .int (nI j))] → W p l e (headSpec (Cond.code yX8_define cX8_define 9 (some .int) :: mv_ws) (mRm 3 90)).room s m ([.ref (mAdM E 0 0), .int x, .int kd, .int sz, .int z] : List Value).toArray below meth c H locs 0 0 (MQ below (mQ mLM E A (fun S' => (¬ dfOk (mM S 0 0 1 0) x kd sz z → S' = (mM S 0 0 1 0)) ∧ (dfOk (mM S 0 0 1 0) x kd sz z → ∀ i, i < 8 → x = nI i → (¬ (mM S 0 0 1 0).1 30 0 (4 + i) = 0 → S' = (mM S 0 0 1 0)) ∧ ((mM S 0 0 1 0).1 30 0 (4 + i) = 0 → ((mkR (mM S 0 0 1 0) (S.2.1 15 0) 0) = 0 → (∀ j, j < 32 → S'.2.1 31 0 (32 * (4 + i) + j) = shaL ts j) ∧ (∀ j, j < 32 → S'.2.1 32 0 (32 * (4 + i) + j) = mpF S z j) ∧ S'.1 30 0 (4 + i) = 1 ∧ S'.1 35 0 (4 + i) = kd ∧ S'.1 34 0 (4 + i) = (if kd = 0 then sz else if kd = 1 then 8 else 32) ∧ S'.1 36 0 (4 + i) = 0 ∧ S'.1 37 0 (4 + i) = 0 ∧ (∀ q, q < 128 → S'.2.1 33 0 (128 * (4 + i) + q) = (0 : Int32).toInt8) ∧ nSame (dfX i) (mM S 0 0 1 0) S') ∧ (¬ (mkR (mM S 0 0 1 0) (S.2.1 15 0) 0) = 0 → S' = mkS (mM S 0 0 1 0) (S.2.1 15 0) 0)))) (some (.int (if dfOk (mM S 0 0 1 0) x kd sz z then (if (mM S 0 0 1 0).1 30 0 (4 + x.toNatClampNeg) = 0 then (mkR (mM S 0 0 1 0) (S.2.1 15 0) 0) else -2) else -1)))) ([.ref (mAdM E 0 0), .int x, .int kd, .int sz, .int z] : List Value).toArray s 0 0 A) (F0 m 127 ls []) := by
                        intro fu
                        induction fu with
                        | zero => intro j S1 H locs ls  hn hj hinv hH hS hl; omega
                        | succ fu ih =>
                          intro j S1 H locs ls  hn hj hinv hH hS hl
                          refine lv_iload hx hb dX8_define_127 (lv_at hl 5 rfl) ?_
                          refine lv_bipush (v := 32) hx hb dX8_define_129 (by decide) ?_
                          refine lv_icmp_ge (tgt := 175) hx hb dX8_define_131 (by decide) (fun h131 => ?_) (fun h131 => ?_)
                          · skip
                            have hje : j = 32 := by have := ge_of (a := 32) (b := j) (by omega) (by omega) h131; omega
                            rw [hje] at hinv
                            refine lv_aload_n hx hb dX8_define_175 rfl (lv_at hl 0 rfl) ?_
                            refine g_X8_there Cx hG hH q_fl_X8_73 dX8_define_176 ?_
                            refine lv_iload hx hb dX8_define_179 (lv_at hl 4 rfl) ?_
                            refine lv_iconst (v := 1) hx hb dX8_define_181 (by decide) ?_
                            refine mv_zas Cx hG hO hH hS isM_30 (4 + i) (Or.inr rfl) (rfl) (by omega) dX8_define_182 (fun H locs hH hS => ?_)
                            refine lv_aload_n hx hb dX8_define_183 rfl (lv_at hl 0 rfl) ?_
                            refine g_X8_kind Cx hG hH q_fl_X8_88 dX8_define_184 ?_
                            refine lv_iload hx hb dX8_define_187 (lv_at hl 4 rfl) ?_
                            refine lv_iload_n hx hb dX8_define_189 rfl (lv_at hl 1 rfl) ?_
                            refine mv_ias Cx hG hO hH hS isM_35 (4 + i) (rfl) (by omega) dX8_define_190 (fun H locs hH hS => ?_)
                            refine lv_aload_n hx hb dX8_define_191 rfl (lv_at hl 0 rfl) ?_
                            refine g_X8_size Cx hG hH q_fl_X8_85 dX8_define_192 ?_
                            refine lv_iload hx hb dX8_define_195 (lv_at hl 4 rfl) ?_
                            refine lv_iload_n hx hb dX8_define_197 rfl (lv_at hl 1 rfl) ?_
                            refine lv_if_ne (tgt := 205) hx hb dX8_define_198 (by decide) (fun h198 => ?_) (fun h198 => ?_)
                            · skip
                              exact absurd h46 h198
                            · skip
                              refine lv_iload_n hx hb dX8_define_201 rfl (lv_at hl 2 rfl) ?_
                              refine lv_goto (tgt := 217) hx hb dX8_define_202 (by decide) ?_
                              refine mv_ias Cx hG hO hH hS isM_34 (4 + i) (rfl) (by omega) dX8_define_217 (fun H locs hH hS => ?_)
                              refine lv_aload_n hx hb dX8_define_218 rfl (lv_at hl 0 rfl) ?_
                              refine g_X8_written Cx hG hH q_fl_X8_91 dX8_define_219 ?_
                              refine lv_iload hx hb dX8_define_222 (lv_at hl 4 rfl) ?_
                              refine lv_iconst (v := 0) hx hb dX8_define_224 (by decide) ?_
                              refine mv_zas Cx hG hO hH hS isM_36 (4 + i) (Or.inl rfl) (rfl) (by omega) dX8_define_225 (fun H locs hH hS => ?_)
                              refine lv_aload_n hx hb dX8_define_226 rfl (lv_at hl 0 rfl) ?_
                              refine g_X8_isShut Cx hG hH q_fl_X8_94 dX8_define_227 ?_
                              refine lv_iload hx hb dX8_define_230 (lv_at hl 4 rfl) ?_
                              refine lv_iconst (v := 0) hx hb dX8_define_232 (by decide) ?_
                              refine mv_zas Cx hG hO hH hS isM_37 (4 + i) (Or.inl rfl) (rfl) (by omega) dX8_define_233 (fun H locs hH hS => ?_)
                              refine lv_iconst (v := 0) hx hb dX8_define_234 (by decide) ?_
                              refine mv_eqi (x' := nI 0) (rfl) ?_
                              refine lv_istore (lv' := [(8, .int (nI 0)), (0, .ref (mAdM E 0 0)), (2, .int kd), (3, .int sz), (4, .int z), (7, .int (nI (4 + i)))]) hx hb dX8_define_235 hl (by decide) rfl (fun ls hl => ?_)
                              have lp2 : ∀ (fu u : Nat) (S2 : mSt) (H : Heap) (locs : List Loc) (ls : Array Slot) , 128 - u < fu → u ≤ 128 → ((∀ q, q < u → S2.2.1 33 0 (128 * (4 + i) + q) = (0 : Int32).toInt8) ∧ nSame (fun k q => k = 33 ∧ 128 * (4 + i) ≤ q ∧ q < 128 * (4 + i) + 128) (mM (mM (mM (mM (mM S1 30 0 (4 + i) 1) 35 0 (4 + i) kd) 34 0 (4 + i) sz) 36 0 (4 + i) 0) 37 0 (4 + i) 0) S2) → mHold mLM E S2 H → va_S A s.heap H locs → lv_has ls 9 [(0, .ref (mAdM E 0 0)), (7, .int (nI (4 + i))), (8, .int (nI u))] → W p l e (headSpec (Cond.code yX8_define cX8_define 9 (some .int) :: mv_ws) (mRm 3 90)).room s m ([.ref (mAdM E 0 0), .int x, .int kd, .int sz, .int z] : List Value).toArray below meth c H locs 0 0 (MQ below (mQ mLM E A (fun S' => (¬ dfOk (mM S 0 0 1 0) x kd sz z → S' = (mM S 0 0 1 0)) ∧ (dfOk (mM S 0 0 1 0) x kd sz z → ∀ i, i < 8 → x = nI i → (¬ (mM S 0 0 1 0).1 30 0 (4 + i) = 0 → S' = (mM S 0 0 1 0)) ∧ ((mM S 0 0 1 0).1 30 0 (4 + i) = 0 → ((mkR (mM S 0 0 1 0) (S.2.1 15 0) 0) = 0 → (∀ j, j < 32 → S'.2.1 31 0 (32 * (4 + i) + j) = shaL ts j) ∧ (∀ j, j < 32 → S'.2.1 32 0 (32 * (4 + i) + j) = mpF S z j) ∧ S'.1 30 0 (4 + i) = 1 ∧ S'.1 35 0 (4 + i) = kd ∧ S'.1 34 0 (4 + i) = (if kd = 0 then sz else if kd = 1 then 8 else 32) ∧ S'.1 36 0 (4 + i) = 0 ∧ S'.1 37 0 (4 + i) = 0 ∧ (∀ q, q < 128 → S'.2.1 33 0 (128 * (4 + i) + q) = (0 : Int32).toInt8) ∧ nSame (dfX i) (mM S 0 0 1 0) S') ∧ (¬ (mkR (mM S 0 0 1 0) (S.2.1 15 0) 0) = 0 → S' = mkS (mM S 0 0 1 0) (S.2.1 15 0) 0)))) (some (.int (if dfOk (mM S 0 0 1 0) x kd sz z then (if (mM S 0 0 1 0).1 30 0 (4 + x.toNatClampNeg) = 0 then (mkR (mM S 0 0 1 0) (S.2.1 15 0) 0) else -2) else -1)))) ([.ref (mAdM E 0 0), .int x, .int kd, .int sz, .int z] : List Value).toArray s 0 0 A) (F0 m 237 ls []) := by
                                intro fu
                                induction fu with
                                | zero => intro u S2 H locs ls  hn2 hu hin2 hH hS hl; omega
                                | succ fu ih2 =>
                                  intro u S2 H locs ls  hn2 hu hin2 hH hS hl
                                  refine lv_iload hx hb dX8_define_237 (lv_at hl 2 rfl) ?_
                                  refine lv_sipush (v := 128) hx hb dX8_define_239 (by decide) ?_
                                  refine lv_icmp_ge (tgt := 266) hx hb dX8_define_242 (by decide) (fun h242 => ?_) (fun h242 => ?_)
                                  · skip
                                    have hue : u = 128 := by have := ge_of (a := 128) (b := u) (by omega) (by omega) h242; omega
                                    rw [hue] at hin2
                                    refine lv_iconst (v := 0) hx hb dX8_define_266 (by decide) ?_
                                    exact mv_reti Cx hr hH hS (by rw [if_pos hok, hxi, nI_clamp (by omega), if_pos h70]; exact h0.symm) (⟨fun q => absurd hok q, fun _ i' hi' ei => by (obtain rfl : i = i' := (nI_eq (by omega) (by omega)).mp (hxi.symm.trans ei)); exact ⟨fun q => absurd h70 q, fun _ => ⟨fun _ => ⟨fun j hj => (hin2.2 31 _ (by omega)).2.1.trans ((hinv.2 31 _ (by omega)).2.1.trans (hP121.1 j hj)), fun j hj => (hin2.2 32 _ (by omega)).2.1.trans (hinv.1 j hj), (hin2.2 30 (4 + i) (by omega)).1.trans (by simp [mM, m3]), (hin2.2 35 (4 + i) (by omega)).1.trans (by simp [mM, m3]), (hin2.2 34 (4 + i) (by omega)).1.trans ((show (mM (mM (mM (mM (mM S1 30 0 (4 + i) 1) 35 0 (4 + i) kd) 34 0 (4 + i) sz) 36 0 (4 + i) 0) 37 0 (4 + i) 0).1 34 0 (4 + i) = sz by simp [mM, m3]).trans ((if_pos h198).symm)), (hin2.2 36 (4 + i) (by omega)).1.trans (by simp [mM, m3]), (hin2.2 37 (4 + i) (by omega)).1.trans (by simp [mM, m3]), hin2.1, ((((((hs121.tr (hinv.2.wk (fun k j h => by simp only [dfX, scM, nX, hX] at h ⊢; omega))).tr (nSame.M (by simp [dfX]))).tr (nSame.M (by simp [dfX]))).tr (nSame.M (by simp [dfX]))).tr (nSame.M (by simp [dfX]))).tr (nSame.M (by simp [dfX]))).tr (hin2.2.wk (fun k j h => by simp only [dfX, scM, nX, hX] at h ⊢; omega))⟩, fun q => absurd h0 q⟩⟩⟩) dX8_define_267 hlocks
                                  · skip
                                    have hue : u < 128 := by have := lt_of (a := 128) (b := u) (by omega) (by omega) h242; omega
                                    refine lv_aload_n hx hb dX8_define_245 rfl (lv_at hl 0 rfl) ?_
                                    refine g_X8_data Cx hG hH q_fl_X8_82 dX8_define_246 ?_
                                    refine lv_sipush (v := 128) hx hb dX8_define_249 (by decide) ?_
                                    refine lv_iload hx hb dX8_define_252 (lv_at hl 1 rfl) ?_
                                    refine lv_imul hx hb dX8_define_254 ?_
                                    refine mv_eqi (x' := nI (128 * (4 + i))) (pk_mul 128 (4 + i)) ?_
                                    refine lv_iload hx hb dX8_define_255 (lv_at hl 2 rfl) ?_
                                    refine lv_iadd hx hb dX8_define_257 ?_
                                    refine mv_eqi (x' := nI (128 * (4 + i) + u)) (nI_add _ _) ?_
                                    refine lv_iconst (v := 0) hx hb dX8_define_258 (by decide) ?_
                                    refine mv_bas Cx hG hO hH hS isM_33 (128 * (4 + i) + u) (rfl) (by omega) dX8_define_259 (fun H locs hH hS => ?_)
                                    refine lv_iinc (v := nI (u + 1)) (lv' := [(8, .int (nI (u + 1))), (0, .ref (mAdM E 0 0)), (7, .int (nI (4 + i)))]) hx hb dX8_define_260 hl (k := 2) rfl (i2_1 u) (by decide) rfl (fun ls hl => ?_)
                                    refine lv_goto (tgt := 237) hx hb dX8_define_263 (by decide) ?_
                                    exact ih2 (u + 1) (mB S2 33 0 (128 * (4 + i) + u) (0 : Int32).toInt8) _ _ ls  (by omega) (by omega) (⟨fun q hq => by by_cases e : q = u; (subst e; exact m3_s _ _ _ _ _); (exact (show m3 S2.2.1 33 0 (128 * (4 + i) + u) _ 33 0 (128 * (4 + i) + q) = _ from m3_n _ _ (by omega)).trans (hin2.1 q (by omega))), hin2.2.tr (nSame.B (X := (fun k q => k = 33 ∧ 128 * (4 + i) ≤ q ∧ q < 128 * (4 + i) + 128)) ⟨rfl, by omega, by omega⟩)⟩) hH hS (lv_sub hl [1, 2, 0] rfl)
                              exact lp2 (128 - 0 + 1) 0 (mM (mM (mM (mM (mM S1 30 0 (4 + i) 1) 35 0 (4 + i) kd) 34 0 (4 + i) sz) 36 0 (4 + i) 0) 37 0 (4 + i) 0) _ _ ls  (by omega) (by omega) (⟨fun q h => absurd h (Nat.not_lt_zero _), nSame.rf⟩) hH hS (lv_sub hl [1, 5, 0] rfl)
                          · skip
                            have hje : j < 32 := by have := lt_of (a := 32) (b := j) (by omega) (by omega) h131; omega
                            refine lv_aload_n hx hb dX8_define_134 rfl (lv_at hl 0 rfl) ?_
                            refine g_X8_policy Cx hG hH q_fl_X8_79 dX8_define_135 ?_
                            refine lv_bipush (v := 32) hx hb dX8_define_138 (by decide) ?_
                            refine lv_iload hx hb dX8_define_140 (lv_at hl 4 rfl) ?_
                            refine lv_imul hx hb dX8_define_142 ?_
                            refine mv_eqi (x' := nI (32 * (4 + i))) (pk_mul 32 (4 + i)) ?_
                            refine lv_iload hx hb dX8_define_143 (lv_at hl 5 rfl) ?_
                            refine lv_iadd hx hb dX8_define_145 ?_
                            refine mv_eqi (x' := nI (32 * (4 + i) + j)) (nI_add _ _) ?_
                            refine lv_iload hx hb dX8_define_146 (lv_at hl 3 rfl) ?_
                            refine lv_if_ge (tgt := 155) hx hb dX8_define_148 (by decide) (fun h148 => ?_) (fun h148 => ?_)
                            · skip
                              exact absurd h148 (by rw [h33]; decide)
                            · skip
                              refine lv_iconst (v := 0) hx hb dX8_define_151 (by decide) ?_
                              refine lv_goto (tgt := 168) hx hb dX8_define_152 (by decide) ?_
                              refine mv_bas Cx hG hO hH hS isM_32 (32 * (4 + i) + j) (rfl) (by omega) dX8_define_168 (fun H locs hH hS => ?_)
                              refine lv_iinc (v := nI (j + 1)) (lv' := [(8, .int (nI (j + 1))), (0, .ref (mAdM E 0 0)), (2, .int kd), (3, .int sz), (4, .int z), (7, .int (nI (4 + i)))]) hx hb dX8_define_169 hl (k := 5) rfl (i2_1 j) (by decide) rfl (fun ls hl => ?_)
                              refine lv_goto (tgt := 127) hx hb dX8_define_172 (by decide) ?_
                              exact ih (j + 1) (mB S1 32 0 (32 * (4 + i) + j) (0 : Int32).toInt8) _ _ ls  (by omega) (by omega) (⟨fun q hq => by by_cases e : q = j; (subst e; exact (m3_s _ _ _ _ _).trans (hzp q).symm); (exact (show m3 S1.2.1 32 0 (32 * (4 + i) + j) _ 32 0 (32 * (4 + i) + q) = _ from m3_n _ _ (by omega)).trans (hinv.1 q (by omega))), hinv.2.tr (nSame.B (X := (fun k q => k = 32 ∧ 32 * (4 + i) ≤ q ∧ q < 32 * (4 + i) + 32)) ⟨rfl, by omega, by omega⟩)⟩) hH hS (lv_sub hl [1, 2, 3, 4, 5, 0] rfl)
                      exact lp (32 - 0 + 1) 0 S121 _ _ ls  (by omega) (by omega) (⟨fun q h => absurd h (Nat.not_lt_zero _), nSame.rf⟩) hH hS (lv_sub hl [4, 6, 7, 8, 1, 0] rfl)
                    · skip
                      have h0 := mkR_ne h84
                      refine lv_iload hx hb dX8_define_87 (lv_at hl 0 rfl) ?_
                      exact mv_reti Cx hr hH hS (by rw [if_pos hok, hxi, nI_clamp (by omega), if_pos h70]) (⟨fun q => absurd hok q, fun _ i' hi' ei => by (obtain rfl : i = i' := (nI_eq (by omega) (by omega)).mp (hxi.symm.trans ei)); exact ⟨fun q => absurd h70 q, fun _ => ⟨fun q => absurd q h0, fun _ => rfl⟩⟩⟩) dX8_define_89 hlocks
                  · skip
                    refine lv_bipush (v := (-2 : Int32)) hx hb dX8_define_73 (by decide) ?_
                    exact mv_reti Cx hr hH hS (by rw [if_pos hok, hxi, nI_clamp (by omega), if_neg h70]) (⟨fun q => absurd hok q, fun _ i' hi' ei => by (obtain rfl : i = i' := (nI_eq (by omega) (by omega)).mp (hxi.symm.trans ei)); exact ⟨fun _ => rfl, fun q => absurd q h70⟩⟩) dX8_define_75 hlocks
                · skip
                  have hok : ¬ dfOk (mM S 0 0 1 0) x kd sz z := fun q => h57 (q.2.2.2.2.2 h46).2
                  refine lv_iconst (v := (-1 : Int32)) hx hb dX8_define_60 (by decide) ?_
                  exact mv_reti Cx hr hH hS ((if_neg hok).symm) (⟨fun _ => rfl, fun q => absurd q hok⟩) dX8_define_61 hlocks
          · skip
            refine lv_aload_n hx hb dX8_define_36 rfl (lv_at hl 1 rfl) ?_
            refine lv_iload hx hb dX8_define_37 (lv_at hl 5 rfl) ?_
            refine mv_callV (Y := mLM) (C := RX8) (k := 0) (i := 0) (rest := []) Cx hG hH hS (c_X8_opened l E A hO (mM S 0 0 1 0) z) q_co_X8_opened q_ml_X8_182 q_im_X8_opened q_se_X8_opened q_in_X8 okM_0 rfl rfl hd_X8_opened ⟨Nat.le_of_ble_eq_true rfl, Nat.le_of_ble_eq_true rfl⟩ rfl hl.1 rfl (Nat.le_of_ble_eq_true rfl) ⟨Nat.le_of_ble_eq_true rfl, Nat.le_of_ble_eq_true rfl⟩ dX8_define_39 (fun S39 H locs hP39 hH hS => ?_)
            refine W.eq (g2 := F0 m 42 ls [.int (if (msO (mM S 0 0 1 0) z).isSome = true then 1 else 0)]) rfl ?_
            have hH := mv_S hP39 hH
            refine lv_if_eq (tgt := 60) hx hb dX8_define_42 (by decide) (fun h42 => ?_) (fun h42 => ?_)
            · skip
              have hok : ¬ dfOk (mM S 0 0 1 0) x kd sz z := fun q => q.2.2.2.2.1.elim h33 (b0_of h42)
              refine lv_iconst (v := (-1 : Int32)) hx hb dX8_define_60 (by decide) ?_
              exact mv_reti Cx hr hH hS ((if_neg hok).symm) (⟨fun _ => rfl, fun q => absurd q hok⟩) dX8_define_61 hlocks
            · skip
              refine lv_iload_n hx hb dX8_define_45 rfl (lv_at hl 3 rfl) ?_
              refine lv_if_ne (tgt := 62) hx hb dX8_define_46 (by decide) (fun h46 => ?_) (fun h46 => ?_)
              · skip
                have hok : dfOk (mM S 0 0 1 0) x kd sz z := ⟨h12, h18, h22, h27, Or.inr (b1_of h42), fun e => absurd e h46⟩
                obtain ⟨i, hi, hxi⟩ := ix_of (n := 8) (by decide) h12 (fun q => h18 (lt_of_nI8 q))
                have hl : lv_has ls 9 [(5, .int (nI ts.length)), (0, .ref (mAdM E 0 0)), (1, .int (nI i)), (2, .int kd), (3, .int sz), (4, .int z)] := by rw [← hxi]; exact hl
                obtain ⟨k, hsz⟩ := Option.isSome_iff_exists.mp (b1_of h42)
                obtain ⟨hzk, hk4, hzo⟩ := opO_some (by decide) hsz
                have hzp : ∀ q, mpF S z q = S.2.1 23 0 (32 * k + q) := fun q => by rw [hzk]; exact mpF_s hk4
                have hl : lv_has ls 9 [(5, .int (nI ts.length)), (0, .ref (mAdM E 0 0)), (1, .int (nI i)), (2, .int kd), (3, .int sz), (4, .int (nI k))] := by rw [← hzk]; exact hl
                refine lv_aload_n hx hb dX8_define_62 rfl (lv_at hl 1 rfl) ?_
                refine g_X8_there Cx hG hH q_fl_X8_73 dX8_define_63 ?_
                refine lv_iconst (v := 4) hx hb dX8_define_66 (by decide) ?_
                refine lv_iload_n hx hb dX8_define_67 rfl (lv_at hl 2 rfl) ?_
                refine lv_iadd hx hb dX8_define_68 ?_
                refine mv_eqi (x' := nI (4 + i)) (nI_add 4 i) ?_
                refine mv_zal Cx hG hH isM_30 (4 + i) (rfl) (by omega) dX8_define_69 ?_
                refine lv_if_eq (tgt := 76) hx hb dX8_define_70 (by decide) (fun h70 => ?_) (fun h70 => ?_)
                · skip
                  refine lv_aload_n hx hb dX8_define_76 rfl (lv_at hl 1 rfl) ?_
                  refine mv_callV (Y := mLM) (C := RX8) (k := 0) (i := 0) (rest := []) Cx hG hH hS (c_X8_owners l E A hO (mM S 0 0 1 0)) q_co_X8_owners q_ml_X8_225 q_im_X8_owners q_se_X8_owners q_in_X8 okM_0 rfl rfl hd_X8_owners ⟨Nat.le_of_ble_eq_true rfl, Nat.le_of_ble_eq_true rfl⟩ rfl hl.1 rfl (Nat.le_of_ble_eq_true rfl) ⟨Nat.le_of_ble_eq_true rfl, Nat.le_of_ble_eq_true rfl⟩ dX8_define_77 (fun S77 H locs hP77 hH hS => ?_)
                  refine W.eq (g2 := F0 m 80 ls [.int (mkR (mM S 0 0 1 0) (S.2.1 15 0) 0)]) rfl ?_
                  have hH := mv_S hP77 hH
                  refine lv_istore (lv' := [(6, .int (mkR (mM S 0 0 1 0) (S.2.1 15 0) 0)), (5, .int (nI ts.length)), (0, .ref (mAdM E 0 0)), (1, .int (nI i)), (2, .int kd), (3, .int sz), (4, .int (nI k))]) hx hb dX8_define_80 hl (by decide) rfl (fun ls hl => ?_)
                  refine lv_iload hx hb dX8_define_82 (lv_at hl 0 rfl) ?_
                  refine lv_if_ge (tgt := 90) hx hb dX8_define_84 (by decide) (fun h84 => ?_) (fun h84 => ?_)
                  · skip
                    have h0 := mkR_ge h84
                    have hH := mv_S (mkS_0 h0) hH
                    refine lv_iconst (v := 4) hx hb dX8_define_90 (by decide) ?_
                    refine lv_iload_n hx hb dX8_define_91 rfl (lv_at hl 3 rfl) ?_
                    refine lv_iadd hx hb dX8_define_92 ?_
                    refine mv_eqi (x' := nI (4 + i)) (nI_add 4 i) ?_
                    refine lv_istore (lv' := [(7, .int (nI (4 + i))), (6, .int (mkR (mM S 0 0 1 0) (S.2.1 15 0) 0)), (5, .int (nI ts.length)), (0, .ref (mAdM E 0 0)), (1, .int (nI i)), (2, .int kd), (3, .int sz), (4, .int (nI k))]) hx hb dX8_define_93 hl (by decide) rfl (fun ls hl => ?_)
                    refine lv_aload_n hx hb dX8_define_95 rfl (lv_at hl 3 rfl) ?_
                    refine lv_iconst (v := 0) hx hb dX8_define_96 (by decide) ?_
                    refine p_X8_rowCount Cx hG hO hH hS q_fl_X8_100 dX8_define_97 (fun H locs hH hS => ?_)
                    refine lv_aload_n hx hb dX8_define_100 rfl (lv_at hl 3 rfl) ?_
                    refine lv_aload_n hx hb dX8_define_101 rfl (lv_at hl 3 rfl) ?_
                    refine g_X8_tape Cx hG hH q_fl_X8_9 dX8_define_102 ?_
                    refine lv_iconst (v := 0) hx hb dX8_define_105 (by decide) ?_
                    refine mv_eqi (x' := nI 0) (rfl) ?_
                    refine lv_iload hx hb dX8_define_106 (lv_at hl 2 rfl) ?_
                    refine mv_callV (Y := mLM) (C := RX8) (k := 0) (i := 0) (rest := []) Cx hG hH hS (c_X8_add_ l E A hO (mM (mM S 0 0 1 0) 0 0 5 0) 1 400 isM_1 (by decide) 0 ts.length (by omega) [] nHas.nil (by simp; omega)) q_co_X8_add_ q_ml_X8_134 q_im_X8_add_ q_se_X8_add_ q_in_X8 okM_0 rfl rfl hd_X8_add_ ⟨Nat.le_of_ble_eq_true rfl, Nat.le_of_ble_eq_true rfl⟩ rfl hl.1 rfl (Nat.le_of_ble_eq_true rfl) ⟨Nat.le_of_ble_eq_true rfl, Nat.le_of_ble_eq_true rfl⟩ dX8_define_108 (fun S108 H locs hP108 hH hS => ?_)
                    refine W.eq (g2 := F0 m 111 ls []) rfl ?_
                    have hr5 : nHas 5 1024 S108 ts := by have h := hP108.1; rw [List.nil_append] at h; rwa [show mTk (fun q => (mM (mM S 0 0 1 0) 0 0 5 0).2.1 1 0 (0 + q)) ts.length = ts from hts.list] at h
                    refine lv_aload_n hx hb dX8_define_111 rfl (lv_at hl 3 rfl) ?_
                    refine lv_aload_n hx hb dX8_define_112 rfl (lv_at hl 3 rfl) ?_
                    refine g_X8_auth Cx hG hH q_fl_X8_76 dX8_define_113 ?_
                    refine lv_bipush (v := 32) hx hb dX8_define_116 (by decide) ?_
                    refine lv_iload hx hb dX8_define_118 (lv_at hl 0 rfl) ?_
                    refine lv_imul hx hb dX8_define_120 ?_
                    refine mv_eqi (x' := nI (32 * (4 + i))) (pk_mul 32 (4 + i)) ?_
                    refine mv_callV (Y := mLM) (C := RX8) (k := 0) (i := 0) (rest := []) Cx hG hH hS (c_X8_hashTo l E A hO S108 31 384 isM_31 (by decide) (32 * (4 + i)) (by omega) ts hr5 (by omega)) q_co_X8_hashTo q_ml_X8_111 q_im_X8_hashTo q_se_X8_hashTo q_in_X8 okM_0 rfl rfl hd_X8_hashTo ⟨Nat.le_of_ble_eq_true rfl, Nat.le_of_ble_eq_true rfl⟩ rfl hl.1 rfl (Nat.le_of_ble_eq_true rfl) ⟨Nat.le_of_ble_eq_true rfl, Nat.le_of_ble_eq_true rfl⟩ dX8_define_121 (fun S121 H locs hP121 hH hS => ?_)
                    refine W.eq (g2 := F0 m 124 ls []) rfl ?_
                    have hs121 : nSame (dfX i) (mM S 0 0 1 0) S121 := ((nSame.M (by simp [dfX, scM, nX])).tr (hP108.2.wk (fun k j h => by simp only [dfX, scM, nX, hX] at h ⊢; omega))).tr (hP121.2.wk (fun k j h => by simp only [dfX, scM, nX, hX] at h ⊢; omega))
                    refine lv_iconst (v := 0) hx hb dX8_define_124 (by decide) ?_
                    refine mv_eqi (x' := nI 0) (rfl) ?_
                    refine lv_istore (lv' := [(8, .int (nI 0)), (7, .int (nI (4 + i))), (6, .int (mkR (mM S 0 0 1 0) (S.2.1 15 0) 0)), (5, .int (nI ts.length)), (0, .ref (mAdM E 0 0)), (1, .int (nI i)), (2, .int kd), (3, .int sz), (4, .int (nI k))]) hx hb dX8_define_125 hl (by decide) rfl (fun ls hl => ?_)
                    have lp : ∀ (fu j : Nat) (S1 : mSt) (H : Heap) (locs : List Loc) (ls : Array Slot) , 32 - j < fu → j ≤ 32 → ((∀ q, q < j → S1.2.1 32 0 (32 * (4 + i) + q) = mpF S z q) ∧ nSame (fun k q => k = 32 ∧ 32 * (4 + i) ≤ q ∧ q < 32 * (4 + i) + 32) S121 S1) → mHold mLM E S1 H → va_S A s.heap H locs → lv_has ls 9 [(0, .ref (mAdM E 0 0)), (2, .int kd), (3, .int sz), (4, .int (nI k)), (7, .int (nI (4 + i))), (8, .int (nI j))] → W p l e (headSpec (Cond.code yX8_define cX8_define 9 (some .int) :: mv_ws) (mRm 3 90)).room s m ([.ref (mAdM E 0 0), .int x, .int kd, .int sz, .int z] : List Value).toArray below meth c H locs 0 0 (MQ below (mQ mLM E A (fun S' => (¬ dfOk (mM S 0 0 1 0) x kd sz z → S' = (mM S 0 0 1 0)) ∧ (dfOk (mM S 0 0 1 0) x kd sz z → ∀ i, i < 8 → x = nI i → (¬ (mM S 0 0 1 0).1 30 0 (4 + i) = 0 → S' = (mM S 0 0 1 0)) ∧ ((mM S 0 0 1 0).1 30 0 (4 + i) = 0 → ((mkR (mM S 0 0 1 0) (S.2.1 15 0) 0) = 0 → (∀ j, j < 32 → S'.2.1 31 0 (32 * (4 + i) + j) = shaL ts j) ∧ (∀ j, j < 32 → S'.2.1 32 0 (32 * (4 + i) + j) = mpF S z j) ∧ S'.1 30 0 (4 + i) = 1 ∧ S'.1 35 0 (4 + i) = kd ∧ S'.1 34 0 (4 + i) = (if kd = 0 then sz else if kd = 1 then 8 else 32) ∧ S'.1 36 0 (4 + i) = 0 ∧ S'.1 37 0 (4 + i) = 0 ∧ (∀ q, q < 128 → S'.2.1 33 0 (128 * (4 + i) + q) = (0 : Int32).toInt8) ∧ nSame (dfX i) (mM S 0 0 1 0) S') ∧ (¬ (mkR (mM S 0 0 1 0) (S.2.1 15 0) 0) = 0 → S' = mkS (mM S 0 0 1 0) (S.2.1 15 0) 0)))) (some (.int (if dfOk (mM S 0 0 1 0) x kd sz z then (if (mM S 0 0 1 0).1 30 0 (4 + x.toNatClampNeg) = 0 then (mkR (mM S 0 0 1 0) (S.2.1 15 0) 0) else -2) else -1)))) ([.ref (mAdM E 0 0), .int x, .int kd, .int sz, .int z] : List Value).toArray s 0 0 A) (F0 m 127 ls []) := by
                      intro fu
                      induction fu with
                      | zero => intro j S1 H locs ls  hn hj hinv hH hS hl; omega
                      | succ fu ih =>
                        intro j S1 H locs ls  hn hj hinv hH hS hl
                        refine lv_iload hx hb dX8_define_127 (lv_at hl 5 rfl) ?_
                        refine lv_bipush (v := 32) hx hb dX8_define_129 (by decide) ?_
                        refine lv_icmp_ge (tgt := 175) hx hb dX8_define_131 (by decide) (fun h131 => ?_) (fun h131 => ?_)
                        · skip
                          have hje : j = 32 := by have := ge_of (a := 32) (b := j) (by omega) (by omega) h131; omega
                          rw [hje] at hinv
                          refine lv_aload_n hx hb dX8_define_175 rfl (lv_at hl 0 rfl) ?_
                          refine g_X8_there Cx hG hH q_fl_X8_73 dX8_define_176 ?_
                          refine lv_iload hx hb dX8_define_179 (lv_at hl 4 rfl) ?_
                          refine lv_iconst (v := 1) hx hb dX8_define_181 (by decide) ?_
                          refine mv_zas Cx hG hO hH hS isM_30 (4 + i) (Or.inr rfl) (rfl) (by omega) dX8_define_182 (fun H locs hH hS => ?_)
                          refine lv_aload_n hx hb dX8_define_183 rfl (lv_at hl 0 rfl) ?_
                          refine g_X8_kind Cx hG hH q_fl_X8_88 dX8_define_184 ?_
                          refine lv_iload hx hb dX8_define_187 (lv_at hl 4 rfl) ?_
                          refine lv_iload_n hx hb dX8_define_189 rfl (lv_at hl 1 rfl) ?_
                          refine mv_ias Cx hG hO hH hS isM_35 (4 + i) (rfl) (by omega) dX8_define_190 (fun H locs hH hS => ?_)
                          refine lv_aload_n hx hb dX8_define_191 rfl (lv_at hl 0 rfl) ?_
                          refine g_X8_size Cx hG hH q_fl_X8_85 dX8_define_192 ?_
                          refine lv_iload hx hb dX8_define_195 (lv_at hl 4 rfl) ?_
                          refine lv_iload_n hx hb dX8_define_197 rfl (lv_at hl 1 rfl) ?_
                          refine lv_if_ne (tgt := 205) hx hb dX8_define_198 (by decide) (fun h198 => ?_) (fun h198 => ?_)
                          · skip
                            refine lv_iload_n hx hb dX8_define_205 rfl (lv_at hl 1 rfl) ?_
                            refine lv_iconst (v := 1) hx hb dX8_define_206 (by decide) ?_
                            refine lv_icmp_ne (tgt := 215) hx hb dX8_define_207 (by decide) (fun h207 => ?_) (fun h207 => ?_)
                            · skip
                              refine lv_bipush (v := 32) hx hb dX8_define_215 (by decide) ?_
                              refine mv_ias Cx hG hO hH hS isM_34 (4 + i) (rfl) (by omega) dX8_define_217 (fun H locs hH hS => ?_)
                              refine lv_aload_n hx hb dX8_define_218 rfl (lv_at hl 0 rfl) ?_
                              refine g_X8_written Cx hG hH q_fl_X8_91 dX8_define_219 ?_
                              refine lv_iload hx hb dX8_define_222 (lv_at hl 4 rfl) ?_
                              refine lv_iconst (v := 0) hx hb dX8_define_224 (by decide) ?_
                              refine mv_zas Cx hG hO hH hS isM_36 (4 + i) (Or.inl rfl) (rfl) (by omega) dX8_define_225 (fun H locs hH hS => ?_)
                              refine lv_aload_n hx hb dX8_define_226 rfl (lv_at hl 0 rfl) ?_
                              refine g_X8_isShut Cx hG hH q_fl_X8_94 dX8_define_227 ?_
                              refine lv_iload hx hb dX8_define_230 (lv_at hl 4 rfl) ?_
                              refine lv_iconst (v := 0) hx hb dX8_define_232 (by decide) ?_
                              refine mv_zas Cx hG hO hH hS isM_37 (4 + i) (Or.inl rfl) (rfl) (by omega) dX8_define_233 (fun H locs hH hS => ?_)
                              refine lv_iconst (v := 0) hx hb dX8_define_234 (by decide) ?_
                              refine mv_eqi (x' := nI 0) (rfl) ?_
                              refine lv_istore (lv' := [(8, .int (nI 0)), (0, .ref (mAdM E 0 0)), (2, .int kd), (3, .int sz), (4, .int (nI k)), (7, .int (nI (4 + i)))]) hx hb dX8_define_235 hl (by decide) rfl (fun ls hl => ?_)
                              have lp2 : ∀ (fu u : Nat) (S2 : mSt) (H : Heap) (locs : List Loc) (ls : Array Slot) , 128 - u < fu → u ≤ 128 → ((∀ q, q < u → S2.2.1 33 0 (128 * (4 + i) + q) = (0 : Int32).toInt8) ∧ nSame (fun k q => k = 33 ∧ 128 * (4 + i) ≤ q ∧ q < 128 * (4 + i) + 128) (mM (mM (mM (mM (mM S1 30 0 (4 + i) 1) 35 0 (4 + i) kd) 34 0 (4 + i) 32) 36 0 (4 + i) 0) 37 0 (4 + i) 0) S2) → mHold mLM E S2 H → va_S A s.heap H locs → lv_has ls 9 [(0, .ref (mAdM E 0 0)), (7, .int (nI (4 + i))), (8, .int (nI u))] → W p l e (headSpec (Cond.code yX8_define cX8_define 9 (some .int) :: mv_ws) (mRm 3 90)).room s m ([.ref (mAdM E 0 0), .int x, .int kd, .int sz, .int z] : List Value).toArray below meth c H locs 0 0 (MQ below (mQ mLM E A (fun S' => (¬ dfOk (mM S 0 0 1 0) x kd sz z → S' = (mM S 0 0 1 0)) ∧ (dfOk (mM S 0 0 1 0) x kd sz z → ∀ i, i < 8 → x = nI i → (¬ (mM S 0 0 1 0).1 30 0 (4 + i) = 0 → S' = (mM S 0 0 1 0)) ∧ ((mM S 0 0 1 0).1 30 0 (4 + i) = 0 → ((mkR (mM S 0 0 1 0) (S.2.1 15 0) 0) = 0 → (∀ j, j < 32 → S'.2.1 31 0 (32 * (4 + i) + j) = shaL ts j) ∧ (∀ j, j < 32 → S'.2.1 32 0 (32 * (4 + i) + j) = mpF S z j) ∧ S'.1 30 0 (4 + i) = 1 ∧ S'.1 35 0 (4 + i) = kd ∧ S'.1 34 0 (4 + i) = (if kd = 0 then sz else if kd = 1 then 8 else 32) ∧ S'.1 36 0 (4 + i) = 0 ∧ S'.1 37 0 (4 + i) = 0 ∧ (∀ q, q < 128 → S'.2.1 33 0 (128 * (4 + i) + q) = (0 : Int32).toInt8) ∧ nSame (dfX i) (mM S 0 0 1 0) S') ∧ (¬ (mkR (mM S 0 0 1 0) (S.2.1 15 0) 0) = 0 → S' = mkS (mM S 0 0 1 0) (S.2.1 15 0) 0)))) (some (.int (if dfOk (mM S 0 0 1 0) x kd sz z then (if (mM S 0 0 1 0).1 30 0 (4 + x.toNatClampNeg) = 0 then (mkR (mM S 0 0 1 0) (S.2.1 15 0) 0) else -2) else -1)))) ([.ref (mAdM E 0 0), .int x, .int kd, .int sz, .int z] : List Value).toArray s 0 0 A) (F0 m 237 ls []) := by
                                intro fu
                                induction fu with
                                | zero => intro u S2 H locs ls  hn2 hu hin2 hH hS hl; omega
                                | succ fu ih2 =>
                                  intro u S2 H locs ls  hn2 hu hin2 hH hS hl
                                  refine lv_iload hx hb dX8_define_237 (lv_at hl 2 rfl) ?_
                                  refine lv_sipush (v := 128) hx hb dX8_define_239 (by decide) ?_
                                  refine lv_icmp_ge (tgt := 266) hx hb dX8_define_242 (by decide) (fun h242 => ?_) (fun h242 => ?_)
                                  · skip
                                    have hue : u = 128 := by have := ge_of (a := 128) (b := u) (by omega) (by omega) h242; omega
                                    rw [hue] at hin2
                                    refine lv_iconst (v := 0) hx hb dX8_define_266 (by decide) ?_
                                    exact mv_reti Cx hr hH hS (by rw [if_pos hok, hxi, nI_clamp (by omega), if_pos h70]; exact h0.symm) (⟨fun q => absurd hok q, fun _ i' hi' ei => by (obtain rfl : i = i' := (nI_eq (by omega) (by omega)).mp (hxi.symm.trans ei)); exact ⟨fun q => absurd h70 q, fun _ => ⟨fun _ => ⟨fun j hj => (hin2.2 31 _ (by omega)).2.1.trans ((hinv.2 31 _ (by omega)).2.1.trans (hP121.1 j hj)), fun j hj => (hin2.2 32 _ (by omega)).2.1.trans (hinv.1 j hj), (hin2.2 30 (4 + i) (by omega)).1.trans (by simp [mM, m3]), (hin2.2 35 (4 + i) (by omega)).1.trans (by simp [mM, m3]), (hin2.2 34 (4 + i) (by omega)).1.trans ((show (mM (mM (mM (mM (mM S1 30 0 (4 + i) 1) 35 0 (4 + i) kd) 34 0 (4 + i) 32) 36 0 (4 + i) 0) 37 0 (4 + i) 0).1 34 0 (4 + i) = 32 by simp [mM, m3]).trans (((if_neg h198).trans (if_neg h207)).symm)), (hin2.2 36 (4 + i) (by omega)).1.trans (by simp [mM, m3]), (hin2.2 37 (4 + i) (by omega)).1.trans (by simp [mM, m3]), hin2.1, ((((((hs121.tr (hinv.2.wk (fun k j h => by simp only [dfX, scM, nX, hX] at h ⊢; omega))).tr (nSame.M (by simp [dfX]))).tr (nSame.M (by simp [dfX]))).tr (nSame.M (by simp [dfX]))).tr (nSame.M (by simp [dfX]))).tr (nSame.M (by simp [dfX]))).tr (hin2.2.wk (fun k j h => by simp only [dfX, scM, nX, hX] at h ⊢; omega))⟩, fun q => absurd h0 q⟩⟩⟩) dX8_define_267 hlocks
                                  · skip
                                    have hue : u < 128 := by have := lt_of (a := 128) (b := u) (by omega) (by omega) h242; omega
                                    refine lv_aload_n hx hb dX8_define_245 rfl (lv_at hl 0 rfl) ?_
                                    refine g_X8_data Cx hG hH q_fl_X8_82 dX8_define_246 ?_
                                    refine lv_sipush (v := 128) hx hb dX8_define_249 (by decide) ?_
                                    refine lv_iload hx hb dX8_define_252 (lv_at hl 1 rfl) ?_
                                    refine lv_imul hx hb dX8_define_254 ?_
                                    refine mv_eqi (x' := nI (128 * (4 + i))) (pk_mul 128 (4 + i)) ?_
                                    refine lv_iload hx hb dX8_define_255 (lv_at hl 2 rfl) ?_
                                    refine lv_iadd hx hb dX8_define_257 ?_
                                    refine mv_eqi (x' := nI (128 * (4 + i) + u)) (nI_add _ _) ?_
                                    refine lv_iconst (v := 0) hx hb dX8_define_258 (by decide) ?_
                                    refine mv_bas Cx hG hO hH hS isM_33 (128 * (4 + i) + u) (rfl) (by omega) dX8_define_259 (fun H locs hH hS => ?_)
                                    refine lv_iinc (v := nI (u + 1)) (lv' := [(8, .int (nI (u + 1))), (0, .ref (mAdM E 0 0)), (7, .int (nI (4 + i)))]) hx hb dX8_define_260 hl (k := 2) rfl (i2_1 u) (by decide) rfl (fun ls hl => ?_)
                                    refine lv_goto (tgt := 237) hx hb dX8_define_263 (by decide) ?_
                                    exact ih2 (u + 1) (mB S2 33 0 (128 * (4 + i) + u) (0 : Int32).toInt8) _ _ ls  (by omega) (by omega) (⟨fun q hq => by by_cases e : q = u; (subst e; exact m3_s _ _ _ _ _); (exact (show m3 S2.2.1 33 0 (128 * (4 + i) + u) _ 33 0 (128 * (4 + i) + q) = _ from m3_n _ _ (by omega)).trans (hin2.1 q (by omega))), hin2.2.tr (nSame.B (X := (fun k q => k = 33 ∧ 128 * (4 + i) ≤ q ∧ q < 128 * (4 + i) + 128)) ⟨rfl, by omega, by omega⟩)⟩) hH hS (lv_sub hl [1, 2, 0] rfl)
                              exact lp2 (128 - 0 + 1) 0 (mM (mM (mM (mM (mM S1 30 0 (4 + i) 1) 35 0 (4 + i) kd) 34 0 (4 + i) 32) 36 0 (4 + i) 0) 37 0 (4 + i) 0) _ _ ls  (by omega) (by omega) (⟨fun q h => absurd h (Nat.not_lt_zero _), nSame.rf⟩) hH hS (lv_sub hl [1, 5, 0] rfl)
                            · skip
                              refine lv_bipush (v := 8) hx hb dX8_define_210 (by decide) ?_
                              refine lv_goto (tgt := 217) hx hb dX8_define_212 (by decide) ?_
                              refine mv_ias Cx hG hO hH hS isM_34 (4 + i) (rfl) (by omega) dX8_define_217 (fun H locs hH hS => ?_)
                              refine lv_aload_n hx hb dX8_define_218 rfl (lv_at hl 0 rfl) ?_
                              refine g_X8_written Cx hG hH q_fl_X8_91 dX8_define_219 ?_
                              refine lv_iload hx hb dX8_define_222 (lv_at hl 4 rfl) ?_
                              refine lv_iconst (v := 0) hx hb dX8_define_224 (by decide) ?_
                              refine mv_zas Cx hG hO hH hS isM_36 (4 + i) (Or.inl rfl) (rfl) (by omega) dX8_define_225 (fun H locs hH hS => ?_)
                              refine lv_aload_n hx hb dX8_define_226 rfl (lv_at hl 0 rfl) ?_
                              refine g_X8_isShut Cx hG hH q_fl_X8_94 dX8_define_227 ?_
                              refine lv_iload hx hb dX8_define_230 (lv_at hl 4 rfl) ?_
                              refine lv_iconst (v := 0) hx hb dX8_define_232 (by decide) ?_
                              refine mv_zas Cx hG hO hH hS isM_37 (4 + i) (Or.inl rfl) (rfl) (by omega) dX8_define_233 (fun H locs hH hS => ?_)
                              refine lv_iconst (v := 0) hx hb dX8_define_234 (by decide) ?_
                              refine mv_eqi (x' := nI 0) (rfl) ?_
                              refine lv_istore (lv' := [(8, .int (nI 0)), (0, .ref (mAdM E 0 0)), (2, .int kd), (3, .int sz), (4, .int (nI k)), (7, .int (nI (4 + i)))]) hx hb dX8_define_235 hl (by decide) rfl (fun ls hl => ?_)
                              have lp2 : ∀ (fu u : Nat) (S2 : mSt) (H : Heap) (locs : List Loc) (ls : Array Slot) , 128 - u < fu → u ≤ 128 → ((∀ q, q < u → S2.2.1 33 0 (128 * (4 + i) + q) = (0 : Int32).toInt8) ∧ nSame (fun k q => k = 33 ∧ 128 * (4 + i) ≤ q ∧ q < 128 * (4 + i) + 128) (mM (mM (mM (mM (mM S1 30 0 (4 + i) 1) 35 0 (4 + i) kd) 34 0 (4 + i) 8) 36 0 (4 + i) 0) 37 0 (4 + i) 0) S2) → mHold mLM E S2 H → va_S A s.heap H locs → lv_has ls 9 [(0, .ref (mAdM E 0 0)), (7, .int (nI (4 + i))), (8, .int (nI u))] → W p l e (headSpec (Cond.code yX8_define cX8_define 9 (some .int) :: mv_ws) (mRm 3 90)).room s m ([.ref (mAdM E 0 0), .int x, .int kd, .int sz, .int z] : List Value).toArray below meth c H locs 0 0 (MQ below (mQ mLM E A (fun S' => (¬ dfOk (mM S 0 0 1 0) x kd sz z → S' = (mM S 0 0 1 0)) ∧ (dfOk (mM S 0 0 1 0) x kd sz z → ∀ i, i < 8 → x = nI i → (¬ (mM S 0 0 1 0).1 30 0 (4 + i) = 0 → S' = (mM S 0 0 1 0)) ∧ ((mM S 0 0 1 0).1 30 0 (4 + i) = 0 → ((mkR (mM S 0 0 1 0) (S.2.1 15 0) 0) = 0 → (∀ j, j < 32 → S'.2.1 31 0 (32 * (4 + i) + j) = shaL ts j) ∧ (∀ j, j < 32 → S'.2.1 32 0 (32 * (4 + i) + j) = mpF S z j) ∧ S'.1 30 0 (4 + i) = 1 ∧ S'.1 35 0 (4 + i) = kd ∧ S'.1 34 0 (4 + i) = (if kd = 0 then sz else if kd = 1 then 8 else 32) ∧ S'.1 36 0 (4 + i) = 0 ∧ S'.1 37 0 (4 + i) = 0 ∧ (∀ q, q < 128 → S'.2.1 33 0 (128 * (4 + i) + q) = (0 : Int32).toInt8) ∧ nSame (dfX i) (mM S 0 0 1 0) S') ∧ (¬ (mkR (mM S 0 0 1 0) (S.2.1 15 0) 0) = 0 → S' = mkS (mM S 0 0 1 0) (S.2.1 15 0) 0)))) (some (.int (if dfOk (mM S 0 0 1 0) x kd sz z then (if (mM S 0 0 1 0).1 30 0 (4 + x.toNatClampNeg) = 0 then (mkR (mM S 0 0 1 0) (S.2.1 15 0) 0) else -2) else -1)))) ([.ref (mAdM E 0 0), .int x, .int kd, .int sz, .int z] : List Value).toArray s 0 0 A) (F0 m 237 ls []) := by
                                intro fu
                                induction fu with
                                | zero => intro u S2 H locs ls  hn2 hu hin2 hH hS hl; omega
                                | succ fu ih2 =>
                                  intro u S2 H locs ls  hn2 hu hin2 hH hS hl
                                  refine lv_iload hx hb dX8_define_237 (lv_at hl 2 rfl) ?_
                                  refine lv_sipush (v := 128) hx hb dX8_define_239 (by decide) ?_
                                  refine lv_icmp_ge (tgt := 266) hx hb dX8_define_242 (by decide) (fun h242 => ?_) (fun h242 => ?_)
                                  · skip
                                    have hue : u = 128 := by have := ge_of (a := 128) (b := u) (by omega) (by omega) h242; omega
                                    rw [hue] at hin2
                                    refine lv_iconst (v := 0) hx hb dX8_define_266 (by decide) ?_
                                    exact mv_reti Cx hr hH hS (by rw [if_pos hok, hxi, nI_clamp (by omega), if_pos h70]; exact h0.symm) (⟨fun q => absurd hok q, fun _ i' hi' ei => by (obtain rfl : i = i' := (nI_eq (by omega) (by omega)).mp (hxi.symm.trans ei)); exact ⟨fun q => absurd h70 q, fun _ => ⟨fun _ => ⟨fun j hj => (hin2.2 31 _ (by omega)).2.1.trans ((hinv.2 31 _ (by omega)).2.1.trans (hP121.1 j hj)), fun j hj => (hin2.2 32 _ (by omega)).2.1.trans (hinv.1 j hj), (hin2.2 30 (4 + i) (by omega)).1.trans (by simp [mM, m3]), (hin2.2 35 (4 + i) (by omega)).1.trans (by simp [mM, m3]), (hin2.2 34 (4 + i) (by omega)).1.trans ((show (mM (mM (mM (mM (mM S1 30 0 (4 + i) 1) 35 0 (4 + i) kd) 34 0 (4 + i) 8) 36 0 (4 + i) 0) 37 0 (4 + i) 0).1 34 0 (4 + i) = 8 by simp [mM, m3]).trans (((if_neg h198).trans (if_pos h207)).symm)), (hin2.2 36 (4 + i) (by omega)).1.trans (by simp [mM, m3]), (hin2.2 37 (4 + i) (by omega)).1.trans (by simp [mM, m3]), hin2.1, ((((((hs121.tr (hinv.2.wk (fun k j h => by simp only [dfX, scM, nX, hX] at h ⊢; omega))).tr (nSame.M (by simp [dfX]))).tr (nSame.M (by simp [dfX]))).tr (nSame.M (by simp [dfX]))).tr (nSame.M (by simp [dfX]))).tr (nSame.M (by simp [dfX]))).tr (hin2.2.wk (fun k j h => by simp only [dfX, scM, nX, hX] at h ⊢; omega))⟩, fun q => absurd h0 q⟩⟩⟩) dX8_define_267 hlocks
                                  · skip
                                    have hue : u < 128 := by have := lt_of (a := 128) (b := u) (by omega) (by omega) h242; omega
                                    refine lv_aload_n hx hb dX8_define_245 rfl (lv_at hl 0 rfl) ?_
                                    refine g_X8_data Cx hG hH q_fl_X8_82 dX8_define_246 ?_
                                    refine lv_sipush (v := 128) hx hb dX8_define_249 (by decide) ?_
                                    refine lv_iload hx hb dX8_define_252 (lv_at hl 1 rfl) ?_
                                    refine lv_imul hx hb dX8_define_254 ?_
                                    refine mv_eqi (x' := nI (128 * (4 + i))) (pk_mul 128 (4 + i)) ?_
                                    refine lv_iload hx hb dX8_define_255 (lv_at hl 2 rfl) ?_
                                    refine lv_iadd hx hb dX8_define_257 ?_
                                    refine mv_eqi (x' := nI (128 * (4 + i) + u)) (nI_add _ _) ?_
                                    refine lv_iconst (v := 0) hx hb dX8_define_258 (by decide) ?_
                                    refine mv_bas Cx hG hO hH hS isM_33 (128 * (4 + i) + u) (rfl) (by omega) dX8_define_259 (fun H locs hH hS => ?_)
                                    refine lv_iinc (v := nI (u + 1)) (lv' := [(8, .int (nI (u + 1))), (0, .ref (mAdM E 0 0)), (7, .int (nI (4 + i)))]) hx hb dX8_define_260 hl (k := 2) rfl (i2_1 u) (by decide) rfl (fun ls hl => ?_)
                                    refine lv_goto (tgt := 237) hx hb dX8_define_263 (by decide) ?_
                                    exact ih2 (u + 1) (mB S2 33 0 (128 * (4 + i) + u) (0 : Int32).toInt8) _ _ ls  (by omega) (by omega) (⟨fun q hq => by by_cases e : q = u; (subst e; exact m3_s _ _ _ _ _); (exact (show m3 S2.2.1 33 0 (128 * (4 + i) + u) _ 33 0 (128 * (4 + i) + q) = _ from m3_n _ _ (by omega)).trans (hin2.1 q (by omega))), hin2.2.tr (nSame.B (X := (fun k q => k = 33 ∧ 128 * (4 + i) ≤ q ∧ q < 128 * (4 + i) + 128)) ⟨rfl, by omega, by omega⟩)⟩) hH hS (lv_sub hl [1, 2, 0] rfl)
                              exact lp2 (128 - 0 + 1) 0 (mM (mM (mM (mM (mM S1 30 0 (4 + i) 1) 35 0 (4 + i) kd) 34 0 (4 + i) 8) 36 0 (4 + i) 0) 37 0 (4 + i) 0) _ _ ls  (by omega) (by omega) (⟨fun q h => absurd h (Nat.not_lt_zero _), nSame.rf⟩) hH hS (lv_sub hl [1, 5, 0] rfl)
                          · skip
                            exact absurd h198 h46
                        · skip
                          have hje : j < 32 := by have := lt_of (a := 32) (b := j) (by omega) (by omega) h131; omega
                          refine lv_aload_n hx hb dX8_define_134 rfl (lv_at hl 0 rfl) ?_
                          refine g_X8_policy Cx hG hH q_fl_X8_79 dX8_define_135 ?_
                          refine lv_bipush (v := 32) hx hb dX8_define_138 (by decide) ?_
                          refine lv_iload hx hb dX8_define_140 (lv_at hl 4 rfl) ?_
                          refine lv_imul hx hb dX8_define_142 ?_
                          refine mv_eqi (x' := nI (32 * (4 + i))) (pk_mul 32 (4 + i)) ?_
                          refine lv_iload hx hb dX8_define_143 (lv_at hl 5 rfl) ?_
                          refine lv_iadd hx hb dX8_define_145 ?_
                          refine mv_eqi (x' := nI (32 * (4 + i) + j)) (nI_add _ _) ?_
                          refine lv_iload hx hb dX8_define_146 (lv_at hl 3 rfl) ?_
                          refine lv_if_ge (tgt := 155) hx hb dX8_define_148 (by decide) (fun h148 => ?_) (fun h148 => ?_)
                          · skip
                            refine lv_aload_n hx hb dX8_define_155 rfl (lv_at hl 0 rfl) ?_
                            refine g_X8_digest Cx hG hH q_fl_X8_51 dX8_define_156 ?_
                            refine lv_bipush (v := 32) hx hb dX8_define_159 (by decide) ?_
                            refine lv_iload hx hb dX8_define_161 (lv_at hl 3 rfl) ?_
                            refine lv_imul hx hb dX8_define_163 ?_
                            refine mv_eqi (x' := nI (32 * k)) (pk_mul 32 k) ?_
                            refine lv_iload hx hb dX8_define_164 (lv_at hl 5 rfl) ?_
                            refine lv_iadd hx hb dX8_define_166 ?_
                            refine mv_eqi (x' := nI (32 * k + j)) (nI_add _ _) ?_
                            refine mv_bal Cx hG hH isM_23 (32 * k + j) (rfl) (by omega) dX8_define_167 ?_
                            refine mv_bas8 Cx hG hO hH hS isM_32 (32 * (4 + i) + j) (S1.2.1 23 0 (32 * k + j)) rfl (rfl) (by omega) dX8_define_168 (fun H locs hH hS => ?_)
                            refine lv_iinc (v := nI (j + 1)) (lv' := [(8, .int (nI (j + 1))), (0, .ref (mAdM E 0 0)), (2, .int kd), (3, .int sz), (4, .int (nI k)), (7, .int (nI (4 + i)))]) hx hb dX8_define_169 hl (k := 5) rfl (i2_1 j) (by decide) rfl (fun ls hl => ?_)
                            refine lv_goto (tgt := 127) hx hb dX8_define_172 (by decide) ?_
                            exact ih (j + 1) (mB S1 32 0 (32 * (4 + i) + j) (S1.2.1 23 0 (32 * k + j))) _ _ ls  (by omega) (by omega) (⟨fun q hq => by by_cases e : q = j; (subst e; exact (m3_s _ _ _ _ _).trans ((hinv.2 23 _ (by omega)).2.1.trans (((hs121 23 _ (by simp only [dfX, scM, nX]; omega)).2.1).trans (hzp q).symm))); (exact (show m3 S1.2.1 32 0 (32 * (4 + i) + j) _ 32 0 (32 * (4 + i) + q) = _ from m3_n _ _ (by omega)).trans (hinv.1 q (by omega))), hinv.2.tr (nSame.B (X := (fun k q => k = 32 ∧ 32 * (4 + i) ≤ q ∧ q < 32 * (4 + i) + 32)) ⟨rfl, by omega, by omega⟩)⟩) hH hS (lv_sub hl [1, 2, 3, 4, 5, 0] rfl)
                          · skip
                            exact absurd (Int32.not_lt.mp (nI_pos (by omega))) h148
                    exact lp (32 - 0 + 1) 0 S121 _ _ ls  (by omega) (by omega) (⟨fun q h => absurd h (Nat.not_lt_zero _), nSame.rf⟩) hH hS (lv_sub hl [4, 6, 7, 8, 1, 0] rfl)
                  · skip
                    have h0 := mkR_ne h84
                    refine lv_iload hx hb dX8_define_87 (lv_at hl 0 rfl) ?_
                    exact mv_reti Cx hr hH hS (by rw [if_pos hok, hxi, nI_clamp (by omega), if_pos h70]) (⟨fun q => absurd hok q, fun _ i' hi' ei => by (obtain rfl : i = i' := (nI_eq (by omega) (by omega)).mp (hxi.symm.trans ei)); exact ⟨fun q => absurd h70 q, fun _ => ⟨fun q => absurd q h0, fun _ => rfl⟩⟩⟩) dX8_define_89 hlocks
                · skip
                  refine lv_bipush (v := (-2 : Int32)) hx hb dX8_define_73 (by decide) ?_
                  exact mv_reti Cx hr hH hS (by rw [if_pos hok, hxi, nI_clamp (by omega), if_neg h70]) (⟨fun q => absurd hok q, fun _ i' hi' ei => by (obtain rfl : i = i' := (nI_eq (by omega) (by omega)).mp (hxi.symm.trans ei)); exact ⟨fun _ => rfl, fun q => absurd q h70⟩⟩) dX8_define_75 hlocks
              · skip
                refine lv_iload_n hx hb dX8_define_49 rfl (lv_at hl 4 rfl) ?_
                refine lv_iconst (v := 1) hx hb dX8_define_50 (by decide) ?_
                refine lv_icmp_lt (tgt := 60) hx hb dX8_define_51 (by decide) (fun h51 => ?_) (fun h51 => ?_)
                · skip
                  have hok : ¬ dfOk (mM S 0 0 1 0) x kd sz z := fun q => (q.2.2.2.2.2 h46).1 h51
                  refine lv_iconst (v := (-1 : Int32)) hx hb dX8_define_60 (by decide) ?_
                  exact mv_reti Cx hr hH hS ((if_neg hok).symm) (⟨fun _ => rfl, fun q => absurd q hok⟩) dX8_define_61 hlocks
                · skip
                  refine lv_iload_n hx hb dX8_define_54 rfl (lv_at hl 4 rfl) ?_
                  refine lv_bipush (v := 64) hx hb dX8_define_55 (by decide) ?_
                  refine lv_icmp_le (tgt := 62) hx hb dX8_define_57 (by decide) (fun h57 => ?_) (fun h57 => ?_)
                  · skip
                    have hok : dfOk (mM S 0 0 1 0) x kd sz z := ⟨h12, h18, h22, h27, Or.inr (b1_of h42), fun _ => ⟨h51, h57⟩⟩
                    obtain ⟨i, hi, hxi⟩ := ix_of (n := 8) (by decide) h12 (fun q => h18 (lt_of_nI8 q))
                    have hl : lv_has ls 9 [(5, .int (nI ts.length)), (0, .ref (mAdM E 0 0)), (1, .int (nI i)), (2, .int kd), (3, .int sz), (4, .int z)] := by rw [← hxi]; exact hl
                    obtain ⟨k, hsz⟩ := Option.isSome_iff_exists.mp (b1_of h42)
                    obtain ⟨hzk, hk4, hzo⟩ := opO_some (by decide) hsz
                    have hzp : ∀ q, mpF S z q = S.2.1 23 0 (32 * k + q) := fun q => by rw [hzk]; exact mpF_s hk4
                    have hl : lv_has ls 9 [(5, .int (nI ts.length)), (0, .ref (mAdM E 0 0)), (1, .int (nI i)), (2, .int kd), (3, .int sz), (4, .int (nI k))] := by rw [← hzk]; exact hl
                    refine lv_aload_n hx hb dX8_define_62 rfl (lv_at hl 1 rfl) ?_
                    refine g_X8_there Cx hG hH q_fl_X8_73 dX8_define_63 ?_
                    refine lv_iconst (v := 4) hx hb dX8_define_66 (by decide) ?_
                    refine lv_iload_n hx hb dX8_define_67 rfl (lv_at hl 2 rfl) ?_
                    refine lv_iadd hx hb dX8_define_68 ?_
                    refine mv_eqi (x' := nI (4 + i)) (nI_add 4 i) ?_
                    refine mv_zal Cx hG hH isM_30 (4 + i) (rfl) (by omega) dX8_define_69 ?_
                    refine lv_if_eq (tgt := 76) hx hb dX8_define_70 (by decide) (fun h70 => ?_) (fun h70 => ?_)
                    · skip
                      refine lv_aload_n hx hb dX8_define_76 rfl (lv_at hl 1 rfl) ?_
                      refine mv_callV (Y := mLM) (C := RX8) (k := 0) (i := 0) (rest := []) Cx hG hH hS (c_X8_owners l E A hO (mM S 0 0 1 0)) q_co_X8_owners q_ml_X8_225 q_im_X8_owners q_se_X8_owners q_in_X8 okM_0 rfl rfl hd_X8_owners ⟨Nat.le_of_ble_eq_true rfl, Nat.le_of_ble_eq_true rfl⟩ rfl hl.1 rfl (Nat.le_of_ble_eq_true rfl) ⟨Nat.le_of_ble_eq_true rfl, Nat.le_of_ble_eq_true rfl⟩ dX8_define_77 (fun S77 H locs hP77 hH hS => ?_)
                      refine W.eq (g2 := F0 m 80 ls [.int (mkR (mM S 0 0 1 0) (S.2.1 15 0) 0)]) rfl ?_
                      have hH := mv_S hP77 hH
                      refine lv_istore (lv' := [(6, .int (mkR (mM S 0 0 1 0) (S.2.1 15 0) 0)), (5, .int (nI ts.length)), (0, .ref (mAdM E 0 0)), (1, .int (nI i)), (2, .int kd), (3, .int sz), (4, .int (nI k))]) hx hb dX8_define_80 hl (by decide) rfl (fun ls hl => ?_)
                      refine lv_iload hx hb dX8_define_82 (lv_at hl 0 rfl) ?_
                      refine lv_if_ge (tgt := 90) hx hb dX8_define_84 (by decide) (fun h84 => ?_) (fun h84 => ?_)
                      · skip
                        have h0 := mkR_ge h84
                        have hH := mv_S (mkS_0 h0) hH
                        refine lv_iconst (v := 4) hx hb dX8_define_90 (by decide) ?_
                        refine lv_iload_n hx hb dX8_define_91 rfl (lv_at hl 3 rfl) ?_
                        refine lv_iadd hx hb dX8_define_92 ?_
                        refine mv_eqi (x' := nI (4 + i)) (nI_add 4 i) ?_
                        refine lv_istore (lv' := [(7, .int (nI (4 + i))), (6, .int (mkR (mM S 0 0 1 0) (S.2.1 15 0) 0)), (5, .int (nI ts.length)), (0, .ref (mAdM E 0 0)), (1, .int (nI i)), (2, .int kd), (3, .int sz), (4, .int (nI k))]) hx hb dX8_define_93 hl (by decide) rfl (fun ls hl => ?_)
                        refine lv_aload_n hx hb dX8_define_95 rfl (lv_at hl 3 rfl) ?_
                        refine lv_iconst (v := 0) hx hb dX8_define_96 (by decide) ?_
                        refine p_X8_rowCount Cx hG hO hH hS q_fl_X8_100 dX8_define_97 (fun H locs hH hS => ?_)
                        refine lv_aload_n hx hb dX8_define_100 rfl (lv_at hl 3 rfl) ?_
                        refine lv_aload_n hx hb dX8_define_101 rfl (lv_at hl 3 rfl) ?_
                        refine g_X8_tape Cx hG hH q_fl_X8_9 dX8_define_102 ?_
                        refine lv_iconst (v := 0) hx hb dX8_define_105 (by decide) ?_
                        refine mv_eqi (x' := nI 0) (rfl) ?_
                        refine lv_iload hx hb dX8_define_106 (lv_at hl 2 rfl) ?_
                        refine mv_callV (Y := mLM) (C := RX8) (k := 0) (i := 0) (rest := []) Cx hG hH hS (c_X8_add_ l E A hO (mM (mM S 0 0 1 0) 0 0 5 0) 1 400 isM_1 (by decide) 0 ts.length (by omega) [] nHas.nil (by simp; omega)) q_co_X8_add_ q_ml_X8_134 q_im_X8_add_ q_se_X8_add_ q_in_X8 okM_0 rfl rfl hd_X8_add_ ⟨Nat.le_of_ble_eq_true rfl, Nat.le_of_ble_eq_true rfl⟩ rfl hl.1 rfl (Nat.le_of_ble_eq_true rfl) ⟨Nat.le_of_ble_eq_true rfl, Nat.le_of_ble_eq_true rfl⟩ dX8_define_108 (fun S108 H locs hP108 hH hS => ?_)
                        refine W.eq (g2 := F0 m 111 ls []) rfl ?_
                        have hr5 : nHas 5 1024 S108 ts := by have h := hP108.1; rw [List.nil_append] at h; rwa [show mTk (fun q => (mM (mM S 0 0 1 0) 0 0 5 0).2.1 1 0 (0 + q)) ts.length = ts from hts.list] at h
                        refine lv_aload_n hx hb dX8_define_111 rfl (lv_at hl 3 rfl) ?_
                        refine lv_aload_n hx hb dX8_define_112 rfl (lv_at hl 3 rfl) ?_
                        refine g_X8_auth Cx hG hH q_fl_X8_76 dX8_define_113 ?_
                        refine lv_bipush (v := 32) hx hb dX8_define_116 (by decide) ?_
                        refine lv_iload hx hb dX8_define_118 (lv_at hl 0 rfl) ?_
                        refine lv_imul hx hb dX8_define_120 ?_
                        refine mv_eqi (x' := nI (32 * (4 + i))) (pk_mul 32 (4 + i)) ?_
                        refine mv_callV (Y := mLM) (C := RX8) (k := 0) (i := 0) (rest := []) Cx hG hH hS (c_X8_hashTo l E A hO S108 31 384 isM_31 (by decide) (32 * (4 + i)) (by omega) ts hr5 (by omega)) q_co_X8_hashTo q_ml_X8_111 q_im_X8_hashTo q_se_X8_hashTo q_in_X8 okM_0 rfl rfl hd_X8_hashTo ⟨Nat.le_of_ble_eq_true rfl, Nat.le_of_ble_eq_true rfl⟩ rfl hl.1 rfl (Nat.le_of_ble_eq_true rfl) ⟨Nat.le_of_ble_eq_true rfl, Nat.le_of_ble_eq_true rfl⟩ dX8_define_121 (fun S121 H locs hP121 hH hS => ?_)
                        refine W.eq (g2 := F0 m 124 ls []) rfl ?_
                        have hs121 : nSame (dfX i) (mM S 0 0 1 0) S121 := ((nSame.M (by simp [dfX, scM, nX])).tr (hP108.2.wk (fun k j h => by simp only [dfX, scM, nX, hX] at h ⊢; omega))).tr (hP121.2.wk (fun k j h => by simp only [dfX, scM, nX, hX] at h ⊢; omega))
                        refine lv_iconst (v := 0) hx hb dX8_define_124 (by decide) ?_
                        refine mv_eqi (x' := nI 0) (rfl) ?_
                        refine lv_istore (lv' := [(8, .int (nI 0)), (7, .int (nI (4 + i))), (6, .int (mkR (mM S 0 0 1 0) (S.2.1 15 0) 0)), (5, .int (nI ts.length)), (0, .ref (mAdM E 0 0)), (1, .int (nI i)), (2, .int kd), (3, .int sz), (4, .int (nI k))]) hx hb dX8_define_125 hl (by decide) rfl (fun ls hl => ?_)
                        have lp : ∀ (fu j : Nat) (S1 : mSt) (H : Heap) (locs : List Loc) (ls : Array Slot) , 32 - j < fu → j ≤ 32 → ((∀ q, q < j → S1.2.1 32 0 (32 * (4 + i) + q) = mpF S z q) ∧ nSame (fun k q => k = 32 ∧ 32 * (4 + i) ≤ q ∧ q < 32 * (4 + i) + 32) S121 S1) → mHold mLM E S1 H → va_S A s.heap H locs → lv_has ls 9 [(0, .ref (mAdM E 0 0)), (2, .int kd), (3, .int sz), (4, .int (nI k)), (7, .int (nI (4 + i))), (8, .int (nI j))] → W p l e (headSpec (Cond.code yX8_define cX8_define 9 (some .int) :: mv_ws) (mRm 3 90)).room s m ([.ref (mAdM E 0 0), .int x, .int kd, .int sz, .int z] : List Value).toArray below meth c H locs 0 0 (MQ below (mQ mLM E A (fun S' => (¬ dfOk (mM S 0 0 1 0) x kd sz z → S' = (mM S 0 0 1 0)) ∧ (dfOk (mM S 0 0 1 0) x kd sz z → ∀ i, i < 8 → x = nI i → (¬ (mM S 0 0 1 0).1 30 0 (4 + i) = 0 → S' = (mM S 0 0 1 0)) ∧ ((mM S 0 0 1 0).1 30 0 (4 + i) = 0 → ((mkR (mM S 0 0 1 0) (S.2.1 15 0) 0) = 0 → (∀ j, j < 32 → S'.2.1 31 0 (32 * (4 + i) + j) = shaL ts j) ∧ (∀ j, j < 32 → S'.2.1 32 0 (32 * (4 + i) + j) = mpF S z j) ∧ S'.1 30 0 (4 + i) = 1 ∧ S'.1 35 0 (4 + i) = kd ∧ S'.1 34 0 (4 + i) = (if kd = 0 then sz else if kd = 1 then 8 else 32) ∧ S'.1 36 0 (4 + i) = 0 ∧ S'.1 37 0 (4 + i) = 0 ∧ (∀ q, q < 128 → S'.2.1 33 0 (128 * (4 + i) + q) = (0 : Int32).toInt8) ∧ nSame (dfX i) (mM S 0 0 1 0) S') ∧ (¬ (mkR (mM S 0 0 1 0) (S.2.1 15 0) 0) = 0 → S' = mkS (mM S 0 0 1 0) (S.2.1 15 0) 0)))) (some (.int (if dfOk (mM S 0 0 1 0) x kd sz z then (if (mM S 0 0 1 0).1 30 0 (4 + x.toNatClampNeg) = 0 then (mkR (mM S 0 0 1 0) (S.2.1 15 0) 0) else -2) else -1)))) ([.ref (mAdM E 0 0), .int x, .int kd, .int sz, .int z] : List Value).toArray s 0 0 A) (F0 m 127 ls []) := by
                          intro fu
                          induction fu with
                          | zero => intro j S1 H locs ls  hn hj hinv hH hS hl; omega
                          | succ fu ih =>
                            intro j S1 H locs ls  hn hj hinv hH hS hl
                            refine lv_iload hx hb dX8_define_127 (lv_at hl 5 rfl) ?_
                            refine lv_bipush (v := 32) hx hb dX8_define_129 (by decide) ?_
                            refine lv_icmp_ge (tgt := 175) hx hb dX8_define_131 (by decide) (fun h131 => ?_) (fun h131 => ?_)
                            · skip
                              have hje : j = 32 := by have := ge_of (a := 32) (b := j) (by omega) (by omega) h131; omega
                              rw [hje] at hinv
                              refine lv_aload_n hx hb dX8_define_175 rfl (lv_at hl 0 rfl) ?_
                              refine g_X8_there Cx hG hH q_fl_X8_73 dX8_define_176 ?_
                              refine lv_iload hx hb dX8_define_179 (lv_at hl 4 rfl) ?_
                              refine lv_iconst (v := 1) hx hb dX8_define_181 (by decide) ?_
                              refine mv_zas Cx hG hO hH hS isM_30 (4 + i) (Or.inr rfl) (rfl) (by omega) dX8_define_182 (fun H locs hH hS => ?_)
                              refine lv_aload_n hx hb dX8_define_183 rfl (lv_at hl 0 rfl) ?_
                              refine g_X8_kind Cx hG hH q_fl_X8_88 dX8_define_184 ?_
                              refine lv_iload hx hb dX8_define_187 (lv_at hl 4 rfl) ?_
                              refine lv_iload_n hx hb dX8_define_189 rfl (lv_at hl 1 rfl) ?_
                              refine mv_ias Cx hG hO hH hS isM_35 (4 + i) (rfl) (by omega) dX8_define_190 (fun H locs hH hS => ?_)
                              refine lv_aload_n hx hb dX8_define_191 rfl (lv_at hl 0 rfl) ?_
                              refine g_X8_size Cx hG hH q_fl_X8_85 dX8_define_192 ?_
                              refine lv_iload hx hb dX8_define_195 (lv_at hl 4 rfl) ?_
                              refine lv_iload_n hx hb dX8_define_197 rfl (lv_at hl 1 rfl) ?_
                              refine lv_if_ne (tgt := 205) hx hb dX8_define_198 (by decide) (fun h198 => ?_) (fun h198 => ?_)
                              · skip
                                exact absurd h46 h198
                              · skip
                                refine lv_iload_n hx hb dX8_define_201 rfl (lv_at hl 2 rfl) ?_
                                refine lv_goto (tgt := 217) hx hb dX8_define_202 (by decide) ?_
                                refine mv_ias Cx hG hO hH hS isM_34 (4 + i) (rfl) (by omega) dX8_define_217 (fun H locs hH hS => ?_)
                                refine lv_aload_n hx hb dX8_define_218 rfl (lv_at hl 0 rfl) ?_
                                refine g_X8_written Cx hG hH q_fl_X8_91 dX8_define_219 ?_
                                refine lv_iload hx hb dX8_define_222 (lv_at hl 4 rfl) ?_
                                refine lv_iconst (v := 0) hx hb dX8_define_224 (by decide) ?_
                                refine mv_zas Cx hG hO hH hS isM_36 (4 + i) (Or.inl rfl) (rfl) (by omega) dX8_define_225 (fun H locs hH hS => ?_)
                                refine lv_aload_n hx hb dX8_define_226 rfl (lv_at hl 0 rfl) ?_
                                refine g_X8_isShut Cx hG hH q_fl_X8_94 dX8_define_227 ?_
                                refine lv_iload hx hb dX8_define_230 (lv_at hl 4 rfl) ?_
                                refine lv_iconst (v := 0) hx hb dX8_define_232 (by decide) ?_
                                refine mv_zas Cx hG hO hH hS isM_37 (4 + i) (Or.inl rfl) (rfl) (by omega) dX8_define_233 (fun H locs hH hS => ?_)
                                refine lv_iconst (v := 0) hx hb dX8_define_234 (by decide) ?_
                                refine mv_eqi (x' := nI 0) (rfl) ?_
                                refine lv_istore (lv' := [(8, .int (nI 0)), (0, .ref (mAdM E 0 0)), (2, .int kd), (3, .int sz), (4, .int (nI k)), (7, .int (nI (4 + i)))]) hx hb dX8_define_235 hl (by decide) rfl (fun ls hl => ?_)
                                have lp2 : ∀ (fu u : Nat) (S2 : mSt) (H : Heap) (locs : List Loc) (ls : Array Slot) , 128 - u < fu → u ≤ 128 → ((∀ q, q < u → S2.2.1 33 0 (128 * (4 + i) + q) = (0 : Int32).toInt8) ∧ nSame (fun k q => k = 33 ∧ 128 * (4 + i) ≤ q ∧ q < 128 * (4 + i) + 128) (mM (mM (mM (mM (mM S1 30 0 (4 + i) 1) 35 0 (4 + i) kd) 34 0 (4 + i) sz) 36 0 (4 + i) 0) 37 0 (4 + i) 0) S2) → mHold mLM E S2 H → va_S A s.heap H locs → lv_has ls 9 [(0, .ref (mAdM E 0 0)), (7, .int (nI (4 + i))), (8, .int (nI u))] → W p l e (headSpec (Cond.code yX8_define cX8_define 9 (some .int) :: mv_ws) (mRm 3 90)).room s m ([.ref (mAdM E 0 0), .int x, .int kd, .int sz, .int z] : List Value).toArray below meth c H locs 0 0 (MQ below (mQ mLM E A (fun S' => (¬ dfOk (mM S 0 0 1 0) x kd sz z → S' = (mM S 0 0 1 0)) ∧ (dfOk (mM S 0 0 1 0) x kd sz z → ∀ i, i < 8 → x = nI i → (¬ (mM S 0 0 1 0).1 30 0 (4 + i) = 0 → S' = (mM S 0 0 1 0)) ∧ ((mM S 0 0 1 0).1 30 0 (4 + i) = 0 → ((mkR (mM S 0 0 1 0) (S.2.1 15 0) 0) = 0 → (∀ j, j < 32 → S'.2.1 31 0 (32 * (4 + i) + j) = shaL ts j) ∧ (∀ j, j < 32 → S'.2.1 32 0 (32 * (4 + i) + j) = mpF S z j) ∧ S'.1 30 0 (4 + i) = 1 ∧ S'.1 35 0 (4 + i) = kd ∧ S'.1 34 0 (4 + i) = (if kd = 0 then sz else if kd = 1 then 8 else 32) ∧ S'.1 36 0 (4 + i) = 0 ∧ S'.1 37 0 (4 + i) = 0 ∧ (∀ q, q < 128 → S'.2.1 33 0 (128 * (4 + i) + q) = (0 : Int32).toInt8) ∧ nSame (dfX i) (mM S 0 0 1 0) S') ∧ (¬ (mkR (mM S 0 0 1 0) (S.2.1 15 0) 0) = 0 → S' = mkS (mM S 0 0 1 0) (S.2.1 15 0) 0)))) (some (.int (if dfOk (mM S 0 0 1 0) x kd sz z then (if (mM S 0 0 1 0).1 30 0 (4 + x.toNatClampNeg) = 0 then (mkR (mM S 0 0 1 0) (S.2.1 15 0) 0) else -2) else -1)))) ([.ref (mAdM E 0 0), .int x, .int kd, .int sz, .int z] : List Value).toArray s 0 0 A) (F0 m 237 ls []) := by
                                  intro fu
                                  induction fu with
                                  | zero => intro u S2 H locs ls  hn2 hu hin2 hH hS hl; omega
                                  | succ fu ih2 =>
                                    intro u S2 H locs ls  hn2 hu hin2 hH hS hl
                                    refine lv_iload hx hb dX8_define_237 (lv_at hl 2 rfl) ?_
                                    refine lv_sipush (v := 128) hx hb dX8_define_239 (by decide) ?_
                                    refine lv_icmp_ge (tgt := 266) hx hb dX8_define_242 (by decide) (fun h242 => ?_) (fun h242 => ?_)
                                    · skip
                                      have hue : u = 128 := by have := ge_of (a := 128) (b := u) (by omega) (by omega) h242; omega
                                      rw [hue] at hin2
                                      refine lv_iconst (v := 0) hx hb dX8_define_266 (by decide) ?_
                                      exact mv_reti Cx hr hH hS (by rw [if_pos hok, hxi, nI_clamp (by omega), if_pos h70]; exact h0.symm) (⟨fun q => absurd hok q, fun _ i' hi' ei => by (obtain rfl : i = i' := (nI_eq (by omega) (by omega)).mp (hxi.symm.trans ei)); exact ⟨fun q => absurd h70 q, fun _ => ⟨fun _ => ⟨fun j hj => (hin2.2 31 _ (by omega)).2.1.trans ((hinv.2 31 _ (by omega)).2.1.trans (hP121.1 j hj)), fun j hj => (hin2.2 32 _ (by omega)).2.1.trans (hinv.1 j hj), (hin2.2 30 (4 + i) (by omega)).1.trans (by simp [mM, m3]), (hin2.2 35 (4 + i) (by omega)).1.trans (by simp [mM, m3]), (hin2.2 34 (4 + i) (by omega)).1.trans ((show (mM (mM (mM (mM (mM S1 30 0 (4 + i) 1) 35 0 (4 + i) kd) 34 0 (4 + i) sz) 36 0 (4 + i) 0) 37 0 (4 + i) 0).1 34 0 (4 + i) = sz by simp [mM, m3]).trans ((if_pos h198).symm)), (hin2.2 36 (4 + i) (by omega)).1.trans (by simp [mM, m3]), (hin2.2 37 (4 + i) (by omega)).1.trans (by simp [mM, m3]), hin2.1, ((((((hs121.tr (hinv.2.wk (fun k j h => by simp only [dfX, scM, nX, hX] at h ⊢; omega))).tr (nSame.M (by simp [dfX]))).tr (nSame.M (by simp [dfX]))).tr (nSame.M (by simp [dfX]))).tr (nSame.M (by simp [dfX]))).tr (nSame.M (by simp [dfX]))).tr (hin2.2.wk (fun k j h => by simp only [dfX, scM, nX, hX] at h ⊢; omega))⟩, fun q => absurd h0 q⟩⟩⟩) dX8_define_267 hlocks
                                    · skip
                                      have hue : u < 128 := by have := lt_of (a := 128) (b := u) (by omega) (by omega) h242; omega
                                      refine lv_aload_n hx hb dX8_define_245 rfl (lv_at hl 0 rfl) ?_
                                      refine g_X8_data Cx hG hH q_fl_X8_82 dX8_define_246 ?_
                                      refine lv_sipush (v := 128) hx hb dX8_define_249 (by decide) ?_
                                      refine lv_iload hx hb dX8_define_252 (lv_at hl 1 rfl) ?_
                                      refine lv_imul hx hb dX8_define_254 ?_
                                      refine mv_eqi (x' := nI (128 * (4 + i))) (pk_mul 128 (4 + i)) ?_
                                      refine lv_iload hx hb dX8_define_255 (lv_at hl 2 rfl) ?_
                                      refine lv_iadd hx hb dX8_define_257 ?_
                                      refine mv_eqi (x' := nI (128 * (4 + i) + u)) (nI_add _ _) ?_
                                      refine lv_iconst (v := 0) hx hb dX8_define_258 (by decide) ?_
                                      refine mv_bas Cx hG hO hH hS isM_33 (128 * (4 + i) + u) (rfl) (by omega) dX8_define_259 (fun H locs hH hS => ?_)
                                      refine lv_iinc (v := nI (u + 1)) (lv' := [(8, .int (nI (u + 1))), (0, .ref (mAdM E 0 0)), (7, .int (nI (4 + i)))]) hx hb dX8_define_260 hl (k := 2) rfl (i2_1 u) (by decide) rfl (fun ls hl => ?_)
                                      refine lv_goto (tgt := 237) hx hb dX8_define_263 (by decide) ?_
                                      exact ih2 (u + 1) (mB S2 33 0 (128 * (4 + i) + u) (0 : Int32).toInt8) _ _ ls  (by omega) (by omega) (⟨fun q hq => by by_cases e : q = u; (subst e; exact m3_s _ _ _ _ _); (exact (show m3 S2.2.1 33 0 (128 * (4 + i) + u) _ 33 0 (128 * (4 + i) + q) = _ from m3_n _ _ (by omega)).trans (hin2.1 q (by omega))), hin2.2.tr (nSame.B (X := (fun k q => k = 33 ∧ 128 * (4 + i) ≤ q ∧ q < 128 * (4 + i) + 128)) ⟨rfl, by omega, by omega⟩)⟩) hH hS (lv_sub hl [1, 2, 0] rfl)
                                exact lp2 (128 - 0 + 1) 0 (mM (mM (mM (mM (mM S1 30 0 (4 + i) 1) 35 0 (4 + i) kd) 34 0 (4 + i) sz) 36 0 (4 + i) 0) 37 0 (4 + i) 0) _ _ ls  (by omega) (by omega) (⟨fun q h => absurd h (Nat.not_lt_zero _), nSame.rf⟩) hH hS (lv_sub hl [1, 5, 0] rfl)
                            · skip
                              have hje : j < 32 := by have := lt_of (a := 32) (b := j) (by omega) (by omega) h131; omega
                              refine lv_aload_n hx hb dX8_define_134 rfl (lv_at hl 0 rfl) ?_
                              refine g_X8_policy Cx hG hH q_fl_X8_79 dX8_define_135 ?_
                              refine lv_bipush (v := 32) hx hb dX8_define_138 (by decide) ?_
                              refine lv_iload hx hb dX8_define_140 (lv_at hl 4 rfl) ?_
                              refine lv_imul hx hb dX8_define_142 ?_
                              refine mv_eqi (x' := nI (32 * (4 + i))) (pk_mul 32 (4 + i)) ?_
                              refine lv_iload hx hb dX8_define_143 (lv_at hl 5 rfl) ?_
                              refine lv_iadd hx hb dX8_define_145 ?_
                              refine mv_eqi (x' := nI (32 * (4 + i) + j)) (nI_add _ _) ?_
                              refine lv_iload hx hb dX8_define_146 (lv_at hl 3 rfl) ?_
                              refine lv_if_ge (tgt := 155) hx hb dX8_define_148 (by decide) (fun h148 => ?_) (fun h148 => ?_)
                              · skip
                                refine lv_aload_n hx hb dX8_define_155 rfl (lv_at hl 0 rfl) ?_
                                refine g_X8_digest Cx hG hH q_fl_X8_51 dX8_define_156 ?_
                                refine lv_bipush (v := 32) hx hb dX8_define_159 (by decide) ?_
                                refine lv_iload hx hb dX8_define_161 (lv_at hl 3 rfl) ?_
                                refine lv_imul hx hb dX8_define_163 ?_
                                refine mv_eqi (x' := nI (32 * k)) (pk_mul 32 k) ?_
                                refine lv_iload hx hb dX8_define_164 (lv_at hl 5 rfl) ?_
                                refine lv_iadd hx hb dX8_define_166 ?_
                                refine mv_eqi (x' := nI (32 * k + j)) (nI_add _ _) ?_
                                refine mv_bal Cx hG hH isM_23 (32 * k + j) (rfl) (by omega) dX8_define_167 ?_
                                refine mv_bas8 Cx hG hO hH hS isM_32 (32 * (4 + i) + j) (S1.2.1 23 0 (32 * k + j)) rfl (rfl) (by omega) dX8_define_168 (fun H locs hH hS => ?_)
                                refine lv_iinc (v := nI (j + 1)) (lv' := [(8, .int (nI (j + 1))), (0, .ref (mAdM E 0 0)), (2, .int kd), (3, .int sz), (4, .int (nI k)), (7, .int (nI (4 + i)))]) hx hb dX8_define_169 hl (k := 5) rfl (i2_1 j) (by decide) rfl (fun ls hl => ?_)
                                refine lv_goto (tgt := 127) hx hb dX8_define_172 (by decide) ?_
                                exact ih (j + 1) (mB S1 32 0 (32 * (4 + i) + j) (S1.2.1 23 0 (32 * k + j))) _ _ ls  (by omega) (by omega) (⟨fun q hq => by by_cases e : q = j; (subst e; exact (m3_s _ _ _ _ _).trans ((hinv.2 23 _ (by omega)).2.1.trans (((hs121 23 _ (by simp only [dfX, scM, nX]; omega)).2.1).trans (hzp q).symm))); (exact (show m3 S1.2.1 32 0 (32 * (4 + i) + j) _ 32 0 (32 * (4 + i) + q) = _ from m3_n _ _ (by omega)).trans (hinv.1 q (by omega))), hinv.2.tr (nSame.B (X := (fun k q => k = 32 ∧ 32 * (4 + i) ≤ q ∧ q < 32 * (4 + i) + 32)) ⟨rfl, by omega, by omega⟩)⟩) hH hS (lv_sub hl [1, 2, 3, 4, 5, 0] rfl)
                              · skip
                                exact absurd (Int32.not_lt.mp (nI_pos (by omega))) h148
                        exact lp (32 - 0 + 1) 0 S121 _ _ ls  (by omega) (by omega) (⟨fun q h => absurd h (Nat.not_lt_zero _), nSame.rf⟩) hH hS (lv_sub hl [4, 6, 7, 8, 1, 0] rfl)
                      · skip
                        have h0 := mkR_ne h84
                        refine lv_iload hx hb dX8_define_87 (lv_at hl 0 rfl) ?_
                        exact mv_reti Cx hr hH hS (by rw [if_pos hok, hxi, nI_clamp (by omega), if_pos h70]) (⟨fun q => absurd hok q, fun _ i' hi' ei => by (obtain rfl : i = i' := (nI_eq (by omega) (by omega)).mp (hxi.symm.trans ei)); exact ⟨fun q => absurd h70 q, fun _ => ⟨fun q => absurd q h0, fun _ => rfl⟩⟩⟩) dX8_define_89 hlocks
                    · skip
                      refine lv_bipush (v := (-2 : Int32)) hx hb dX8_define_73 (by decide) ?_
                      exact mv_reti Cx hr hH hS (by rw [if_pos hok, hxi, nI_clamp (by omega), if_neg h70]) (⟨fun q => absurd hok q, fun _ i' hi' ei => by (obtain rfl : i = i' := (nI_eq (by omega) (by omega)).mp (hxi.symm.trans ei)); exact ⟨fun _ => rfl, fun q => absurd q h70⟩⟩) dX8_define_75 hlocks
                  · skip
                    have hok : ¬ dfOk (mM S 0 0 1 0) x kd sz z := fun q => h57 (q.2.2.2.2.2 h46).2
                    refine lv_iconst (v := (-1 : Int32)) hx hb dX8_define_60 (by decide) ?_
                    exact mv_reti Cx hr hH hS ((if_neg hok).symm) (⟨fun _ => rfl, fun q => absurd q hok⟩) dX8_define_61 hlocks

set_option maxHeartbeats 4000000 in
set_option maxRecDepth 100000 in
theorem c_X8_quote (l : Launch) (E : mEv) (A : Nat → Prop) (hO : mOwn mLM E A) (S : mSt) (x : Int32) (ts : List Int8) (hts : nHas 1 400 S ts) : Met l yX8_quote (Cond.code yX8_quote cX8_quote 4 (some .int) :: mv_ws) (mRm 4 114) (mPc mLM E A S [.ref (mAdM E 0 0), .int x]) (mQ mLM E A (fun S' => (ts.length ≤ 32 → nHas 3 512 S' (mquL S x ts ++ mTk (macL (macL (S.2.1 13 0) [(81 : Int32).toInt8]) (mquL S x ts)) 32) ∧ nSame (fun k j => scM k j ∨ nX 3 k j) (mM S 0 0 1 0) S') ∧ (¬ ts.length ≤ 32 → S' = (mM S 0 0 1 0))) (some (.int (if ts.length ≤ 32 then nI (74 + ts.length) else -1)))) 0 0 A := by
  refine Met.ofW (cc := cX8_quote) (maxL := 4) (ret := (some .int)) (by decide) rfl ?_
  intro p e s m args below meth c s₁ B hml hv
  obtain ⟨rfl, hG, hH⟩ := hv
  have hx := B.exec
  have hb := B.bytes
  have hr := B.returns
  have hlocks := B.notSynchronized
  have Cx : CallFix p m c cX8_quote 4 s ([.ref (mAdM E 0 0), .int x] : List Value).toArray (Cond.code yX8_quote cX8_quote 4 (some .int) :: mv_ws) RX8 := ⟨hx, hb, hml, findClass_of_methodNamed B.named, atoms_spec (ws := Cond.code yX8_quote cX8_quote 4 (some .int) :: mv_ws) B.pre⟩
  have hS : va_S A s.heap s.heap [] := va_S.rf
  have hlen := hts.2.1
  have hl := lv_entry ([.ref (mAdM E 0 0), .int x]) (n := 4) (Nat.le_of_ble_eq_true rfl)
  rw [lg_entry_eq]
  generalize (lg_sl ([.ref (mAdM E 0 0), .int x]) ++ List.replicate (4 - (lg_sl ([.ref (mAdM E 0 0), .int x])).length) Slot.unset).toArray = ls at hl ⊢
  have hl : lv_has ls 4 [(0, .ref (mAdM E 0 0)), (1, .int x)] := hl
  refine lv_aload_n hx hb dX8_quote_0 rfl (lv_at hl 0 rfl) ?_
  refine g_X8_tapeLength Cx hG hH q_fl_X8_137 dX8_quote_1 ?_
  refine mv_eqi (x' := nI ts.length) (hts.1) ?_
  refine lv_istore_n (lv' := [(2, .int (nI ts.length)), (0, .ref (mAdM E 0 0)), (1, .int x)]) hx hb dX8_quote_4 rfl hl (by decide) rfl (fun ls hl => ?_)
  refine lv_aload_n hx hb dX8_quote_5 rfl (lv_at hl 1 rfl) ?_
  refine lv_iconst (v := 0) hx hb dX8_quote_6 (by decide) ?_
  refine p_X8_tapeLength Cx hG hO hH hS q_fl_X8_137 dX8_quote_7 (fun H locs hH hS => ?_)
  refine lv_iload_n hx hb dX8_quote_10 rfl (lv_at hl 0 rfl) ?_
  refine lv_bipush (v := 32) hx hb dX8_quote_11 (by decide) ?_
  refine lv_icmp_le (tgt := 18) hx hb dX8_quote_13 (by decide) (fun h13 => ?_) (fun h13 => ?_)
  · skip
    have h32 : ts.length ≤ 32 := (nI_leI (b := 32) (by omega) (by decide)).mp h13
    refine lv_aload_n hx hb dX8_quote_18 rfl (lv_at hl 1 rfl) ?_
    refine lv_iconst (v := 0) hx hb dX8_quote_19 (by decide) ?_
    refine p_X8_outCount Cx hG hO hH hS q_fl_X8_143 dX8_quote_20 (fun H locs hH hS => ?_)
    refine lv_aload_n hx hb dX8_quote_23 rfl (lv_at hl 1 rfl) ?_
    refine lv_bipush (v := 81) hx hb dX8_quote_24 (by decide) ?_
    refine mv_callV (Y := mLM) (C := RX8) (k := 0) (i := 0) (rest := []) Cx hG hH hS (c_X8_tell l E A hO (mM (mM S 0 0 1 0) 0 0 3 0) [] nHas.nil 81 (by simp)) q_co_X8_tell q_ml_X8_160 q_im_X8_tell q_se_X8_tell q_in_X8 okM_0 rfl rfl hd_X8_tell ⟨Nat.le_of_ble_eq_true rfl, Nat.le_of_ble_eq_true rfl⟩ rfl hl.1 rfl (Nat.le_of_ble_eq_true rfl) ⟨Nat.le_of_ble_eq_true rfl, Nat.le_of_ble_eq_true rfl⟩ dX8_quote_26 (fun S26 H locs hP26 hH hS => ?_)
    refine W.eq (g2 := F0 m 29 ls []) rfl ?_
    refine lv_aload_n hx hb dX8_quote_29 rfl (lv_at hl 1 rfl) ?_
    refine lv_iload_n hx hb dX8_quote_30 rfl (lv_at hl 2 rfl) ?_
    refine mv_callV (Y := mLM) (C := RX8) (k := 0) (i := 0) (rest := []) Cx hG hH hS (c_X8_tell l E A hO S26 _ hP26.1 x (by simp)) q_co_X8_tell q_ml_X8_160 q_im_X8_tell q_se_X8_tell q_in_X8 okM_0 rfl rfl hd_X8_tell ⟨Nat.le_of_ble_eq_true rfl, Nat.le_of_ble_eq_true rfl⟩ rfl hl.1 rfl (Nat.le_of_ble_eq_true rfl) ⟨Nat.le_of_ble_eq_true rfl, Nat.le_of_ble_eq_true rfl⟩ dX8_quote_31 (fun S31 H locs hP31 hH hS => ?_)
    refine W.eq (g2 := F0 m 34 ls []) rfl ?_
    refine lv_aload_n hx hb dX8_quote_34 rfl (lv_at hl 1 rfl) ?_
    refine lv_iload_n hx hb dX8_quote_35 rfl (lv_at hl 2 rfl) ?_
    refine lv_aload_n hx hb dX8_quote_36 rfl (lv_at hl 1 rfl) ?_
    refine g_X8_out Cx hG hH q_fl_X8_13 dX8_quote_37 ?_
    refine lv_iconst (v := 2) hx hb dX8_quote_40 (by decide) ?_
    refine mv_eqi (x' := nI 2) (rfl) ?_
    refine mv_callV (Y := mLM) (C := RX8) (k := 0) (i := 0) (rest := []) Cx hG hH hS (c_X8_stateTo l E A hO S31 x 3 512 isM_3 (by decide) 2 (by decide)) q_co_X8_stateTo q_ml_X8_156 q_im_X8_stateTo q_se_X8_stateTo q_in_X8 okM_0 rfl rfl hd_X8_stateTo ⟨Nat.le_of_ble_eq_true rfl, Nat.le_of_ble_eq_true rfl⟩ rfl hl.1 rfl (Nat.le_of_ble_eq_true rfl) ⟨Nat.le_of_ble_eq_true rfl, Nat.le_of_ble_eq_true rfl⟩ dX8_quote_41 (fun S41 H locs hP41 hH hS => ?_)
    refine W.eq (g2 := F0 m 44 ls []) rfl ?_
    have hs31 : nSame (fun k j => scM k j ∨ nX 3 k j) (mM S 0 0 1 0) S31 := ((nSame.M (by simp [scM, nX, hX, seM])).tr (hP26.2.wk (fun k j h => by simp only [scM, nX, hX, seM] at h ⊢; omega))).tr (hP31.2.wk (fun k j h => by simp only [scM, nX, hX, seM] at h ⊢; omega))
    have hs41 : nSame (fun k j => scM k j ∨ nX 3 k j) (mM S 0 0 1 0) S41 := hs31.tr (hP41.2.wk (fun k j h => by simp only [scM, nX, hX, seM] at h ⊢; omega))
    have hrg : regL (S31.2.1 16 0) x 8 = regL (S.2.1 16 0) x 8 := congrArg (fun f => regL f x 8) (funext (fun q => (hs31 16 q (by simp only [scM, nX, hX, seM]; omega)).2.1))
    have ho1 : nHas 3 512 (mM S41 0 0 3 (nI 34)) ([(81 : Int32).toInt8] ++ [x.toInt8] ++ mTk (shaL (regL (S.2.1 16 0) x 8)) 32) := nHas.app hP31.1 (fun j hj => (hP41.2 3 j (by have hj2 : j < 2 := hj; simp only [nX, hX]; omega)).2.1) (fun q hq => by have h := hP41.1 q hq; rw [hrg] at h; exact h) (by simp [mM, m3]) (by simp)
    refine lv_aload_n hx hb dX8_quote_44 rfl (lv_at hl 1 rfl) ?_
    refine lv_dup hx hb dX8_quote_45 rfl ?_
    refine g_X8_outCount Cx hG hH q_fl_X8_143 dX8_quote_46 ?_
    refine mv_eqi (x' := nI 2) ((hP41.2 0 3 (by simp only [scM, nX, hX, seM]; omega)).1.trans hP31.1.1) ?_
    refine lv_bipush (v := 32) hx hb dX8_quote_49 (by decide) ?_
    refine lv_iadd hx hb dX8_quote_51 ?_
    refine mv_eqi (x' := nI 34) (rfl) ?_
    refine p_X8_outCount Cx hG hO hH hS q_fl_X8_143 dX8_quote_52 (fun H locs hH hS => ?_)
    refine lv_aload_n hx hb dX8_quote_55 rfl (lv_at hl 1 rfl) ?_
    refine lv_aload_n hx hb dX8_quote_56 rfl (lv_at hl 1 rfl) ?_
    refine g_X8_clock Cx hG hH q_fl_X8_163 dX8_quote_57 ?_
    refine mv_eqi (x' := S.1 0 0 16) ((show (mM S41 0 0 3 (nI 34)).1 0 0 16 = S41.1 0 0 16 by simp [mM, m3]).trans ((hs41 0 16 (by simp only [scM, nX, hX, seM]; omega)).1.trans (by simp [mM, m3]))) ?_
    refine mv_callV (Y := mLM) (C := RX8) (k := 0) (i := 0) (rest := []) Cx hG hH hS (c_X8_tellWord l E A hO (mM S41 0 0 3 (nI 34)) _ ho1 (S.1 0 0 16) (by simp [mTk_len])) q_co_X8_tellWord q_ml_X8_166 q_im_X8_tellWord q_se_X8_tellWord q_in_X8 okM_0 rfl rfl hd_X8_tellWord ⟨Nat.le_of_ble_eq_true rfl, Nat.le_of_ble_eq_true rfl⟩ rfl hl.1 rfl (Nat.le_of_ble_eq_true rfl) ⟨Nat.le_of_ble_eq_true rfl, Nat.le_of_ble_eq_true rfl⟩ dX8_quote_60 (fun S60 H locs hP60 hH hS => ?_)
    refine W.eq (g2 := F0 m 63 ls []) rfl ?_
    refine lv_aload_n hx hb dX8_quote_63 rfl (lv_at hl 1 rfl) ?_
    refine lv_aload_n hx hb dX8_quote_64 rfl (lv_at hl 1 rfl) ?_
    refine g_X8_restarts Cx hG hH q_fl_X8_169 dX8_quote_65 ?_
    refine mv_eqi (x' := S.1 0 0 17) ((hP60.2 0 17 (by simp only [scM, nX, hX, seM]; omega)).1.trans ((show (mM S41 0 0 3 (nI 34)).1 0 0 17 = S41.1 0 0 17 by simp [mM, m3]).trans ((hs41 0 17 (by simp only [scM, nX, hX, seM]; omega)).1.trans (by simp [mM, m3])))) ?_
    refine mv_callV (Y := mLM) (C := RX8) (k := 0) (i := 0) (rest := []) Cx hG hH hS (c_X8_tellWord l E A hO S60 _ hP60.1 (S.1 0 0 17) (by simp [mTk_len, w4_len])) q_co_X8_tellWord q_ml_X8_166 q_im_X8_tellWord q_se_X8_tellWord q_in_X8 okM_0 rfl rfl hd_X8_tellWord ⟨Nat.le_of_ble_eq_true rfl, Nat.le_of_ble_eq_true rfl⟩ rfl hl.1 rfl (Nat.le_of_ble_eq_true rfl) ⟨Nat.le_of_ble_eq_true rfl, Nat.le_of_ble_eq_true rfl⟩ dX8_quote_68 (fun S68 H locs hP68 hH hS => ?_)
    refine W.eq (g2 := F0 m 71 ls []) rfl ?_
    have hs68 : nSame (fun k j => scM k j ∨ nX 3 k j) (mM S 0 0 1 0) S68 := ((hs41.tr (nSame.M (by simp [scM, nX, hX, seM]))).tr (hP60.2.wk (fun k j h => by simp only [scM, nX, hX, seM] at h ⊢; omega))).tr (hP68.2.wk (fun k j h => by simp only [scM, nX, hX, seM] at h ⊢; omega))
    refine lv_iconst (v := 0) hx hb dX8_quote_71 (by decide) ?_
    refine mv_eqi (x' := nI 0) (rfl) ?_
    refine lv_istore_n (lv' := [(3, .int (nI 0)), (2, .int (nI ts.length)), (0, .ref (mAdM E 0 0)), (1, .int x)]) hx hb dX8_quote_72 rfl hl (by decide) rfl (fun ls hl => ?_)
    have lp : ∀ (fu j : Nat) (S1 : mSt) (H : Heap) (locs : List Loc) (ls : Array Slot) , ts.length - j < fu → j ≤ ts.length → (nHas 3 512 S1 (([(81 : Int32).toInt8] ++ [x.toInt8] ++ mTk (shaL (regL (S.2.1 16 0) x 8)) 32 ++ w4 (S.1 0 0 16) ++ w4 (S.1 0 0 17)) ++ mTk (fun q => ts.getD q 0) j) ∧ nSame (fun k j => scM k j ∨ nX 3 k j) (mM S 0 0 1 0) S1) → mHold mLM E S1 H → va_S A s.heap H locs → lv_has ls 4 [(0, .ref (mAdM E 0 0)), (1, .int x), (2, .int (nI ts.length)), (3, .int (nI j))] → W p l e (headSpec (Cond.code yX8_quote cX8_quote 4 (some .int) :: mv_ws) (mRm 4 114)).room s m ([.ref (mAdM E 0 0), .int x] : List Value).toArray below meth c H locs 0 0 (MQ below (mQ mLM E A (fun S' => (ts.length ≤ 32 → nHas 3 512 S' (mquL S x ts ++ mTk (macL (macL (S.2.1 13 0) [(81 : Int32).toInt8]) (mquL S x ts)) 32) ∧ nSame (fun k j => scM k j ∨ nX 3 k j) (mM S 0 0 1 0) S') ∧ (¬ ts.length ≤ 32 → S' = (mM S 0 0 1 0))) (some (.int (if ts.length ≤ 32 then nI (74 + ts.length) else -1)))) ([.ref (mAdM E 0 0), .int x] : List Value).toArray s 0 0 A) (F0 m 73 ls []) := by
      intro fu
      induction fu with
      | zero => intro j S1 H locs ls  hn hj hinv hH hS hl; omega
      | succ fu ih =>
        intro j S1 H locs ls  hn hj hinv hH hS hl
        refine lv_iload_n hx hb dX8_quote_73 rfl (lv_at hl 3 rfl) ?_
        refine lv_iload_n hx hb dX8_quote_74 rfl (lv_at hl 2 rfl) ?_
        refine lv_icmp_ge (tgt := 94) hx hb dX8_quote_75 (by decide) (fun h75 => ?_) (fun h75 => ?_)
        · skip
          have hje : j = ts.length := by have := ge_of (a := ts.length) (b := j) (by omega) (by omega) h75; omega
          rw [hje] at hinv
          refine lv_aload_n hx hb dX8_quote_94 rfl (lv_at hl 0 rfl) ?_
          refine lv_bipush (v := 81) hx hb dX8_quote_95 (by decide) ?_
          refine mv_callV (Y := mLM) (C := RX8) (k := 0) (i := 0) (rest := []) Cx hG hH hS (c_X8_macSeed l E A hO S1 81) q_co_X8_macSeed q_ml_X8_172 q_im_X8_macSeed q_se_X8_macSeed q_in_X8 okM_0 rfl rfl hd_X8_macSeed ⟨Nat.le_of_ble_eq_true rfl, Nat.le_of_ble_eq_true rfl⟩ rfl hl.1 rfl (Nat.le_of_ble_eq_true rfl) ⟨Nat.le_of_ble_eq_true rfl, Nat.le_of_ble_eq_true rfl⟩ dX8_quote_97 (fun S97 H locs hP97 hH hS => ?_)
          refine W.eq (g2 := F0 m 100 ls []) rfl ?_
          have hsl : ∀ q, q < 32 → S1.2.1 13 0 q = S.2.1 13 0 q := fun q hq => (hinv.2 13 q (by simp only [scM, nX, hX, seM]; omega)).2.1
          refine lv_aload_n hx hb dX8_quote_100 rfl (lv_at hl 0 rfl) ?_
          refine lv_aload_n hx hb dX8_quote_101 rfl (lv_at hl 0 rfl) ?_
          refine g_X8_macKey Cx hG hH q_fl_X8_29 dX8_quote_102 ?_
          refine lv_iconst (v := 0) hx hb dX8_quote_105 (by decide) ?_
          refine mv_eqi (x' := nI 0) (rfl) ?_
          refine mv_callV (Y := mLM) (C := RX8) (k := 0) (i := 0) (rest := []) Cx hG hH hS (c_X8_macTo l E A hO S97 10 32 isM_10 (by decide) 0 (by decide) _ hP97.2.1 (by simp)) q_co_X8_macTo q_ml_X8_175 q_im_X8_macTo q_se_X8_macTo q_in_X8 okM_0 rfl rfl hd_X8_macTo ⟨Nat.le_of_ble_eq_true rfl, Nat.le_of_ble_eq_true rfl⟩ rfl hl.1 rfl (Nat.le_of_ble_eq_true rfl) ⟨Nat.le_of_ble_eq_true rfl, Nat.le_of_ble_eq_true rfl⟩ dX8_quote_106 (fun S106 H locs hP106 hH hS => ?_)
          refine W.eq (g2 := F0 m 109 ls []) rfl ?_
          have hkm : ∀ q, q < 32 → S106.2.1 10 0 q = (macL (S.2.1 13 0) [(81 : Int32).toInt8]) q := fun q hq => by have h := hP106.1 q hq; rw [Nat.zero_add] at h; rw [h, macL_cg (f := S97.2.1 10 0) (g := S.2.1 13 0) (fun r hr => (hP97.1 r hr).trans (hsl r hr))]
          have hs106 : nSame scM S1 S106 := (hP97.2.2.wk (fun k j h => by simp only [scM, nX, hX, seM] at h ⊢; omega)).tr (hP106.2.wk (fun k j h => by simp only [scM, nX, hX, seM] at h ⊢; omega))
          have hq1 : nHas 3 512 S106 (mquL S x ts) := (show nHas 3 512 S1 (mquL S x ts) from by have h := hinv.1; rwa [mTk_getD] at h).keep hs106 (by simp only [scM, nX, hX, seM]; omega) (fun j => (by simp only [scM, nX, hX, seM]; omega))
          have hoc : S106.1 0 0 3 = nI (42 + ts.length) := by have h := hq1.1; rwa [mquL_len] at h
          refine lv_aload_n hx hb dX8_quote_109 rfl (lv_at hl 0 rfl) ?_
          refine lv_aload_n hx hb dX8_quote_110 rfl (lv_at hl 0 rfl) ?_
          refine g_X8_outCount Cx hG hH q_fl_X8_143 dX8_quote_111 ?_
          refine mv_eqi (x' := nI (42 + ts.length)) (hoc) ?_
          refine p_X8_macCount Cx hG hO hH hS q_fl_X8_131 dX8_quote_114 (fun H locs hH hS => ?_)
          refine lv_iconst (v := 0) hx hb dX8_quote_117 (by decide) ?_
          refine mv_eqi (x' := nI 0) (rfl) ?_
          refine lv_istore_n (lv' := [(3, .int (nI 0)), (0, .ref (mAdM E 0 0)), (1, .int x), (2, .int (nI ts.length))]) hx hb dX8_quote_118 rfl hl (by decide) rfl (fun ls hl => ?_)
          have lp2 : ∀ (fu u : Nat) (S2 : mSt) (H : Heap) (locs : List Loc) (ls : Array Slot) , (42 + ts.length) - u < fu → u ≤ (42 + ts.length) → (S2.1 0 0 3 = nI (42 + ts.length) ∧ S2.1 0 0 11 = nI (42 + ts.length) ∧ (∀ q, q < u → S2.2.1 11 0 q = (mquL S x ts).getD q 0) ∧ (∀ q, q < 42 + ts.length → S2.2.1 3 0 q = (mquL S x ts).getD q 0) ∧ (∀ q, q < 32 → S2.2.1 10 0 q = (macL (S.2.1 13 0) [(81 : Int32).toInt8]) q) ∧ nSame (fun k j => scM k j ∨ nX 3 k j) (mM S 0 0 1 0) S2) → mHold mLM E S2 H → va_S A s.heap H locs → lv_has ls 4 [(0, .ref (mAdM E 0 0)), (2, .int (nI ts.length)), (3, .int (nI u))] → W p l e (headSpec (Cond.code yX8_quote cX8_quote 4 (some .int) :: mv_ws) (mRm 4 114)).room s m ([.ref (mAdM E 0 0), .int x] : List Value).toArray below meth c H locs 0 0 (MQ below (mQ mLM E A (fun S' => (ts.length ≤ 32 → nHas 3 512 S' (mquL S x ts ++ mTk (macL (macL (S.2.1 13 0) [(81 : Int32).toInt8]) (mquL S x ts)) 32) ∧ nSame (fun k j => scM k j ∨ nX 3 k j) (mM S 0 0 1 0) S') ∧ (¬ ts.length ≤ 32 → S' = (mM S 0 0 1 0))) (some (.int (if ts.length ≤ 32 then nI (74 + ts.length) else -1)))) ([.ref (mAdM E 0 0), .int x] : List Value).toArray s 0 0 A) (F0 m 119 ls []) := by
            intro fu
            induction fu with
            | zero => intro u S2 H locs ls  hn2 hu hin2 hH hS hl; omega
            | succ fu ih2 =>
              intro u S2 H locs ls  hn2 hu hin2 hH hS hl
              refine lv_iload_n hx hb dX8_quote_119 rfl (lv_at hl 2 rfl) ?_
              refine lv_aload_n hx hb dX8_quote_120 rfl (lv_at hl 0 rfl) ?_
              refine g_X8_outCount Cx hG hH q_fl_X8_143 dX8_quote_121 ?_
              refine mv_eqi (x' := nI (42 + ts.length)) (hin2.1) ?_
              refine lv_icmp_ge (tgt := 145) hx hb dX8_quote_124 (by decide) (fun h124 => ?_) (fun h124 => ?_)
              · skip
                have hue : u = (42 + ts.length) := by have := ge_of (a := (42 + ts.length)) (b := u) (by omega) (by omega) h124; omega
                rw [hue] at hin2
                refine lv_aload_n hx hb dX8_quote_145 rfl (lv_at hl 0 rfl) ?_
                refine lv_aload_n hx hb dX8_quote_146 rfl (lv_at hl 0 rfl) ?_
                refine g_X8_out Cx hG hH q_fl_X8_13 dX8_quote_147 ?_
                refine lv_aload_n hx hb dX8_quote_150 rfl (lv_at hl 0 rfl) ?_
                refine g_X8_outCount Cx hG hH q_fl_X8_143 dX8_quote_151 ?_
                refine mv_eqi (x' := nI (42 + ts.length)) (hin2.1) ?_
                refine mv_callV (Y := mLM) (C := RX8) (k := 0) (i := 0) (rest := []) Cx hG hH hS (c_X8_macTo l E A hO S2 3 512 isM_3 (by decide) (42 + ts.length) (by omega) (mquL S x ts) ⟨by rw [mquL_len]; exact hin2.2.1, by rw [mquL_len]; omega, fun j hj => by rw [mquL_len] at hj; exact hin2.2.2.1 j hj⟩ (by rw [mquL_len]; omega)) q_co_X8_macTo q_ml_X8_175 q_im_X8_macTo q_se_X8_macTo q_in_X8 okM_0 rfl rfl hd_X8_macTo ⟨Nat.le_of_ble_eq_true rfl, Nat.le_of_ble_eq_true rfl⟩ rfl hl.1 rfl (Nat.le_of_ble_eq_true rfl) ⟨Nat.le_of_ble_eq_true rfl, Nat.le_of_ble_eq_true rfl⟩ dX8_quote_154 (fun S154 H locs hP154 hH hS => ?_)
                refine W.eq (g2 := F0 m 157 ls []) rfl ?_
                refine lv_aload_n hx hb dX8_quote_157 rfl (lv_at hl 0 rfl) ?_
                refine lv_dup hx hb dX8_quote_158 rfl ?_
                refine g_X8_outCount Cx hG hH q_fl_X8_143 dX8_quote_159 ?_
                refine mv_eqi (x' := nI (42 + ts.length)) ((hP154.2 0 3 (by simp only [scM, nX, hX, seM]; omega)).1.trans hin2.1) ?_
                refine lv_bipush (v := 32) hx hb dX8_quote_162 (by decide) ?_
                refine lv_iadd hx hb dX8_quote_164 ?_
                refine mv_eqi (x' := nI (74 + ts.length)) (by rw [show 74 + ts.length = 42 + ts.length + 32 by omega]; exact nI_add _ 32) ?_
                refine p_X8_outCount Cx hG hO hH hS q_fl_X8_143 dX8_quote_165 (fun H locs hH hS => ?_)
                refine lv_aload_n hx hb dX8_quote_168 rfl (lv_at hl 0 rfl) ?_
                refine g_X8_outCount Cx hG hH q_fl_X8_143 dX8_quote_169 ?_
                refine mv_eqi (x' := nI (74 + ts.length)) (by simp [mM, m3]) ?_
                exact mv_reti Cx hr hH hS ((if_pos h32).symm) (⟨fun _ => ⟨nHas.app (S := S2) (xs := (mquL S x ts)) ⟨by rw [mquL_len]; exact hin2.1, by rw [mquL_len]; omega, fun j hj => by rw [mquL_len] at hj; exact hin2.2.2.2.1 j hj⟩ (fun j hj => by rw [mquL_len] at hj; exact (hP154.2 3 j (by simp only [scM, nX, hX, seM]; omega)).2.1) (fun q hq => by rw [mquL_len]; have h := hP154.1 q hq; rw [macL_cg (f := S2.2.1 10 0) (g := (macL (S.2.1 13 0) [(81 : Int32).toInt8])) hin2.2.2.2.2.1] at h; exact h) (by rw [mquL_len, show 42 + ts.length + 32 = 74 + ts.length by omega]; simp [mM, m3]) (by rw [mquL_len]; omega), (hin2.2.2.2.2.2.tr (hP154.2.wk (fun k j h => by simp only [scM, nX, hX, seM] at h ⊢; omega))).tr (nSame.M (by simp [scM, nX, hX, seM]))⟩, fun q => absurd h32 q⟩) dX8_quote_172 hlocks
              · skip
                have hue : u < (42 + ts.length) := by have := lt_of (a := (42 + ts.length)) (b := u) (by omega) (by omega) h124; omega
                refine lv_aload_n hx hb dX8_quote_127 rfl (lv_at hl 0 rfl) ?_
                refine g_X8_macText Cx hG hH q_fl_X8_32 dX8_quote_128 ?_
                refine lv_iload_n hx hb dX8_quote_131 rfl (lv_at hl 2 rfl) ?_
                refine lv_aload_n hx hb dX8_quote_132 rfl (lv_at hl 0 rfl) ?_
                refine g_X8_out Cx hG hH q_fl_X8_13 dX8_quote_133 ?_
                refine lv_iload_n hx hb dX8_quote_136 rfl (lv_at hl 2 rfl) ?_
                refine mv_bal Cx hG hH isM_3 u (rfl) (by omega) dX8_quote_137 ?_
                refine mv_bas8 Cx hG hO hH hS isM_11 u (S2.2.1 3 0 u) rfl (rfl) (by omega) dX8_quote_138 (fun H locs hH hS => ?_)
                refine lv_iinc (v := nI (u + 1)) (lv' := [(3, .int (nI (u + 1))), (0, .ref (mAdM E 0 0)), (2, .int (nI ts.length))]) hx hb dX8_quote_139 hl (k := 2) rfl (i2_1 u) (by decide) rfl (fun ls hl => ?_)
                refine lv_goto (tgt := 119) hx hb dX8_quote_142 (by decide) ?_
                exact ih2 (u + 1) (mB S2 11 0 u (S2.2.1 3 0 u)) _ _ ls  (by omega) (by omega) (⟨hin2.1, hin2.2.1, fun q hq => by by_cases e : q = u; (subst e; exact (show m3 S2.2.1 11 0 q _ 11 0 q = _ by simp [m3]).trans (hin2.2.2.2.1 q (by omega))); (exact (show m3 S2.2.1 11 0 u _ 11 0 q = _ from m3_n _ _ (by omega)).trans (hin2.2.2.1 q (by omega))), fun q hq => (show m3 S2.2.1 11 0 u (S2.2.1 3 0 u) 3 0 q = _ from m3_n _ _ (by omega)).trans (hin2.2.2.2.1 q hq), fun q hq => (show m3 S2.2.1 11 0 u (S2.2.1 3 0 u) 10 0 q = _ from m3_n _ _ (by omega)).trans (hin2.2.2.2.2.1 q hq), hin2.2.2.2.2.2.tr (nSame.B (X := (fun k j => scM k j ∨ nX 3 k j)) (by simp [scM, nX, hX, seM]))⟩) hH hS (lv_sub hl [1, 2, 0] rfl)
          exact lp2 ((42 + ts.length) - 0 + 1) 0 (mM S106 0 0 11 (nI (42 + ts.length))) _ _ ls  (by omega) (by omega) (⟨by simp [mM, m3]; exact hoc, by simp [mM, m3], fun q h => absurd h (Nat.not_lt_zero _), fun q hq => hq1.2.2 q (by rw [mquL_len]; exact hq), hkm, (hinv.2.tr (hs106.wk (fun k j h => Or.inl h))).tr (nSame.M (by simp [scM, nX, hX, seM]))⟩) hH hS (lv_sub hl [1, 3, 0] rfl)
        · skip
          have hje : j < ts.length := by have := lt_of (a := ts.length) (b := j) (by omega) (by omega) h75; omega
          refine lv_aload_n hx hb dX8_quote_78 rfl (lv_at hl 0 rfl) ?_
          refine lv_aload_n hx hb dX8_quote_79 rfl (lv_at hl 0 rfl) ?_
          refine g_X8_tape Cx hG hH q_fl_X8_9 dX8_quote_80 ?_
          refine lv_iload_n hx hb dX8_quote_83 rfl (lv_at hl 3 rfl) ?_
          refine mv_bal Cx hG hH isM_1 j (rfl) (by omega) dX8_quote_84 ?_
          refine mv_eqi (x' := (ts.getD j 0).toInt32) (congrArg Int8.toInt32 ((hinv.2 1 j (by simp only [scM, nX, hX, seM]; omega)).2.1.trans (hts.2.2 j (by omega)))) ?_
          refine mv_callV (Y := mLM) (C := RX8) (k := 0) (i := 0) (rest := []) Cx hG hH hS (c_X8_tell l E A hO S1 _ hinv.1 (ts.getD j 0).toInt32 (by simp only [List.length_append, List.length_singleton, List.length_cons, List.length_nil, mTk_len, w4_len]; omega)) q_co_X8_tell q_ml_X8_160 q_im_X8_tell q_se_X8_tell q_in_X8 okM_0 rfl rfl hd_X8_tell ⟨Nat.le_of_ble_eq_true rfl, Nat.le_of_ble_eq_true rfl⟩ rfl hl.1 rfl (Nat.le_of_ble_eq_true rfl) ⟨Nat.le_of_ble_eq_true rfl, Nat.le_of_ble_eq_true rfl⟩ dX8_quote_85 (fun S85 H locs hP85 hH hS => ?_)
          refine W.eq (g2 := F0 m 88 ls []) rfl ?_
          refine lv_iinc (v := nI (j + 1)) (lv' := [(3, .int (nI (j + 1))), (0, .ref (mAdM E 0 0)), (1, .int x), (2, .int (nI ts.length))]) hx hb dX8_quote_88 hl (k := 3) rfl (i2_1 j) (by decide) rfl (fun ls hl => ?_)
          refine lv_goto (tgt := 73) hx hb dX8_quote_91 (by decide) ?_
          exact ih (j + 1) S85 _ _ ls  (by omega) (by omega) (⟨by rw [mTk_succ (fun q => ts.getD q 0), ← List.append_assoc]; have h := hP85.1; rwa [Int8.toInt8_toInt32] at h, hinv.2.tr (hP85.2.wk (fun k j h => by simp only [scM, nX, hX, seM] at h ⊢; omega))⟩) hH hS (lv_sub hl [1, 2, 3, 0] rfl)
    exact lp (ts.length - 0 + 1) 0 S68 _ _ ls  (by omega) (by omega) (⟨by rw [show mTk (fun q => ts.getD q 0) 0 = [] from rfl, List.append_nil]; exact hP68.1, hs68⟩) hH hS (lv_sub hl [2, 3, 1, 0] rfl)
  · skip
    have h32 : ¬ ts.length ≤ 32 := fun q => h13 ((nI_leI (b := 32) (by omega) (by decide)).mpr q)
    refine lv_iconst (v := (-1 : Int32)) hx hb dX8_quote_16 (by decide) ?_
    exact mv_reti Cx hr hH hS ((if_neg h32).symm) (⟨fun q => absurd q h32, fun _ => rfl⟩) dX8_quote_17 hlocks
