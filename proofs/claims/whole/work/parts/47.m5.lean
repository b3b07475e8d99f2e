/-! ===== the reference: covering, and the first public methods ===== -/
theorem macL_cg {f g : Nat → Int8} {ms : List Int8} (h : ∀ j, j < 32 → f j = g j) : macL f ms = macL g ms := by
  unfold macL
  rw [padK_congr (f := f) (g := g) h, padK_congr (f := f) (g := g) h]
theorem nHas.cut {c cap n : Nat} {S : mSt} {xs : List Int8} (h : nHas c cap S xs) (hn : n ≤ xs.length) : nHas c cap (mM S 0 0 c (nI n)) (xs.take n) := by
  have hl : (xs.take n).length = n := by simp; omega
  refine ⟨by rw [hl]; simp [mM, m3], by rw [hl]; have := h.2.1; omega, fun j hj => ?_⟩
  rw [hl] at hj
  show S.2.1 c 0 j = _
  rw [h.2.2 j (by omega), List.getD_eq_getElem?_getD, List.getD_eq_getElem?_getD, List.getElem?_take_of_lt hj]
theorem nHas.of {c cap n : Nat} {S : mSt} {f : Nat → Int8} (h1 : S.1 0 0 c = nI n) (h2 : n ≤ cap) (h3 : ∀ q, q < n → S.2.1 c 0 q = f q) : nHas c cap S (mTk f n) := ⟨by rw [mTk_len]; exact h1, by rw [mTk_len]; exact h2, fun q hq => by rw [mTk_len] at hq; rw [mTk_get _ hq]; exact h3 q hq⟩
set_option maxHeartbeats 4000000 in
set_option maxRecDepth 100000 in
theorem c_X8_mix (l : Launch) (E : mEv) (A : Nat → Prop) (hO : mOwn mLM E A) (S : mSt) (k0 n0 : Nat) (hB : mIsB mLM k0 0 n0) (hk0 : k0 = 1 ∨ k0 = 3) (n : Nat) (hn : 36 + n ≤ n0) (x : Int32) : Met l yX8_mix (Cond.code yX8_mix cX8_mix 6 none :: mv_ws) (mRm 4 113) (mPc mLM E A S [.ref (mAdM E 0 0), .ref (mAdM E k0 0), .int (nI 36), .int (nI n), .int x]) (mQ mLM E A (fun S' => (∀ r, S'.2.1 k0 0 r = covF (macL (S.2.1 13 0) ([(69 : Int32).toInt8] ++ w4 x)) (S.2.1 k0 0) (36 + n) r) ∧ nSame (fun k j => scM k j ∨ k = k0) S S') none) 0 0 A := by
  refine Met.ofW (cc := cX8_mix) (maxL := 6) (ret := none) (by decide) rfl ?_
  intro p e s m args below meth c s₁ B hml hv
  obtain ⟨rfl, hG, hH⟩ := hv
  have hx := B.exec
  have hb := B.bytes
  have hr := B.returns
  have hlocks := B.notSynchronized
  have Cx : CallFix p m c cX8_mix 6 s ([.ref (mAdM E 0 0), .ref (mAdM E k0 0), .int (nI 36), .int (nI n), .int x] : List Value).toArray (Cond.code yX8_mix cX8_mix 6 none :: mv_ws) RX8 := ⟨hx, hb, hml, findClass_of_methodNamed B.named, atoms_spec (ws := Cond.code yX8_mix cX8_mix 6 none :: mv_ws) B.pre⟩
  have hS : va_S A s.heap s.heap [] := va_S.rf
  have hn0 := hB.2.1
  have hl := lv_entry ([.ref (mAdM E 0 0), .ref (mAdM E k0 0), .int (nI 36), .int (nI n), .int x]) (n := 6) (Nat.le_of_ble_eq_true rfl)
  rw [lg_entry_eq]
  generalize (lg_sl ([.ref (mAdM E 0 0), .ref (mAdM E k0 0), .int (nI 36), .int (nI n), .int x]) ++ List.replicate (6 - (lg_sl ([.ref (mAdM E 0 0), .ref (mAdM E k0 0), .int (nI 36), .int (nI n), .int x])).length) Slot.unset).toArray = ls at hl ⊢
  have hl : lv_has ls 6 [(0, .ref (mAdM E 0 0)), (1, .ref (mAdM E k0 0)), (2, .int (nI 36)), (3, .int (nI n)), (4, .int x)] := hl
  refine lv_aload_n hx hb dX8_mix_0 rfl (lv_at hl 0 rfl) ?_
  refine lv_bipush (v := 69) hx hb dX8_mix_1 (by decide) ?_
  refine mv_callV (Y := mLM) (C := RX8) (k := 0) (i := 0) (rest := []) Cx hG hH hS (c_X8_macSeed l E A hO S 69) q_co_X8_macSeed q_ml_X8_172 q_im_X8_macSeed q_se_X8_macSeed q_in_X8 okM_0 rfl rfl hd_X8_macSeed ⟨Nat.le_of_ble_eq_true rfl, Nat.le_of_ble_eq_true rfl⟩ rfl hl.1 rfl (Nat.le_of_ble_eq_true rfl) ⟨Nat.le_of_ble_eq_true rfl, Nat.le_of_ble_eq_true rfl⟩ dX8_mix_3 (fun S3 H locs hP3 hH hS => ?_)
  refine W.eq (g2 := F0 m 6 ls []) rfl ?_
  refine lv_aload_n hx hb dX8_mix_6 rfl (lv_at hl 0 rfl) ?_
  refine lv_iload hx hb dX8_mix_7 (lv_at hl 4 rfl) ?_
  refine mv_callV (Y := mLM) (C := RX8) (k := 0) (i := 0) (rest := []) Cx hG hH hS (c_X8_number l E A hO S3 [(69 : Int32).toInt8] hP3.2.1 x (by simp)) q_co_X8_number q_ml_X8_200 q_im_X8_number q_se_X8_number q_in_X8 okM_0 rfl rfl hd_X8_number ⟨Nat.le_of_ble_eq_true rfl, Nat.le_of_ble_eq_true rfl⟩ rfl hl.1 rfl (Nat.le_of_ble_eq_true rfl) ⟨Nat.le_of_ble_eq_true rfl, Nat.le_of_ble_eq_true rfl⟩ dX8_mix_9 (fun S9 H locs hP9 hH hS => ?_)
  refine W.eq (g2 := F0 m 12 ls []) rfl ?_
  refine lv_aload_n hx hb dX8_mix_12 rfl (lv_at hl 0 rfl) ?_
  refine lv_aload_n hx hb dX8_mix_13 rfl (lv_at hl 0 rfl) ?_
  refine g_X8_macKey Cx hG hH q_fl_X8_29 dX8_mix_14 ?_
  refine lv_iconst (v := 0) hx hb dX8_mix_17 (by decide) ?_
  refine mv_eqi (x' := nI 0) (rfl) ?_
  refine mv_callV (Y := mLM) (C := RX8) (k := 0) (i := 0) (rest := []) Cx hG hH hS (c_X8_macTo l E A hO S9 10 32 isM_10 (by decide) 0 (by decide) _ hP9.1 (by simp [w4_len])) q_co_X8_macTo q_ml_X8_175 q_im_X8_macTo q_se_X8_macTo q_in_X8 okM_0 rfl rfl hd_X8_macTo ⟨Nat.le_of_ble_eq_true rfl, Nat.le_of_ble_eq_true rfl⟩ rfl hl.1 rfl (Nat.le_of_ble_eq_true rfl) ⟨Nat.le_of_ble_eq_true rfl, Nat.le_of_ble_eq_true rfl⟩ dX8_mix_18 (fun S18 H locs hP18 hH hS => ?_)
  refine W.eq (g2 := F0 m 21 ls []) rfl ?_
  have hD : ∀ q, q < 32 → S18.2.1 10 0 q = (macL (S.2.1 13 0) ([(69 : Int32).toInt8] ++ w4 x)) q := fun q hq => by have h := hP18.1 q hq; rw [Nat.zero_add] at h; rw [h, macL_cg (f := S9.2.1 10 0) (g := S.2.1 13 0) (fun r hr => (hP9.2 10 r (by simp only [scM, nX, hX]; omega)).2.1.trans (hP3.1 r hr))]
  have hs18 : nSame scM S S18 := ((hP3.2.2.wk (fun k j h => by simp only [scM, nX, hX] at h ⊢; omega)).tr (hP9.2.wk (fun k j h => by simp only [scM, nX, hX] at h ⊢; omega))).tr (hP18.2.wk (fun k j h => by simp only [scM, nX, hX] at h ⊢; omega))
  refine lv_iconst (v := 0) hx hb dX8_mix_21 (by decide) ?_
  refine mv_eqi (x' := nI 0) (rfl) ?_
  refine lv_istore (lv' := [(5, .int (nI 0)), (0, .ref (mAdM E 0 0)), (1, .ref (mAdM E k0 0)), (2, .int (nI 36)), (3, .int (nI n)), (4, .int x)]) hx hb dX8_mix_22 hl (by decide) rfl (fun ls hl => ?_)
  have lp : ∀ (fu j : Nat) (S1 : mSt) (H : Heap) (locs : List Loc) (ls : Array Slot) , n - j < fu → j ≤ n → ((∀ r, S1.2.1 k0 0 r = covF (macL (S.2.1 13 0) ([(69 : Int32).toInt8] ++ w4 x)) (S.2.1 k0 0) (36 + j) r) ∧ (∀ q, q < 32 → S1.2.1 10 0 q = (macL (S.2.1 13 0) ([(69 : Int32).toInt8] ++ w4 x)) q) ∧ (¬ j % 32 = 0 → ∀ q, q < 32 → S1.2.1 9 0 q = shaL (mTk (macL (S.2.1 13 0) ([(69 : Int32).toInt8] ++ w4 x)) 32 ++ [(nI (j / 32)).toInt8]) q) ∧ nSame (fun k j => scM k j ∨ k = k0) S S1) → mHold mLM E S1 H → va_S A s.heap H locs → lv_has ls 6 [(0, .ref (mAdM E 0 0)), (1, .ref (mAdM E k0 0)), (2, .int (nI 36)), (3, .int (nI n)), (4, .int x), (5, .int (nI j))] → W p l e (headSpec (Cond.code yX8_mix cX8_mix 6 none :: mv_ws) (mRm 4 113)).room s m ([.ref (mAdM E 0 0), .ref (mAdM E k0 0), .int (nI 36), .int (nI n), .int x] : List Value).toArray below meth c H locs 0 0 (MQ below (mQ mLM E A (fun S' => (∀ r, S'.2.1 k0 0 r = covF (macL (S.2.1 13 0) ([(69 : Int32).toInt8] ++ w4 x)) (S.2.1 k0 0) (36 + n) r) ∧ nSame (fun k j => scM k j ∨ k = k0) S S') none) ([.ref (mAdM E 0 0), .ref (mAdM E k0 0), .int (nI 36), .int (nI n), .int x] : List Value).toArray s 0 0 A) (F0 m 24 ls []) := by
    intro fu
    induction fu with
    | zero => intro j S1 H locs ls  hn hj hinv hH hS hl; omega
    | succ fu ih =>
      intro j S1 H locs ls  hn hj hinv hH hS hl
      refine lv_iload hx hb dX8_mix_24 (lv_at hl 5 rfl) ?_
      refine lv_iload_n hx hb dX8_mix_26 rfl (lv_at hl 3 rfl) ?_
      refine lv_icmp_ge (tgt := 98) hx hb dX8_mix_27 (by decide) (fun h27 => ?_) (fun h27 => ?_)
      · skip
        have hjn : j = n := by have := ge_of (a := n) (b := j) (by omega) (by omega) h27; omega
        rw [hjn] at hinv
        exact mv_retv Cx hr hH hS (⟨hinv.1, hinv.2.2.2⟩) dX8_mix_98 hlocks
      · skip
        have hjn : j < n := lt_of (a := n) (b := j) (by omega) (by omega) h27
        refine lv_iload hx hb dX8_mix_30 (lv_at hl 5 rfl) ?_
        refine lv_bipush (v := 32) hx hb dX8_mix_32 (by decide) ?_
        refine lv_irem hx hb dX8_mix_34 (by decide) ?_
        refine mv_eqi (x' := nI (j % 32)) (pk_rem (a := j) (d := 32) (by omega) (by decide) (by decide)) ?_
        refine lv_if_ne (tgt := 72) hx hb dX8_mix_35 (by decide) (fun h35 => ?_) (fun h35 => ?_)
        · skip
          have hone : ∀ q, q < 32 → S1.2.1 9 0 q = shaL (mTk (macL (S.2.1 13 0) ([(69 : Int32).toInt8] ++ w4 x)) 32 ++ [(nI (j / 32)).toInt8]) q := hinv.2.2.1 (fun q => h35 (by rw [q]; rfl))
          have hinv : (∀ r, S1.2.1 k0 0 r = covF (macL (S.2.1 13 0) ([(69 : Int32).toInt8] ++ w4 x)) (S.2.1 k0 0) (36 + j) r) ∧ (∀ q, q < 32 → S1.2.1 10 0 q = (macL (S.2.1 13 0) ([(69 : Int32).toInt8] ++ w4 x)) q) ∧ nSame (fun k j => scM k j ∨ k = k0) S S1 := ⟨hinv.1, hinv.2.1, hinv.2.2.2⟩
          refine lv_aload_n hx hb dX8_mix_72 rfl (lv_at hl 1 rfl) ?_
          refine lv_iload_n hx hb dX8_mix_73 rfl (lv_at hl 2 rfl) ?_
          refine lv_iload hx hb dX8_mix_74 (lv_at hl 5 rfl) ?_
          refine lv_iadd hx hb dX8_mix_76 ?_
          refine mv_eqi (x' := nI (36 + j)) (nI_add 36 j) ?_
          refine lv_dup2_11 hx hb dX8_mix_77 rfl rfl ?_
          refine mv_bal Cx hG hH hB (36 + j) (rfl) (by omega) dX8_mix_78 ?_
          refine lv_aload_n hx hb dX8_mix_79 rfl (lv_at hl 0 rfl) ?_
          refine g_X8_one Cx hG hH q_fl_X8_26 dX8_mix_80 ?_
          refine lv_iload hx hb dX8_mix_83 (lv_at hl 5 rfl) ?_
          refine lv_bipush (v := 32) hx hb dX8_mix_85 (by decide) ?_
          refine lv_irem hx hb dX8_mix_87 (by decide) ?_
          refine mv_eqi (x' := nI (j % 32)) (pk_rem (a := j) (d := 32) (by omega) (by decide) (by decide)) ?_
          refine mv_bal Cx hG hH isM_9 (j % 32) (rfl) (by omega) dX8_mix_88 ?_
          refine lv_ixor hx hb dX8_mix_89 ?_
          refine lv_i2b hx hb dX8_mix_90 rfl ?_
          refine mv_bas8 Cx hG hO hH hS hB (36 + j) ((((S1.2.1 k0 0 (36 + j)).toInt32) ^^^ ((S1.2.1 9 0 (j % 32)).toInt32)).toInt8) rfl (rfl) (by omega) dX8_mix_91 (fun H locs hH hS => ?_)
          refine lv_iinc (v := nI (j + 1)) (lv' := [(5, .int (nI (j + 1))), (0, .ref (mAdM E 0 0)), (1, .ref (mAdM E k0 0)), (2, .int (nI 36)), (3, .int (nI n)), (4, .int x)]) hx hb dX8_mix_92 hl (k := 5) rfl (i2_1 j) (by decide) rfl (fun ls hl => ?_)
          refine lv_goto (tgt := 24) hx hb dX8_mix_95 (by decide) ?_
          exact ih (j + 1) (mB S1 k0 0 (36 + j) ((((S1.2.1 k0 0 (36 + j)).toInt32) ^^^ ((S1.2.1 9 0 (j % 32)).toInt32)).toInt8)) _ _ ls  (by omega) (by omega) (by
                      refine ⟨fun r => ?_, fun q hq => (show m3 S1.2.1 k0 0 (36 + j) ((S1.2.1 k0 0 (36 + j)).toInt32 ^^^ (S1.2.1 9 0 (j % 32)).toInt32).toInt8 10 0 q = _ from m3_n _ _ (by omega)).trans (hinv.2.1 q hq), fun h q hq => (show m3 S1.2.1 k0 0 (36 + j) ((S1.2.1 k0 0 (36 + j)).toInt32 ^^^ (S1.2.1 9 0 (j % 32)).toInt32).toInt8 9 0 q = _ from m3_n _ _ (by omega)).trans ((hone q hq).trans (by rw [show (j + 1) / 32 = j / 32 by omega])), hinv.2.2.tr (nSame.B (X := fun k j => scM k j ∨ k = k0) (Or.inr rfl))⟩
                      by_cases e : r = 36 + j
                      · subst e
                        refine (show m3 S1.2.1 k0 0 (36 + j) ((S1.2.1 k0 0 (36 + j)).toInt32 ^^^ (S1.2.1 9 0 (j % 32)).toInt32).toInt8 k0 0 (36 + j) = ((S1.2.1 k0 0 (36 + j)).toInt32 ^^^ (S1.2.1 9 0 (j % 32)).toInt32).toInt8 by simp [m3]).trans ?_
                        rw [hinv.1, covF_out (Nat.le_refl _), hone _ (by omega)]
                        unfold covF
                        rw [if_pos (by omega), show 36 + j - 36 = j by omega]
                        rfl
                      · exact (show m3 S1.2.1 k0 0 (36 + j) ((S1.2.1 k0 0 (36 + j)).toInt32 ^^^ (S1.2.1 9 0 (j % 32)).toInt32).toInt8 k0 0 r = _ from m3_n _ _ (by omega)).trans ((hinv.1 r).trans (covF_succ e).symm)) hH hS (lv_sub hl [1, 2, 3, 4, 5, 0] rfl)
        · skip
          refine lv_aload_n hx hb dX8_mix_38 rfl (lv_at hl 0 rfl) ?_
          refine lv_iconst (v := 0) hx hb dX8_mix_39 (by decide) ?_
          refine p_X8_rowCount Cx hG hO hH hS q_fl_X8_100 dX8_mix_40 (fun H locs hH hS => ?_)
          refine lv_aload_n hx hb dX8_mix_43 rfl (lv_at hl 0 rfl) ?_
          refine lv_aload_n hx hb dX8_mix_44 rfl (lv_at hl 0 rfl) ?_
          refine g_X8_macKey Cx hG hH q_fl_X8_29 dX8_mix_45 ?_
          refine lv_iconst (v := 0) hx hb dX8_mix_48 (by decide) ?_
          refine mv_eqi (x' := nI 0) (rfl) ?_
          refine lv_bipush (v := 32) hx hb dX8_mix_49 (by decide) ?_
          refine mv_eqi (x' := nI 32) (rfl) ?_
          refine mv_callV (Y := mLM) (C := RX8) (k := 0) (i := 0) (rest := []) Cx hG hH hS (c_X8_add_ l E A hO (mM S1 0 0 5 0) 10 32 isM_10 (by decide) 0 32 (by decide) [] nHas.nil (by decide)) q_co_X8_add_ q_ml_X8_134 q_im_X8_add_ q_se_X8_add_ q_in_X8 okM_0 rfl rfl hd_X8_add_ ⟨Nat.le_of_ble_eq_true rfl, Nat.le_of_ble_eq_true rfl⟩ rfl hl.1 rfl (Nat.le_of_ble_eq_true rfl) ⟨Nat.le_of_ble_eq_true rfl, Nat.le_of_ble_eq_true rfl⟩ dX8_mix_51 (fun S51 H locs hP51 hH hS => ?_)
          refine W.eq (g2 := F0 m 54 ls []) rfl ?_
          refine lv_aload_n hx hb dX8_mix_54 rfl (lv_at hl 0 rfl) ?_
          refine lv_iload hx hb dX8_mix_55 (lv_at hl 5 rfl) ?_
          refine lv_bipush (v := 32) hx hb dX8_mix_57 (by decide) ?_
          refine lv_idiv hx hb dX8_mix_59 (by decide) ?_
          refine mv_eqi (x' := nI (j / 32)) (pk_div (a := j) (d := 32) (by omega) (by decide) (by decide)) ?_
          refine mv_callV (Y := mLM) (C := RX8) (k := 0) (i := 0) (rest := []) Cx hG hH hS (c_X8_add l E A hO S51 _ hP51.1 (nI (j / 32)) (by simp [mTk_len])) q_co_X8_add q_ml_X8_104 q_im_X8_add q_se_X8_add q_in_X8 okM_0 rfl rfl hd_X8_add ⟨Nat.le_of_ble_eq_true rfl, Nat.le_of_ble_eq_true rfl⟩ rfl hl.1 rfl (Nat.le_of_ble_eq_true rfl) ⟨Nat.le_of_ble_eq_true rfl, Nat.le_of_ble_eq_true rfl⟩ dX8_mix_60 (fun S60 H locs hP60 hH hS => ?_)
          refine W.eq (g2 := F0 m 63 ls []) rfl ?_
          have hr5 : nHas 5 1024 S60 (mTk (macL (S.2.1 13 0) ([(69 : Int32).toInt8] ++ w4 x)) 32 ++ [(nI (j / 32)).toInt8]) := by have h := hP60.1; rw [List.nil_append] at h; rwa [show mTk (fun q => (mM S1 0 0 5 0).2.1 10 0 (0 + q)) 32 = mTk (macL (S.2.1 13 0) ([(69 : Int32).toInt8] ++ w4 x)) 32 from mTk_congr (fun q hq => by rw [Nat.zero_add]; exact hinv.2.1 q hq)] at h
          refine lv_aload_n hx hb dX8_mix_63 rfl (lv_at hl 0 rfl) ?_
          refine lv_aload_n hx hb dX8_mix_64 rfl (lv_at hl 0 rfl) ?_
          refine g_X8_one Cx hG hH q_fl_X8_26 dX8_mix_65 ?_
          refine lv_iconst (v := 0) hx hb dX8_mix_68 (by decide) ?_
          refine mv_eqi (x' := nI 0) (rfl) ?_
          refine mv_callV (Y := mLM) (C := RX8) (k := 0) (i := 0) (rest := []) Cx hG hH hS (c_X8_hashTo l E A hO S60 9 32 isM_9 (by decide) 0 (by decide) _ hr5 (by simp [mTk_len])) q_co_X8_hashTo q_ml_X8_111 q_im_X8_hashTo q_se_X8_hashTo q_in_X8 okM_0 rfl rfl hd_X8_hashTo ⟨Nat.le_of_ble_eq_true rfl, Nat.le_of_ble_eq_true rfl⟩ rfl hl.1 rfl (Nat.le_of_ble_eq_true rfl) ⟨Nat.le_of_ble_eq_true rfl, Nat.le_of_ble_eq_true rfl⟩ dX8_mix_69 (fun S69 H locs hP69 hH hS => ?_)
          refine W.eq (g2 := F0 m 72 ls []) rfl ?_
          have hs69 : nSame (fun k j => nX 5 k j ∨ hX 9 0 k j) S1 S69 := (((nSame.M (X := nX 5) (Or.inl ⟨rfl, rfl⟩)).tr hP51.2).tr hP60.2).wk (fun k j h => by simp only [scM, nX, hX] at h ⊢; omega) |>.tr (hP69.2.wk (fun k j h => by simp only [scM, nX, hX] at h ⊢; omega))
          have hone : ∀ q, q < 32 → S69.2.1 9 0 q = shaL (mTk (macL (S.2.1 13 0) ([(69 : Int32).toInt8] ++ w4 x)) 32 ++ [(nI (j / 32)).toInt8]) q := fun q hq => by have h := hP69.1 q hq; rwa [Nat.zero_add] at h
          have hinv : (∀ r, S69.2.1 k0 0 r = covF (macL (S.2.1 13 0) ([(69 : Int32).toInt8] ++ w4 x)) (S.2.1 k0 0) (36 + j) r) ∧ (∀ q, q < 32 → S69.2.1 10 0 q = (macL (S.2.1 13 0) ([(69 : Int32).toInt8] ++ w4 x)) q) ∧ nSame (fun k j => scM k j ∨ k = k0) S S69 := ⟨fun r => (hs69 k0 r (by simp only [scM, nX, hX]; omega)).2.1.trans (hinv.1 r), fun q hq => (hs69 10 q (by simp only [scM, nX, hX]; omega)).2.1.trans (hinv.2.1 q hq), hinv.2.2.2.tr (hs69.wk (fun k j h => by simp only [scM, nX, hX] at h ⊢; omega))⟩
          refine lv_aload_n hx hb dX8_mix_72 rfl (lv_at hl 1 rfl) ?_
          refine lv_iload_n hx hb dX8_mix_73 rfl (lv_at hl 2 rfl) ?_
          refine lv_iload hx hb dX8_mix_74 (lv_at hl 5 rfl) ?_
          refine lv_iadd hx hb dX8_mix_76 ?_
          refine mv_eqi (x' := nI (36 + j)) (nI_add 36 j) ?_
          refine lv_dup2_11 hx hb dX8_mix_77 rfl rfl ?_
          refine mv_bal Cx hG hH hB (36 + j) (rfl) (by omega) dX8_mix_78 ?_
          refine lv_aload_n hx hb dX8_mix_79 rfl (lv_at hl 0 rfl) ?_
          refine g_X8_one Cx hG hH q_fl_X8_26 dX8_mix_80 ?_
          refine lv_iload hx hb dX8_mix_83 (lv_at hl 5 rfl) ?_
          refine lv_bipush (v := 32) hx hb dX8_mix_85 (by decide) ?_
          refine lv_irem hx hb dX8_mix_87 (by decide) ?_
          refine mv_eqi (x' := nI (j % 32)) (pk_rem (a := j) (d := 32) (by omega) (by decide) (by decide)) ?_
          refine mv_bal Cx hG hH isM_9 (j % 32) (rfl) (by omega) dX8_mix_88 ?_
          refine lv_ixor hx hb dX8_mix_89 ?_
          refine lv_i2b hx hb dX8_mix_90 rfl ?_
          refine mv_bas8 Cx hG hO hH hS hB (36 + j) ((((S69.2.1 k0 0 (36 + j)).toInt32) ^^^ ((S69.2.1 9 0 (j % 32)).toInt32)).toInt8) rfl (rfl) (by omega) dX8_mix_91 (fun H locs hH hS => ?_)
          refine lv_iinc (v := nI (j + 1)) (lv' := [(5, .int (nI (j + 1))), (0, .ref (mAdM E 0 0)), (1, .ref (mAdM E k0 0)), (2, .int (nI 36)), (3, .int (nI n)), (4, .int x)]) hx hb dX8_mix_92 hl (k := 5) rfl (i2_1 j) (by decide) rfl (fun ls hl => ?_)
          refine lv_goto (tgt := 24) hx hb dX8_mix_95 (by decide) ?_
          exact ih (j + 1) (mB S69 k0 0 (36 + j) ((((S69.2.1 k0 0 (36 + j)).toInt32) ^^^ ((S69.2.1 9 0 (j % 32)).toInt32)).toInt8)) _ _ ls  (by omega) (by omega) (by
                      refine ⟨fun r => ?_, fun q hq => (show m3 S69.2.1 k0 0 (36 + j) ((S69.2.1 k0 0 (36 + j)).toInt32 ^^^ (S69.2.1 9 0 (j % 32)).toInt32).toInt8 10 0 q = _ from m3_n _ _ (by omega)).trans (hinv.2.1 q hq), fun h q hq => (show m3 S69.2.1 k0 0 (36 + j) ((S69.2.1 k0 0 (36 + j)).toInt32 ^^^ (S69.2.1 9 0 (j % 32)).toInt32).toInt8 9 0 q = _ from m3_n _ _ (by omega)).trans ((hone q hq).trans (by rw [show (j + 1) / 32 = j / 32 by omega])), hinv.2.2.tr (nSame.B (X := fun k j => scM k j ∨ k = k0) (Or.inr rfl))⟩
                      by_cases e : r = 36 + j
                      · subst e
                        refine (show m3 S69.2.1 k0 0 (36 + j) ((S69.2.1 k0 0 (36 + j)).toInt32 ^^^ (S69.2.1 9 0 (j % 32)).toInt32).toInt8 k0 0 (36 + j) = ((S69.2.1 k0 0 (36 + j)).toInt32 ^^^ (S69.2.1 9 0 (j % 32)).toInt32).toInt8 by simp [m3]).trans ?_
                        rw [hinv.1, covF_out (Nat.le_refl _), hone _ (by omega)]
                        unfold covF
                        rw [if_pos (by omega), show 36 + j - 36 = j by omega]
                        rfl
                      · exact (show m3 S69.2.1 k0 0 (36 + j) ((S69.2.1 k0 0 (36 + j)).toInt32 ^^^ (S69.2.1 9 0 (j % 32)).toInt32).toInt8 k0 0 r = _ from m3_n _ _ (by omega)).trans ((hinv.1 r).trans (covF_succ e).symm)) hH hS (lv_sub hl [1, 2, 3, 4, 5, 0] rfl)
  exact lp (n - 0 + 1) 0 S18 _ _ ls  (by omega) (by omega) (⟨fun r => (hs18 k0 r (by simp only [scM, nX, hX]; omega)).2.1.trans (by unfold covF; rw [if_neg (by omega)]), hD, fun h => absurd rfl h, hs18.wk (fun k j h => Or.inl h)⟩) hH hS (lv_sub hl [1, 2, 3, 4, 5, 0] rfl)

set_option maxHeartbeats 4000000 in
set_option maxRecDepth 100000 in
theorem c_X8_sealTo (l : Launch) (E : mEv) (A : Nat → Prop) (hO : mOwn mLM E A) (S : mSt) (k0 n0 : Nat) (hB : mIsB mLM k0 0 n0) (hk0 : k0 = 1 ∨ k0 = 3) (n : Nat) (hn : n ≤ n0) (hn4 : n ≤ 439) (x : Int32) (k1 n1 : Nat) (hB1 : mIsB mLM k1 0 n1) (hk1 : ¬ k1 = 5 ∧ ¬ k1 = 0 ∧ ¬ k1 = 7 ∧ ¬ k1 = 8) (a : Nat) (ha : a + 32 ≤ n1) : Met l yX8_sealTo (Cond.code yX8_sealTo cX8_sealTo 7 none :: mv_ws) (mRm 4 113) (mPc mLM E A S [.ref (mAdM E 0 0), .ref (mAdM E k0 0), .int (nI n), .int x, .ref (mAdM E k1 0), .int (nI a)]) (mQ mLM E A (fun S' => (∀ q, q < 32 → S'.2.1 k1 0 (a + q) = blMk (S.2.1 13 0) x (mTk (S.2.1 k0 0) n) q) ∧ nSame (fun k j => scM k j ∨ hX k1 a k j) S S') none) 0 0 A := by
  refine Met.ofW (cc := cX8_sealTo) (maxL := 7) (ret := none) (by decide) rfl ?_
  intro p e s m args below meth c s₁ B hml hv
  obtain ⟨rfl, hG, hH⟩ := hv
  have hx := B.exec
  have hb := B.bytes
  have hr := B.returns
  have hlocks := B.notSynchronized
  have Cx : CallFix p m c cX8_sealTo 7 s ([.ref (mAdM E 0 0), .ref (mAdM E k0 0), .int (nI n), .int x, .ref (mAdM E k1 0), .int (nI a)] : List Value).toArray (Cond.code yX8_sealTo cX8_sealTo 7 none :: mv_ws) RX8 := ⟨hx, hb, hml, findClass_of_methodNamed B.named, atoms_spec (ws := Cond.code yX8_sealTo cX8_sealTo 7 none :: mv_ws) B.pre⟩
  have hS : va_S A s.heap s.heap [] := va_S.rf
  have hn0 := hB.2.1
  have hl := lv_entry ([.ref (mAdM E 0 0), .ref (mAdM E k0 0), .int (nI n), .int x, .ref (mAdM E k1 0), .int (nI a)]) (n := 7) (Nat.le_of_ble_eq_true rfl)
  rw [lg_entry_eq]
  generalize (lg_sl ([.ref (mAdM E 0 0), .ref (mAdM E k0 0), .int (nI n), .int x, .ref (mAdM E k1 0), .int (nI a)]) ++ List.replicate (7 - (lg_sl ([.ref (mAdM E 0 0), .ref (mAdM E k0 0), .int (nI n), .int x, .ref (mAdM E k1 0), .int (nI a)])).length) Slot.unset).toArray = ls at hl ⊢
  have hl : lv_has ls 7 [(0, .ref (mAdM E 0 0)), (1, .ref (mAdM E k0 0)), (2, .int (nI n)), (3, .int x), (4, .ref (mAdM E k1 0)), (5, .int (nI a))] := hl
  refine lv_aload_n hx hb dX8_sealTo_0 rfl (lv_at hl 0 rfl) ?_
  refine lv_bipush (v := 77) hx hb dX8_sealTo_1 (by decide) ?_
  refine mv_callV (Y := mLM) (C := RX8) (k := 0) (i := 0) (rest := []) Cx hG hH hS (c_X8_macSeed l E A hO S 77) q_co_X8_macSeed q_ml_X8_172 q_im_X8_macSeed q_se_X8_macSeed q_in_X8 okM_0 rfl rfl hd_X8_macSeed ⟨Nat.le_of_ble_eq_true rfl, Nat.le_of_ble_eq_true rfl⟩ rfl hl.1 rfl (Nat.le_of_ble_eq_true rfl) ⟨Nat.le_of_ble_eq_true rfl, Nat.le_of_ble_eq_true rfl⟩ dX8_sealTo_3 (fun S3 H locs hP3 hH hS => ?_)
  refine W.eq (g2 := F0 m 6 ls []) rfl ?_
  refine lv_aload_n hx hb dX8_sealTo_6 rfl (lv_at hl 0 rfl) ?_
  refine lv_iload_n hx hb dX8_sealTo_7 rfl (lv_at hl 3 rfl) ?_
  refine mv_callV (Y := mLM) (C := RX8) (k := 0) (i := 0) (rest := []) Cx hG hH hS (c_X8_number l E A hO S3 [(77 : Int32).toInt8] hP3.2.1 x (by simp)) q_co_X8_number q_ml_X8_200 q_im_X8_number q_se_X8_number q_in_X8 okM_0 rfl rfl hd_X8_number ⟨Nat.le_of_ble_eq_true rfl, Nat.le_of_ble_eq_true rfl⟩ rfl hl.1 rfl (Nat.le_of_ble_eq_true rfl) ⟨Nat.le_of_ble_eq_true rfl, Nat.le_of_ble_eq_true rfl⟩ dX8_sealTo_8 (fun S8 H locs hP8 hH hS => ?_)
  refine W.eq (g2 := F0 m 11 ls []) rfl ?_
  refine lv_aload_n hx hb dX8_sealTo_11 rfl (lv_at hl 0 rfl) ?_
  refine lv_aload_n hx hb dX8_sealTo_12 rfl (lv_at hl 0 rfl) ?_
  refine g_X8_macKey Cx hG hH q_fl_X8_29 dX8_sealTo_13 ?_
  refine lv_iconst (v := 0) hx hb dX8_sealTo_16 (by decide) ?_
  refine mv_eqi (x' := nI 0) (rfl) ?_
  refine mv_callV (Y := mLM) (C := RX8) (k := 0) (i := 0) (rest := []) Cx hG hH hS (c_X8_macTo l E A hO S8 10 32 isM_10 (by decide) 0 (by decide) _ hP8.1 (by simp [w4_len])) q_co_X8_macTo q_ml_X8_175 q_im_X8_macTo q_se_X8_macTo q_in_X8 okM_0 rfl rfl hd_X8_macTo ⟨Nat.le_of_ble_eq_true rfl, Nat.le_of_ble_eq_true rfl⟩ rfl hl.1 rfl (Nat.le_of_ble_eq_true rfl) ⟨Nat.le_of_ble_eq_true rfl, Nat.le_of_ble_eq_true rfl⟩ dX8_sealTo_17 (fun S17 H locs hP17 hH hS => ?_)
  refine W.eq (g2 := F0 m 20 ls []) rfl ?_
  have hD : ∀ q, q < 32 → S17.2.1 10 0 q = (macL (S.2.1 13 0) ([(77 : Int32).toInt8] ++ w4 x)) q := fun q hq => by have h := hP17.1 q hq; rw [Nat.zero_add] at h; rw [h, macL_cg (f := S8.2.1 10 0) (g := S.2.1 13 0) (fun r hr => (hP8.2 10 r (by simp only [scM, nX, hX]; omega)).2.1.trans (hP3.1 r hr))]
  have hs17 : nSame scM S S17 := ((hP3.2.2.wk (fun k j h => by simp only [scM, nX, hX] at h ⊢; omega)).tr (hP8.2.wk (fun k j h => by simp only [scM, nX, hX] at h ⊢; omega))).tr (hP17.2.wk (fun k j h => by simp only [scM, nX, hX] at h ⊢; omega))
  refine lv_aload_n hx hb dX8_sealTo_20 rfl (lv_at hl 0 rfl) ?_
  refine lv_iload_n hx hb dX8_sealTo_21 rfl (lv_at hl 2 rfl) ?_
  refine p_X8_macCount Cx hG hO hH hS q_fl_X8_131 dX8_sealTo_22 (fun H locs hH hS => ?_)
  refine lv_iconst (v := 0) hx hb dX8_sealTo_25 (by decide) ?_
  refine mv_eqi (x' := nI 0) (rfl) ?_
  refine lv_istore (lv' := [(6, .int (nI 0)), (0, .ref (mAdM E 0 0)), (1, .ref (mAdM E k0 0)), (2, .int (nI n)), (3, .int x), (4, .ref (mAdM E k1 0)), (5, .int (nI a))]) hx hb dX8_sealTo_26 hl (by decide) rfl (fun ls hl => ?_)
  have lp : ∀ (fu j : Nat) (S1 : mSt) (H : Heap) (locs : List Loc) (ls : Array Slot) , n - j < fu → j ≤ n → (S1.1 0 0 11 = nI n ∧ (∀ q, q < j → S1.2.1 11 0 q = S.2.1 k0 0 q) ∧ (∀ q, q < 32 → S1.2.1 10 0 q = (macL (S.2.1 13 0) ([(77 : Int32).toInt8] ++ w4 x)) q) ∧ nSame scM S S1) → mHold mLM E S1 H → va_S A s.heap H locs → lv_has ls 7 [(0, .ref (mAdM E 0 0)), (1, .ref (mAdM E k0 0)), (2, .int (nI n)), (3, .int x), (4, .ref (mAdM E k1 0)), (5, .int (nI a)), (6, .int (nI j))] → W p l e (headSpec (Cond.code yX8_sealTo cX8_sealTo 7 none :: mv_ws) (mRm 4 113)).room s m ([.ref (mAdM E 0 0), .ref (mAdM E k0 0), .int (nI n), .int x, .ref (mAdM E k1 0), .int (nI a)] : List Value).toArray below meth c H locs 0 0 (MQ below (mQ mLM E A (fun S' => (∀ q, q < 32 → S'.2.1 k1 0 (a + q) = blMk (S.2.1 13 0) x (mTk (S.2.1 k0 0) n) q) ∧ nSame (fun k j => scM k j ∨ hX k1 a k j) S S') none) ([.ref (mAdM E 0 0), .ref (mAdM E k0 0), .int (nI n), .int x, .ref (mAdM E k1 0), .int (nI a)] : List Value).toArray s 0 0 A) (F0 m 28 ls []) := by
    intro fu
    induction fu with
    | zero => intro j S1 H locs ls  hn hj hinv hH hS hl; omega
    | succ fu ih =>
      intro j S1 H locs ls  hn hj hinv hH hS hl
      refine lv_iload hx hb dX8_sealTo_28 (lv_at hl 6 rfl) ?_
      refine lv_iload_n hx hb dX8_sealTo_30 rfl (lv_at hl 2 rfl) ?_
      refine lv_icmp_ge (tgt := 51) hx hb dX8_sealTo_31 (by decide) (fun h31 => ?_) (fun h31 => ?_)
      · skip
        have hjn : j = n := by have := ge_of (a := n) (b := j) (by omega) (by omega) h31; omega
        rw [hjn] at hinv
        refine lv_aload_n hx hb dX8_sealTo_51 rfl (lv_at hl 0 rfl) ?_
        refine lv_aload hx hb dX8_sealTo_52 (lv_at hl 4 rfl) ?_
        refine lv_iload hx hb dX8_sealTo_54 (lv_at hl 5 rfl) ?_
        refine mv_callV (Y := mLM) (C := RX8) (k := 0) (i := 0) (rest := []) Cx hG hH hS (c_X8_macTo l E A hO S1 k1 n1 hB1 hk1 a ha _ (nHas.of hinv.1 (by omega) hinv.2.1) (by rw [mTk_len]; omega)) q_co_X8_macTo q_ml_X8_175 q_im_X8_macTo q_se_X8_macTo q_in_X8 okM_0 rfl rfl hd_X8_macTo ⟨Nat.le_of_ble_eq_true rfl, Nat.le_of_ble_eq_true rfl⟩ rfl hl.1 rfl (Nat.le_of_ble_eq_true rfl) ⟨Nat.le_of_ble_eq_true rfl, Nat.le_of_ble_eq_true rfl⟩ dX8_sealTo_56 (fun S56 H locs hP56 hH hS => ?_)
        refine W.eq (g2 := F0 m 59 ls []) rfl ?_
        exact mv_retv Cx hr hH hS (⟨fun q hq => by rw [hP56.1 q hq, macL_cg (f := S1.2.1 10 0) (g := (macL (S.2.1 13 0) ([(77 : Int32).toInt8] ++ w4 x))) hinv.2.2.1]; rfl, (hinv.2.2.2.wk (fun k j h => Or.inl h)).tr (hP56.2.wk (fun k j h => by simp only [scM, nX, hX] at h ⊢; omega))⟩) dX8_sealTo_59 hlocks
      · skip
        have hjn : j < n := lt_of (a := n) (b := j) (by omega) (by omega) h31
        refine lv_aload_n hx hb dX8_sealTo_34 rfl (lv_at hl 0 rfl) ?_
        refine g_X8_macText Cx hG hH q_fl_X8_32 dX8_sealTo_35 ?_
        refine lv_iload hx hb dX8_sealTo_38 (lv_at hl 6 rfl) ?_
        refine lv_aload_n hx hb dX8_sealTo_40 rfl (lv_at hl 1 rfl) ?_
        refine lv_iload hx hb dX8_sealTo_41 (lv_at hl 6 rfl) ?_
        refine mv_bal Cx hG hH hB j (rfl) (by omega) dX8_sealTo_43 ?_
        refine mv_bas8 Cx hG hO hH hS isM_11 j (S1.2.1 k0 0 j) rfl (rfl) (by omega) dX8_sealTo_44 (fun H locs hH hS => ?_)
        refine lv_iinc (v := nI (j + 1)) (lv' := [(6, .int (nI (j + 1))), (0, .ref (mAdM E 0 0)), (1, .ref (mAdM E k0 0)), (2, .int (nI n)), (3, .int x), (4, .ref (mAdM E k1 0)), (5, .int (nI a))]) hx hb dX8_sealTo_45 hl (k := 6) rfl (i2_1 j) (by decide) rfl (fun ls hl => ?_)
        refine lv_goto (tgt := 28) hx hb dX8_sealTo_48 (by decide) ?_
        exact ih (j + 1) (mB S1 11 0 j (S1.2.1 k0 0 j)) _ _ ls  (by omega) (by omega) (⟨hinv.1, fun q hq => by by_cases e : q = j; (subst e; exact (show m3 S1.2.1 11 0 q _ 11 0 q = _ by simp [m3]).trans (hinv.2.2.2 k0 q (by simp only [scM, nX, hX]; omega)).2.1); (exact (show m3 S1.2.1 11 0 j _ 11 0 q = _ from m3_n _ _ (by omega)).trans (hinv.2.1 q (by omega))), fun q hq => (show m3 S1.2.1 11 0 j (S1.2.1 k0 0 j) 10 0 q = _ from m3_n _ _ (by omega)).trans (hinv.2.2.1 q hq), hinv.2.2.2.tr (nSame.B (X := scM) (by simp [scM, nX, hX]))⟩) hH hS (lv_sub hl [1, 2, 3, 4, 5, 6, 0] rfl)
  exact lp (n - 0 + 1) 0 (mM S17 0 0 11 (nI n)) _ _ ls  (by omega) (by omega) (⟨by simp [mM, m3], fun q h => absurd h (Nat.not_lt_zero _), hD, hs17.tr (nSame.M (X := scM) (by simp [scM, nX, hX]))⟩) hH hS (lv_sub hl [1, 2, 3, 4, 5, 6, 0] rfl)

set_option maxHeartbeats 4000000 in
set_option maxRecDepth 100000 in
theorem c_X8_feed (l : Launch) (E : mEv) (A : Nat → Prop) (hO : mOwn mLM E A) (S : mSt) (a1 a2 a3 a4 a5 : Int32) (ts : List Int8) (hts : nHas 1 400 S ts) : Met l yX8_feed (Cond.code yX8_feed cX8_feed 6 (some .int) :: mv_ws) (mRm 1 22) (mPc mLM E A S [.ref (mAdM E 0 0), .int a1, .int a2, .int a3, .int a4, .int a5]) (mQ mLM E A (fun S' => (ts.length + 20 ≤ 400 → nHas 1 400 S' (ts ++ w4 a1 ++ w4 a2 ++ w4 a3 ++ w4 a4 ++ w4 a5) ∧ nSame (nX 1) S S') ∧ (¬ ts.length + 20 ≤ 400 → S' = S)) (some (.int (if ts.length + 20 ≤ 400 then nI (ts.length + 20) else -3)))) 0 0 A := by
  refine Met.ofW (cc := cX8_feed) (maxL := 6) (ret := (some .int)) (by decide) rfl ?_
  intro p e s m args below meth c s₁ B hml hv
  obtain ⟨rfl, hG, hH⟩ := hv
  have hx := B.exec
  have hb := B.bytes
  have hr := B.returns
  have hlocks := B.notSynchronized
  have Cx : CallFix p m c cX8_feed 6 s ([.ref (mAdM E 0 0), .int a1, .int a2, .int a3, .int a4, .int a5] : List Value).toArray (Cond.code yX8_feed cX8_feed 6 (some .int) :: mv_ws) RX8 := ⟨hx, hb, hml, findClass_of_methodNamed B.named, atoms_spec (ws := Cond.code yX8_feed cX8_feed 6 (some .int) :: mv_ws) B.pre⟩
  have hS : va_S A s.heap s.heap [] := va_S.rf
  have hlen := hts.2.1
  have hl := lv_entry ([.ref (mAdM E 0 0), .int a1, .int a2, .int a3, .int a4, .int a5]) (n := 6) (Nat.le_of_ble_eq_true rfl)
  rw [lg_entry_eq]
  generalize (lg_sl ([.ref (mAdM E 0 0), .int a1, .int a2, .int a3, .int a4, .int a5]) ++ List.replicate (6 - (lg_sl ([.ref (mAdM E 0 0), .int a1, .int a2, .int a3, .int a4, .int a5])).length) Slot.unset).toArray = ls at hl ⊢
  have hl : lv_has ls 6 [(0, .ref (mAdM E 0 0)), (1, .int a1), (2, .int a2), (3, .int a3), (4, .int a4), (5, .int a5)] := hl
  refine lv_aload_n hx hb dX8_feed_0 rfl (lv_at hl 0 rfl) ?_
  refine g_X8_tapeLength Cx hG hH q_fl_X8_137 dX8_feed_1 ?_
  refine mv_eqi (x' := nI ts.length) (hts.1) ?_
  refine lv_bipush (v := 20) hx hb dX8_feed_4 (by decide) ?_
  refine lv_iadd hx hb dX8_feed_6 ?_
  refine mv_eqi (x' := nI (ts.length + 20)) (nI_add _ 20) ?_
  refine lv_sipush (v := 400) hx hb dX8_feed_7 (by decide) ?_
  refine lv_icmp_le (tgt := 16) hx hb dX8_feed_10 (by decide) (fun h10 => ?_) (fun h10 => ?_)
  · skip
    have hroom : ts.length + 20 ≤ 400 := ge_of (a := ts.length + 20) (b := 400) (by omega) (by decide) h10
    refine lv_aload_n hx hb dX8_feed_16 rfl (lv_at hl 0 rfl) ?_
    refine lv_iload_n hx hb dX8_feed_17 rfl (lv_at hl 1 rfl) ?_
    refine mv_callV (Y := mLM) (C := RX8) (k := 0) (i := 0) (rest := []) Cx hG hH hS (c_X8_put l E A hO S ts hts a1 (by (try simp only [List.length_append, w4_len]); omega)) q_co_X8_put q_ml_X8_140 q_im_X8_put q_se_X8_put q_in_X8 okM_0 rfl rfl hd_X8_put ⟨Nat.le_of_ble_eq_true rfl, Nat.le_of_ble_eq_true rfl⟩ rfl hl.1 rfl (Nat.le_of_ble_eq_true rfl) ⟨Nat.le_of_ble_eq_true rfl, Nat.le_of_ble_eq_true rfl⟩ dX8_feed_18 (fun S18 H locs hP18 hH hS => ?_)
    refine W.eq (g2 := F0 m 21 ls []) rfl ?_
    refine lv_aload_n hx hb dX8_feed_21 rfl (lv_at hl 0 rfl) ?_
    refine lv_iload_n hx hb dX8_feed_22 rfl (lv_at hl 2 rfl) ?_
    refine mv_callV (Y := mLM) (C := RX8) (k := 0) (i := 0) (rest := []) Cx hG hH hS (c_X8_put l E A hO S18 (ts ++ w4 a1) hP18.1 a2 (by (try simp only [List.length_append, w4_len]); omega)) q_co_X8_put q_ml_X8_140 q_im_X8_put q_se_X8_put q_in_X8 okM_0 rfl rfl hd_X8_put ⟨Nat.le_of_ble_eq_true rfl, Nat.le_of_ble_eq_true rfl⟩ rfl hl.1 rfl (Nat.le_of_ble_eq_true rfl) ⟨Nat.le_of_ble_eq_true rfl, Nat.le_of_ble_eq_true rfl⟩ dX8_feed_23 (fun S23 H locs hP23 hH hS => ?_)
    refine W.eq (g2 := F0 m 26 ls []) rfl ?_
    refine lv_aload_n hx hb dX8_feed_26 rfl (lv_at hl 0 rfl) ?_
    refine lv_iload_n hx hb dX8_feed_27 rfl (lv_at hl 3 rfl) ?_
    refine mv_callV (Y := mLM) (C := RX8) (k := 0) (i := 0) (rest := []) Cx hG hH hS (c_X8_put l E A hO S23 (ts ++ w4 a1 ++ w4 a2) hP23.1 a3 (by (try simp only [List.length_append, w4_len]); omega)) q_co_X8_put q_ml_X8_140 q_im_X8_put q_se_X8_put q_in_X8 okM_0 rfl rfl hd_X8_put ⟨Nat.le_of_ble_eq_true rfl, Nat.le_of_ble_eq_true rfl⟩ rfl hl.1 rfl (Nat.le_of_ble_eq_true rfl) ⟨Nat.le_of_ble_eq_true rfl, Nat.le_of_ble_eq_true rfl⟩ dX8_feed_28 (fun S28 H locs hP28 hH hS => ?_)
    refine W.eq (g2 := F0 m 31 ls []) rfl ?_
    refine lv_aload_n hx hb dX8_feed_31 rfl (lv_at hl 0 rfl) ?_
    refine lv_iload hx hb dX8_feed_32 (lv_at hl 4 rfl) ?_
    refine mv_callV (Y := mLM) (C := RX8) (k := 0) (i := 0) (rest := []) Cx hG hH hS (c_X8_put l E A hO S28 (ts ++ w4 a1 ++ w4 a2 ++ w4 a3) hP28.1 a4 (by (try simp only [List.length_append, w4_len]); omega)) q_co_X8_put q_ml_X8_140 q_im_X8_put q_se_X8_put q_in_X8 okM_0 rfl rfl hd_X8_put ⟨Nat.le_of_ble_eq_true rfl, Nat.le_of_ble_eq_true rfl⟩ rfl hl.1 rfl (Nat.le_of_ble_eq_true rfl) ⟨Nat.le_of_ble_eq_true rfl, Nat.le_of_ble_eq_true rfl⟩ dX8_feed_34 (fun S34 H locs hP34 hH hS => ?_)
    refine W.eq (g2 := F0 m 37 ls []) rfl ?_
    refine lv_aload_n hx hb dX8_feed_37 rfl (lv_at hl 0 rfl) ?_
    refine lv_iload hx hb dX8_feed_38 (lv_at hl 5 rfl) ?_
    refine mv_callV (Y := mLM) (C := RX8) (k := 0) (i := 0) (rest := []) Cx hG hH hS (c_X8_put l E A hO S34 (ts ++ w4 a1 ++ w4 a2 ++ w4 a3 ++ w4 a4) hP34.1 a5 (by (try simp only [List.length_append, w4_len]); omega)) q_co_X8_put q_ml_X8_140 q_im_X8_put q_se_X8_put q_in_X8 okM_0 rfl rfl hd_X8_put ⟨Nat.le_of_ble_eq_true rfl, Nat.le_of_ble_eq_true rfl⟩ rfl hl.1 rfl (Nat.le_of_ble_eq_true rfl) ⟨Nat.le_of_ble_eq_true rfl, Nat.le_of_ble_eq_true rfl⟩ dX8_feed_40 (fun S40 H locs hP40 hH hS => ?_)
    refine W.eq (g2 := F0 m 43 ls []) rfl ?_
    refine lv_aload_n hx hb dX8_feed_43 rfl (lv_at hl 0 rfl) ?_
    refine g_X8_tapeLength Cx hG hH q_fl_X8_137 dX8_feed_44 ?_
    refine mv_eqi (x' := nI (ts.length + 20)) (by have h := hP40.1.1; simp only [List.length_append, w4_len] at h; rw [h]) ?_
    exact mv_reti Cx hr hH hS ((if_pos hroom).symm) (⟨fun _ => ⟨hP40.1, (((hP18.2.tr hP23.2).tr hP28.2).tr hP34.2).tr hP40.2⟩, fun q => absurd hroom q⟩) dX8_feed_47 hlocks
  · skip
    have hroom : ¬ ts.length + 20 ≤ 400 := fun q => h10 ((nI_leI (b := 400) (by omega) (by decide)).mpr q)
    refine lv_bipush (v := (-3 : Int32)) hx hb dX8_feed_13 (by decide) ?_
    exact mv_reti Cx hr hH hS ((if_neg hroom).symm) (⟨fun q => absurd q hroom, fun _ => rfl⟩) dX8_feed_15 hlocks

set_option maxHeartbeats 4000000 in
set_option maxRecDepth 100000 in
theorem c_X8_end (l : Launch) (E : mEv) (A : Nat → Prop) (hO : mOwn mLM E A) (S : mSt) (x : Int32) (ts : List Int8) (hts : nHas 1 400 S ts) : Met l yX8_end (Cond.code yX8_end cX8_end 2 (some .int) :: mv_ws) (mRm 0 0) (mPc mLM E A S [.ref (mAdM E 0 0), .int x]) (mQ mLM E A (fun S' => ((¬ x < 0 ∧ x ≤ nI ts.length) → nHas 1 400 S' (ts.take x.toNatClampNeg) ∧ nSame (nX 1) S S') ∧ (¬ (¬ x < 0 ∧ x ≤ nI ts.length) → S' = S)) (some (.int (if ¬ x < 0 ∧ x ≤ nI ts.length then x else -1)))) 0 0 A := by
  refine Met.ofW (cc := cX8_end) (maxL := 2) (ret := (some .int)) (by decide) rfl ?_
  intro p e s m args below meth c s₁ B hml hv
  obtain ⟨rfl, hG, hH⟩ := hv
  have hx := B.exec
  have hb := B.bytes
  have hr := B.returns
  have hlocks := B.notSynchronized
  have Cx : CallFix p m c cX8_end 2 s ([.ref (mAdM E 0 0), .int x] : List Value).toArray (Cond.code yX8_end cX8_end 2 (some .int) :: mv_ws) RX8 := ⟨hx, hb, hml, findClass_of_methodNamed B.named, atoms_spec (ws := Cond.code yX8_end cX8_end 2 (some .int) :: mv_ws) B.pre⟩
  have hS : va_S A s.heap s.heap [] := va_S.rf
  have hlen := hts.2.1
  have hl := lv_entry ([.ref (mAdM E 0 0), .int x]) (n := 2) (Nat.le_of_ble_eq_true rfl)
  rw [lg_entry_eq]
  generalize (lg_sl ([.ref (mAdM E 0 0), .int x]) ++ List.replicate (2 - (lg_sl ([.ref (mAdM E 0 0), .int x])).length) Slot.unset).toArray = ls at hl ⊢
  have hl : lv_has ls 2 [(0, .ref (mAdM E 0 0)), (1, .int x)] := hl
  refine lv_iload_n hx hb dX8_end_0 rfl (lv_at hl 1 rfl) ?_
  refine lv_if_lt (tgt := 12) hx hb dX8_end_1 (by decide) (fun h1 => ?_) (fun h1 => ?_)
  · skip
    refine lv_iconst (v := (-1 : Int32)) hx hb dX8_end_12 (by decide) ?_
    exact mv_reti Cx hr hH hS ((if_neg (fun q => q.1 h1)).symm) (⟨fun q => absurd q (fun q => q.1 h1), fun _ => rfl⟩) dX8_end_13 hlocks
  · skip
    refine lv_iload_n hx hb dX8_end_4 rfl (lv_at hl 1 rfl) ?_
    refine lv_aload_n hx hb dX8_end_5 rfl (lv_at hl 0 rfl) ?_
    refine g_X8_tapeLength Cx hG hH q_fl_X8_137 dX8_end_6 ?_
    refine mv_eqi (x' := nI ts.length) (hts.1) ?_
    refine lv_icmp_le (tgt := 14) hx hb dX8_end_9 (by decide) (fun h9 => ?_) (fun h9 => ?_)
    · skip
      obtain ⟨n, hn, hxn⟩ := nI_of_le (by omega) h1 h9
      refine lv_aload_n hx hb dX8_end_14 rfl (lv_at hl 0 rfl) ?_
      refine lv_iload_n hx hb dX8_end_15 rfl (lv_at hl 1 rfl) ?_
      refine p_X8_tapeLength Cx hG hO hH hS q_fl_X8_137 dX8_end_16 (fun H locs hH hS => ?_)
      refine lv_iload_n hx hb dX8_end_19 rfl (lv_at hl 1 rfl) ?_
      exact mv_reti Cx hr hH hS ((if_pos ⟨h1, h9⟩).symm) (⟨fun _ => ⟨by rw [hxn, nI_clamp (by omega)]; exact hts.cut hn, nSame.M (Or.inl ⟨rfl, rfl⟩)⟩, fun q => absurd ⟨h1, h9⟩ q⟩) dX8_end_20 hlocks
    · skip
      refine lv_iconst (v := (-1 : Int32)) hx hb dX8_end_12 (by decide) ?_
      exact mv_reti Cx hr hH hS ((if_neg (fun q => h9 q.2)).symm) (⟨fun q => absurd q (fun q => h9 q.2), fun _ => rfl⟩) dX8_end_13 hlocks

set_option maxHeartbeats 4000000 in
set_option maxRecDepth 100000 in
theorem c_X8_octet (l : Launch) (E : mEv) (A : Nat → Prop) (hO : mOwn mLM E A) (S : mSt) (x : Int32) (os : List Int8) (hos : nHas 3 512 S os) : Met l yX8_octet (Cond.code yX8_octet cX8_octet 2 (some .int) :: mv_ws) (mRm 0 0) (mPc mLM E A S [.ref (mAdM E 0 0), .int x]) (mQ mLM E A (fun S' => S' = S) (some (.int (if x = -1 then nI os.length else if x < 0 then -2 else if x < nI os.length then (os.getD x.toNatClampNeg 0).toInt32 &&& 255 else -2)))) 0 0 A := by
  refine Met.ofW (cc := cX8_octet) (maxL := 2) (ret := (some .int)) (by decide) rfl ?_
  intro p e s m args below meth c s₁ B hml hv
  obtain ⟨rfl, hG, hH⟩ := hv
  have hx := B.exec
  have hb := B.bytes
  have hr := B.returns
  have hlocks := B.notSynchronized
  have Cx : CallFix p m c cX8_octet 2 s ([.ref (mAdM E 0 0), .int x] : List Value).toArray (Cond.code yX8_octet cX8_octet 2 (some .int) :: mv_ws) RX8 := ⟨hx, hb, hml, findClass_of_methodNamed B.named, atoms_spec (ws := Cond.code yX8_octet cX8_octet 2 (some .int) :: mv_ws) B.pre⟩
  have hS : va_S A s.heap s.heap [] := va_S.rf
  have hol := hos.2.1
  have hl := lv_entry ([.ref (mAdM E 0 0), .int x]) (n := 2) (Nat.le_of_ble_eq_true rfl)
  rw [lg_entry_eq]
  generalize (lg_sl ([.ref (mAdM E 0 0), .int x]) ++ List.replicate (2 - (lg_sl ([.ref (mAdM E 0 0), .int x])).length) Slot.unset).toArray = ls at hl ⊢
  have hl : lv_has ls 2 [(0, .ref (mAdM E 0 0)), (1, .int x)] := hl
  refine lv_iload_n hx hb dX8_octet_0 rfl (lv_at hl 1 rfl) ?_
  refine lv_iconst (v := (-1 : Int32)) hx hb dX8_octet_1 (by decide) ?_
  refine lv_icmp_ne (tgt := 10) hx hb dX8_octet_2 (by decide) (fun h2 => ?_) (fun h2 => ?_)
  · skip
    refine lv_iload_n hx hb dX8_octet_10 rfl (lv_at hl 1 rfl) ?_
    refine lv_if_lt (tgt := 22) hx hb dX8_octet_11 (by decide) (fun h11 => ?_) (fun h11 => ?_)
    · skip
      refine lv_bipush (v := (-2 : Int32)) hx hb dX8_octet_22 (by decide) ?_
      refine lv_goto (tgt := 37) hx hb dX8_octet_24 (by decide) ?_
      exact mv_reti Cx hr hH hS (by rw [if_neg h2, if_pos h11]) (rfl) dX8_octet_37 hlocks
    · skip
      refine lv_iload_n hx hb dX8_octet_14 rfl (lv_at hl 1 rfl) ?_
      refine lv_aload_n hx hb dX8_octet_15 rfl (lv_at hl 0 rfl) ?_
      refine g_X8_outCount Cx hG hH q_fl_X8_143 dX8_octet_16 ?_
      refine mv_eqi (x' := nI os.length) (hos.1) ?_
      refine lv_icmp_lt (tgt := 27) hx hb dX8_octet_19 (by decide) (fun h19 => ?_) (fun h19 => ?_)
      · skip
        obtain ⟨n, hn, hxn⟩ := nI_of_lt (by omega) h11 h19
        refine lv_aload_n hx hb dX8_octet_27 rfl (lv_at hl 0 rfl) ?_
        refine g_X8_out Cx hG hH q_fl_X8_13 dX8_octet_28 ?_
        refine lv_iload_n hx hb dX8_octet_31 rfl (lv_at hl 1 rfl) ?_
        refine mv_bal Cx hG hH isM_3 n (hxn) (by omega) dX8_octet_32 ?_
        refine mv_eqi (x' := (os.getD x.toNatClampNeg 0).toInt32) (by rw [hos.2.2 n hn, hxn, nI_clamp (by omega)]) ?_
        refine lv_sipush (v := 255) hx hb dX8_octet_33 (by decide) ?_
        refine lv_iand hx hb dX8_octet_36 ?_
        exact mv_reti Cx hr hH hS (by rw [if_neg h2, if_neg h11, if_pos h19]) (rfl) dX8_octet_37 hlocks
      · skip
        refine lv_bipush (v := (-2 : Int32)) hx hb dX8_octet_22 (by decide) ?_
        refine lv_goto (tgt := 37) hx hb dX8_octet_24 (by decide) ?_
        exact mv_reti Cx hr hH hS (by rw [if_neg h2, if_neg h11, if_neg h19]) (rfl) dX8_octet_37 hlocks
  · skip
    refine lv_aload_n hx hb dX8_octet_5 rfl (lv_at hl 0 rfl) ?_
    refine g_X8_outCount Cx hG hH q_fl_X8_143 dX8_octet_6 ?_
    refine mv_eqi (x' := nI os.length) (hos.1) ?_
    exact mv_reti Cx hr hH hS ((if_pos h2).symm) (rfl) dX8_octet_9 hlocks

set_option maxHeartbeats 4000000 in
set_option maxRecDepth 100000 in
theorem c_X8_back (l : Launch) (E : mEv) (A : Nat → Prop) (hO : mOwn mLM E A) (S : mSt) (ts : List Int8) (hts : nHas 1 400 S ts) (os : List Int8) (hos : nHas 3 512 S os) : Met l yX8_back (Cond.code yX8_back cX8_back 2 (some .int) :: mv_ws) (mRm 0 0) (mPc mLM E A S [.ref (mAdM E 0 0)]) (mQ mLM E A (fun S' => (ts.length + os.length ≤ 400 → nHas 1 400 S' (ts ++ os) ∧ nSame (nX 1) S S') ∧ (¬ ts.length + os.length ≤ 400 → S' = S)) (some (.int (if ts.length + os.length ≤ 400 then nI (ts.length + os.length) else -3)))) 0 0 A := by
  refine Met.ofW (cc := cX8_back) (maxL := 2) (ret := (some .int)) (by decide) rfl ?_
  intro p e s m args below meth c s₁ B hml hv
  obtain ⟨rfl, hG, hH⟩ := hv
  have hx := B.exec
  have hb := B.bytes
  have hr := B.returns
  have hlocks := B.notSynchronized
  have Cx : CallFix p m c cX8_back 2 s ([.ref (mAdM E 0 0)] : List Value).toArray (Cond.code yX8_back cX8_back 2 (some .int) :: mv_ws) RX8 := ⟨hx, hb, hml, findClass_of_methodNamed B.named, atoms_spec (ws := Cond.code yX8_back cX8_back 2 (some .int) :: mv_ws) B.pre⟩
  have hS : va_S A s.heap s.heap [] := va_S.rf
  have hlen := hts.2.1
  have hol := hos.2.1
  have hl := lv_entry ([.ref (mAdM E 0 0)]) (n := 2) (Nat.le_of_ble_eq_true rfl)
  rw [lg_entry_eq]
  generalize (lg_sl ([.ref (mAdM E 0 0)]) ++ List.replicate (2 - (lg_sl ([.ref (mAdM E 0 0)])).length) Slot.unset).toArray = ls at hl ⊢
  have hl : lv_has ls 2 [(0, .ref (mAdM E 0 0))] := hl
  refine lv_aload_n hx hb dX8_back_0 rfl (lv_at hl 0 rfl) ?_
  refine g_X8_tapeLength Cx hG hH q_fl_X8_137 dX8_back_1 ?_
  refine mv_eqi (x' := nI ts.length) (hts.1) ?_
  refine lv_aload_n hx hb dX8_back_4 rfl (lv_at hl 0 rfl) ?_
  refine g_X8_outCount Cx hG hH q_fl_X8_143 dX8_back_5 ?_
  refine mv_eqi (x' := nI os.length) (hos.1) ?_
  refine lv_iadd hx hb dX8_back_8 ?_
  refine mv_eqi (x' := nI (ts.length + os.length)) (nI_add _ _) ?_
  refine lv_sipush (v := 400) hx hb dX8_back_9 (by decide) ?_
  refine lv_icmp_le (tgt := 18) hx hb dX8_back_12 (by decide) (fun h12 => ?_) (fun h12 => ?_)
  · skip
    have hroom : ts.length + os.length ≤ 400 := ge_of (a := ts.length + os.length) (b := 400) (by omega) (by decide) h12
    refine lv_iconst (v := 0) hx hb dX8_back_18 (by decide) ?_
    refine mv_eqi (x' := nI 0) (rfl) ?_
    refine lv_istore_n (lv' := [(1, .int (nI 0)), (0, .ref (mAdM E 0 0))]) hx hb dX8_back_19 rfl hl (by decide) rfl (fun ls hl => ?_)
    have lp : ∀ (fu j : Nat) (S1 : mSt) (H : Heap) (locs : List Loc) (ls : Array Slot) , os.length - j < fu → j ≤ os.length → (S1.1 0 0 1 = S.1 0 0 1 ∧ S1.1 0 0 3 = S.1 0 0 3 ∧ (∀ q, q < j → S1.2.1 1 0 (ts.length + q) = os.getD q 0) ∧ nSame (fun k q => k = 1 ∧ ts.length ≤ q) S S1) → mHold mLM E S1 H → va_S A s.heap H locs → lv_has ls 2 [(0, .ref (mAdM E 0 0)), (1, .int (nI j))] → W p l e (headSpec (Cond.code yX8_back cX8_back 2 (some .int) :: mv_ws) (mRm 0 0)).room s m ([.ref (mAdM E 0 0)] : List Value).toArray below meth c H locs 0 0 (MQ below (mQ mLM E A (fun S' => (ts.length + os.length ≤ 400 → nHas 1 400 S' (ts ++ os) ∧ nSame (nX 1) S S') ∧ (¬ ts.length + os.length ≤ 400 → S' = S)) (some (.int (if ts.length + os.length ≤ 400 then nI (ts.length + os.length) else -3)))) ([.ref (mAdM E 0 0)] : List Value).toArray s 0 0 A) (F0 m 20 ls []) := by
      intro fu
      induction fu with
      | zero => intro j S1 H locs ls  hn hj hinv hH hS hl; omega
      | succ fu ih =>
        intro j S1 H locs ls  hn hj hinv hH hS hl
        refine lv_iload_n hx hb dX8_back_20 rfl (lv_at hl 1 rfl) ?_
        refine lv_aload_n hx hb dX8_back_21 rfl (lv_at hl 0 rfl) ?_
        refine g_X8_outCount Cx hG hH q_fl_X8_143 dX8_back_22 ?_
        refine mv_eqi (x' := nI os.length) ((hinv.2.1).trans hos.1) ?_
        refine lv_icmp_ge (tgt := 51) hx hb dX8_back_25 (by decide) (fun h25 => ?_) (fun h25 => ?_)
        · skip
          have hjn : j = os.length := by have := ge_of (a := os.length) (b := j) (by omega) (by omega) h25; omega
          rw [hjn] at hinv
          refine lv_aload_n hx hb dX8_back_51 rfl (lv_at hl 0 rfl) ?_
          refine lv_dup hx hb dX8_back_52 rfl ?_
          refine g_X8_tapeLength Cx hG hH q_fl_X8_137 dX8_back_53 ?_
          refine mv_eqi (x' := nI ts.length) (hinv.1.trans hts.1) ?_
          refine lv_aload_n hx hb dX8_back_56 rfl (lv_at hl 0 rfl) ?_
          refine g_X8_outCount Cx hG hH q_fl_X8_143 dX8_back_57 ?_
          refine mv_eqi (x' := nI os.length) ((hinv.2.1).trans hos.1) ?_
          refine lv_iadd hx hb dX8_back_60 ?_
          refine mv_eqi (x' := nI (ts.length + os.length)) (nI_add _ _) ?_
          refine p_X8_tapeLength Cx hG hO hH hS q_fl_X8_137 dX8_back_61 (fun H locs hH hS => ?_)
          refine lv_aload_n hx hb dX8_back_64 rfl (lv_at hl 0 rfl) ?_
          refine g_X8_tapeLength Cx hG hH q_fl_X8_137 dX8_back_65 ?_
          refine mv_eqi (x' := nI (ts.length + os.length)) (by simp [mM, m3]) ?_
          exact mv_reti Cx hr hH hS ((if_pos hroom).symm) (⟨fun _ => ⟨⟨by rw [List.length_append]; simp [mM, m3], by rw [List.length_append]; omega, fun q hq => by rw [List.length_append] at hq; show S1.2.1 1 0 q = _; (by_cases e : q < ts.length); (rw [(hinv.2.2.2 1 q (by omega)).2.1, hts.2.2 q e]; simp [List.getD_eq_getElem?_getD, List.getElem?_append_left e]); (have h := hinv.2.2.1 (q - ts.length) (by omega); rw [show ts.length + (q - ts.length) = q by omega] at h; rw [h]; simp [List.getD_eq_getElem?_getD, List.getElem?_append_right (Nat.not_lt.mp e)])⟩, (hinv.2.2.2.wk (fun k q h => Or.inr h.1)).tr (nSame.M (Or.inl ⟨rfl, rfl⟩))⟩, fun q => absurd hroom q⟩) dX8_back_68 hlocks
        · skip
          have hjn : j < os.length := lt_of (a := os.length) (b := j) (by omega) (by omega) h25
          refine lv_aload_n hx hb dX8_back_28 rfl (lv_at hl 0 rfl) ?_
          refine g_X8_tape Cx hG hH q_fl_X8_9 dX8_back_29 ?_
          refine lv_aload_n hx hb dX8_back_32 rfl (lv_at hl 0 rfl) ?_
          refine g_X8_tapeLength Cx hG hH q_fl_X8_137 dX8_back_33 ?_
          refine mv_eqi (x' := nI ts.length) (hinv.1.trans hts.1) ?_
          refine lv_iload_n hx hb dX8_back_36 rfl (lv_at hl 1 rfl) ?_
          refine lv_iadd hx hb dX8_back_37 ?_
          refine mv_eqi (x' := nI (ts.length + j)) (nI_add _ _) ?_
          refine lv_aload_n hx hb dX8_back_38 rfl (lv_at hl 0 rfl) ?_
          refine g_X8_out Cx hG hH q_fl_X8_13 dX8_back_39 ?_
          refine lv_iload_n hx hb dX8_back_42 rfl (lv_at hl 1 rfl) ?_
          refine mv_bal Cx hG hH isM_3 j (rfl) (by omega) dX8_back_43 ?_
          refine mv_bas8 Cx hG hO hH hS isM_1 (ts.length + j) (S1.2.1 3 0 j) rfl (rfl) (by omega) dX8_back_44 (fun H locs hH hS => ?_)
          refine lv_iinc (v := nI (j + 1)) (lv' := [(1, .int (nI (j + 1))), (0, .ref (mAdM E 0 0))]) hx hb dX8_back_45 hl (k := 1) rfl (i2_1 j) (by decide) rfl (fun ls hl => ?_)
          refine lv_goto (tgt := 20) hx hb dX8_back_48 (by decide) ?_
          exact ih (j + 1) (mB S1 1 0 (ts.length + j) (S1.2.1 3 0 j)) _ _ ls  (by omega) (by omega) (⟨hinv.1, hinv.2.1, fun q hq => by by_cases e : q = j; (subst e; exact (show m3 S1.2.1 1 0 (ts.length + q) _ 1 0 (ts.length + q) = _ by simp [m3]).trans ((hinv.2.2.2 3 q (by omega)).2.1.trans (hos.2.2 q (by omega)))); (exact (show m3 S1.2.1 1 0 (ts.length + j) _ 1 0 (ts.length + q) = _ from m3_n _ _ (by omega)).trans (hinv.2.2.1 q (by omega))), hinv.2.2.2.tr (nSame.B (X := fun k q => k = 1 ∧ ts.length ≤ q) ⟨rfl, by omega⟩)⟩) hH hS (lv_sub hl [1, 0] rfl)
    exact lp (os.length - 0 + 1) 0 S _ _ ls  (by omega) (by omega) (⟨rfl, rfl, fun q h => absurd h (Nat.not_lt_zero _), nSame.rf⟩) hH hS (lv_sub hl [1, 0] rfl)
  · skip
    have hroom : ¬ ts.length + os.length ≤ 400 := fun q => h12 ((nI_leI (b := 400) (by omega) (by decide)).mpr q)
    refine lv_bipush (v := (-3 : Int32)) hx hb dX8_back_15 (by decide) ?_
    exact mv_reti Cx hr hH hS ((if_neg hroom).symm) (⟨fun q => absurd q hroom, fun _ => rfl⟩) dX8_back_17 hlocks

set_option maxHeartbeats 4000000 in
set_option maxRecDepth 100000 in
theorem c_X8_hash (l : Launch) (E : mEv) (A : Nat → Prop) (hO : mOwn mLM E A) (S : mSt) (ts : List Int8) (hts : nHas 1 400 S ts) : Met l yX8_hash (Cond.code yX8_hash cX8_hash 1 (some .int) :: mv_ws) (mRm 4 112) (mPc mLM E A S [.ref (mAdM E 0 0)]) (mQ mLM E A (fun S' => nHas 1 400 S' [] ∧ nHas 3 512 S' (mTk (shaL ts) 32) ∧ nSame (fun k j => scM k j ∨ nX 1 k j ∨ nX 3 k j) S S') (some (.int 32))) 0 0 A := by
  refine Met.ofW (cc := cX8_hash) (maxL := 1) (ret := (some .int)) (by decide) rfl ?_
  intro p e s m args below meth c s₁ B hml hv
  obtain ⟨rfl, hG, hH⟩ := hv
  have hx := B.exec
  have hb := B.bytes
  have hr := B.returns
  have hlocks := B.notSynchronized
  have Cx : CallFix p m c cX8_hash 1 s ([.ref (mAdM E 0 0)] : List Value).toArray (Cond.code yX8_hash cX8_hash 1 (some .int) :: mv_ws) RX8 := ⟨hx, hb, hml, findClass_of_methodNamed B.named, atoms_spec (ws := Cond.code yX8_hash cX8_hash 1 (some .int) :: mv_ws) B.pre⟩
  have hS : va_S A s.heap s.heap [] := va_S.rf
  have hl := lv_entry ([.ref (mAdM E 0 0)]) (n := 1) (Nat.le_of_ble_eq_true rfl)
  rw [lg_entry_eq]
  generalize (lg_sl ([.ref (mAdM E 0 0)]) ++ List.replicate (1 - (lg_sl ([.ref (mAdM E 0 0)])).length) Slot.unset).toArray = ls at hl ⊢
  have hl : lv_has ls 1 [(0, .ref (mAdM E 0 0))] := hl
  refine lv_aload_n hx hb dX8_hash_0 rfl (lv_at hl 0 rfl) ?_
  refine lv_aload_n hx hb dX8_hash_1 rfl (lv_at hl 0 rfl) ?_
  refine g_X8_out Cx hG hH q_fl_X8_13 dX8_hash_2 ?_
  refine lv_iconst (v := 0) hx hb dX8_hash_5 (by decide) ?_
  refine mv_eqi (x' := nI 0) (rfl) ?_
  refine mv_callV (Y := mLM) (C := RX8) (k := 0) (i := 0) (rest := []) Cx hG hH hS (c_X8_tapeHash l E A hO S 3 512 isM_3 (by decide) 0 (by decide) ts hts) q_co_X8_tapeHash q_ml_X8_146 q_im_X8_tapeHash q_se_X8_tapeHash q_in_X8 okM_0 rfl rfl hd_X8_tapeHash ⟨Nat.le_of_ble_eq_true rfl, Nat.le_of_ble_eq_true rfl⟩ rfl hl.1 rfl (Nat.le_of_ble_eq_true rfl) ⟨Nat.le_of_ble_eq_true rfl, Nat.le_of_ble_eq_true rfl⟩ dX8_hash_6 (fun S6 H locs hP6 hH hS => ?_)
  refine W.eq (g2 := F0 m 9 ls []) rfl ?_
  refine lv_aload_n hx hb dX8_hash_9 rfl (lv_at hl 0 rfl) ?_
  refine lv_iconst (v := 0) hx hb dX8_hash_10 (by decide) ?_
  refine p_X8_tapeLength Cx hG hO hH hS q_fl_X8_137 dX8_hash_11 (fun H locs hH hS => ?_)
  refine lv_aload_n hx hb dX8_hash_14 rfl (lv_at hl 0 rfl) ?_
  refine mv_callV (Y := mLM) (C := RX8) (k := 0) (i := 0) (rest := []) Cx hG hH hS (c_X8_told l E A hO (mM S6 0 0 1 0)) q_co_X8_told q_ml_X8_149 q_im_X8_told q_se_X8_told q_in_X8 okM_0 rfl rfl hd_X8_told ⟨Nat.le_of_ble_eq_true rfl, Nat.le_of_ble_eq_true rfl⟩ rfl hl.1 rfl (Nat.le_of_ble_eq_true rfl) ⟨Nat.le_of_ble_eq_true rfl, Nat.le_of_ble_eq_true rfl⟩ dX8_hash_15 (fun S15 H locs hP15 hH hS => ?_)
  refine W.eq (g2 := F0 m 18 ls [.int 32]) rfl ?_
  exact mv_reti Cx hr hH hS (rfl) (by subst hP15; exact ⟨⟨by simp [mM, m3]; exact nI_0.symm, Nat.zero_le _, fun j h => absurd h (Nat.not_lt_zero _)⟩, nHas.of (by simp [mM, m3]; rfl) (by decide) (fun q hq => by have h := hP6.1 q hq; rw [Nat.zero_add] at h; exact h), ((hP6.2.wk (fun k j h => by simp only [scM, nX, hX] at h ⊢; omega)).tr (nSame.M (by simp [scM, nX, hX]))).tr (nSame.M (by simp [scM, nX, hX]))⟩) dX8_hash_18 hlocks

set_option maxHeartbeats 4000000 in
set_option maxRecDepth 100000 in
theorem c_X8_key (l : Launch) (E : mEv) (A : Nat → Prop) (hO : mOwn mLM E A) (S : mSt) (ts : List Int8) (hts : nHas 1 400 S ts) : Met l yX8_key (Cond.code yX8_key cX8_key 1 (some .int) :: mv_ws) (mRm 4 112) (mPc mLM E A S [.ref (mAdM E 0 0)]) (mQ mLM E A (fun S' => nHas 1 400 S' [] ∧ (∀ j, j < 32 → S'.2.1 14 0 j = shaL ts j) ∧ nSame (fun k j => scM k j ∨ nX 1 k j ∨ k = 14) S S') (some (.int 0))) 0 0 A := by
  refine Met.ofW (cc := cX8_key) (maxL := 1) (ret := (some .int)) (by decide) rfl ?_
  intro p e s m args below meth c s₁ B hml hv
  obtain ⟨rfl, hG, hH⟩ := hv
  have hx := B.exec
  have hb := B.bytes
  have hr := B.returns
  have hlocks := B.notSynchronized
  have Cx : CallFix p m c cX8_key 1 s ([.ref (mAdM E 0 0)] : List Value).toArray (Cond.code yX8_key cX8_key 1 (some .int) :: mv_ws) RX8 := ⟨hx, hb, hml, findClass_of_methodNamed B.named, atoms_spec (ws := Cond.code yX8_key cX8_key 1 (some .int) :: mv_ws) B.pre⟩
  have hS : va_S A s.heap s.heap [] := va_S.rf
  have hl := lv_entry ([.ref (mAdM E 0 0)]) (n := 1) (Nat.le_of_ble_eq_true rfl)
  rw [lg_entry_eq]
  generalize (lg_sl ([.ref (mAdM E 0 0)]) ++ List.replicate (1 - (lg_sl ([.ref (mAdM E 0 0)])).length) Slot.unset).toArray = ls at hl ⊢
  have hl : lv_has ls 1 [(0, .ref (mAdM E 0 0))] := hl
  refine lv_aload_n hx hb dX8_key_0 rfl (lv_at hl 0 rfl) ?_
  refine lv_aload_n hx hb dX8_key_1 rfl (lv_at hl 0 rfl) ?_
  refine g_X8_keyNow Cx hG hH q_fl_X8_38 dX8_key_2 ?_
  refine lv_iconst (v := 0) hx hb dX8_key_5 (by decide) ?_
  refine mv_eqi (x' := nI 0) (rfl) ?_
  refine mv_callV (Y := mLM) (C := RX8) (k := 0) (i := 0) (rest := []) Cx hG hH hS (c_X8_tapeHash l E A hO S 14 32 isM_14 (by decide) 0 (by decide) ts hts) q_co_X8_tapeHash q_ml_X8_146 q_im_X8_tapeHash q_se_X8_tapeHash q_in_X8 okM_0 rfl rfl hd_X8_tapeHash ⟨Nat.le_of_ble_eq_true rfl, Nat.le_of_ble_eq_true rfl⟩ rfl hl.1 rfl (Nat.le_of_ble_eq_true rfl) ⟨Nat.le_of_ble_eq_true rfl, Nat.le_of_ble_eq_true rfl⟩ dX8_key_6 (fun S6 H locs hP6 hH hS => ?_)
  refine W.eq (g2 := F0 m 9 ls []) rfl ?_
  refine lv_aload_n hx hb dX8_key_9 rfl (lv_at hl 0 rfl) ?_
  refine lv_iconst (v := 0) hx hb dX8_key_10 (by decide) ?_
  refine p_X8_tapeLength Cx hG hO hH hS q_fl_X8_137 dX8_key_11 (fun H locs hH hS => ?_)
  refine lv_iconst (v := 0) hx hb dX8_key_14 (by decide) ?_
  exact mv_reti Cx hr hH hS (rfl) (⟨⟨by simp [mM, m3]; exact nI_0.symm, Nat.zero_le _, fun j h => absurd h (Nat.not_lt_zero _)⟩, fun q hq => by have h := hP6.1 q hq; rw [Nat.zero_add] at h; exact h, (hP6.2.wk (fun k j h => by simp only [scM, nX, hX] at h ⊢; omega)).tr (nSame.M (by simp [scM, nX, hX]))⟩) dX8_key_15 hlocks

set_option maxHeartbeats 4000000 in
set_option maxRecDepth 100000 in
theorem c_X8_state (l : Launch) (E : mEv) (A : Nat → Prop) (hO : mOwn mLM E A) (S : mSt) (x : Int32) : Met l yX8_state (Cond.code yX8_state cX8_state 2 (some .int) :: mv_ws) (mRm 4 114) (mPc mLM E A S [.ref (mAdM E 0 0), .int x]) (mQ mLM E A (fun S' => nHas 3 512 S' (mTk (shaL (regL (S.2.1 16 0) x 8)) 32) ∧ nSame (fun k j => scM k j ∨ nX 3 k j) S S') (some (.int 32))) 0 0 A := by
  refine Met.ofW (cc := cX8_state) (maxL := 2) (ret := (some .int)) (by decide) rfl ?_
  intro p e s m args below meth c s₁ B hml hv
  obtain ⟨rfl, hG, hH⟩ := hv
  have hx := B.exec
  have hb := B.bytes
  have hr := B.returns
  have hlocks := B.notSynchronized
  have Cx : CallFix p m c cX8_state 2 s ([.ref (mAdM E 0 0), .int x] : List Value).toArray (Cond.code yX8_state cX8_state 2 (some .int) :: mv_ws) RX8 := ⟨hx, hb, hml, findClass_of_methodNamed B.named, atoms_spec (ws := Cond.code yX8_state cX8_state 2 (some .int) :: mv_ws) B.pre⟩
  have hS : va_S A s.heap s.heap [] := va_S.rf
  have hl := lv_entry ([.ref (mAdM E 0 0), .int x]) (n := 2) (Nat.le_of_ble_eq_true rfl)
  rw [lg_entry_eq]
  generalize (lg_sl ([.ref (mAdM E 0 0), .int x]) ++ List.replicate (2 - (lg_sl ([.ref (mAdM E 0 0), .int x])).length) Slot.unset).toArray = ls at hl ⊢
  have hl : lv_has ls 2 [(0, .ref (mAdM E 0 0)), (1, .int x)] := hl
  refine lv_aload_n hx hb dX8_state_0 rfl (lv_at hl 0 rfl) ?_
  refine lv_iload_n hx hb dX8_state_1 rfl (lv_at hl 1 rfl) ?_
  refine lv_aload_n hx hb dX8_state_2 rfl (lv_at hl 0 rfl) ?_
  refine g_X8_out Cx hG hH q_fl_X8_13 dX8_state_3 ?_
  refine lv_iconst (v := 0) hx hb dX8_state_6 (by decide) ?_
  refine mv_eqi (x' := nI 0) (rfl) ?_
  refine mv_callV (Y := mLM) (C := RX8) (k := 0) (i := 0) (rest := []) Cx hG hH hS (c_X8_stateTo l E A hO S x 3 512 isM_3 (by decide) 0 (by decide)) q_co_X8_stateTo q_ml_X8_156 q_im_X8_stateTo q_se_X8_stateTo q_in_X8 okM_0 rfl rfl hd_X8_stateTo ⟨Nat.le_of_ble_eq_true rfl, Nat.le_of_ble_eq_true rfl⟩ rfl hl.1 rfl (Nat.le_of_ble_eq_true rfl) ⟨Nat.le_of_ble_eq_true rfl, Nat.le_of_ble_eq_true rfl⟩ dX8_state_7 (fun S7 H locs hP7 hH hS => ?_)
  refine W.eq (g2 := F0 m 10 ls []) rfl ?_
  refine lv_aload_n hx hb dX8_state_10 rfl (lv_at hl 0 rfl) ?_
  refine mv_callV (Y := mLM) (C := RX8) (k := 0) (i := 0) (rest := []) Cx hG hH hS (c_X8_told l E A hO S7) q_co_X8_told q_ml_X8_149 q_im_X8_told q_se_X8_told q_in_X8 okM_0 rfl rfl hd_X8_told ⟨Nat.le_of_ble_eq_true rfl, Nat.le_of_ble_eq_true rfl⟩ rfl hl.1 rfl (Nat.le_of_ble_eq_true rfl) ⟨Nat.le_of_ble_eq_true rfl, Nat.le_of_ble_eq_true rfl⟩ dX8_state_11 (fun S11 H locs hP11 hH hS => ?_)
  refine W.eq (g2 := F0 m 14 ls [.int 32]) rfl ?_
  exact mv_reti Cx hr hH hS (rfl) (by subst hP11; exact ⟨nHas.of (by simp [mM, m3]; rfl) (by decide) (fun q hq => by have h := hP7.1 q hq; rw [Nat.zero_add] at h; exact h), (hP7.2.wk (fun k j h => by simp only [scM, nX, hX] at h ⊢; omega)).tr (nSame.M (by simp [scM, nX, hX]))⟩) dX8_state_14 hlocks
