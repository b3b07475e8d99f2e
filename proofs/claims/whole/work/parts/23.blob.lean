/-! ===== blobs made, blobs read ===== -/
theorem bl1_len (seed : Nat → Int8) (N : Int32) (xs : List Int8) : (bl1 seed N xs).length = xs.length := mTk_len _ _
def uwB (seed : Nat → Int8) (ts : List Int8) : Bool := decide (101 ≤ ts.length) && (decide (ts.length ≤ 229) && (uwM seed ts && decide ((uwF seed ts 68).toInt32 &&& 255 = nI (ts.length - 101))))
theorem uwB_iff {seed : Nat → Int8} {ts : List Int8} : uwB seed ts = true ↔ uwOk seed ts := by
  simp only [uwB, uwOk, Bool.and_eq_true, decide_eq_true_eq]
theorem mEq_congr {f f' g g' : Nat → Int8} {a : Nat} (hf : ∀ j, j < 32 → f j = f' j) (hg : ∀ j, a ≤ j → j < a + 32 → g j = g' j) : mEq f g a = mEq f' g' a := by
  rw [Bool.eq_iff_iff, mEq_iff, mEq_iff]
  constructor
  · intro h j hj
    rw [← hf j hj, ← hg (a + j) (by omega) (by omega)]
    exact h j hj
  · intro h j hj
    rw [hf j hj, hg (a + j) (by omega) (by omega)]
    exact h j hj
theorem mLn_0 : mLn 0 = 400 := rfl
theorem mLn_1 : mLn 1 = 229 := rfl
set_option maxHeartbeats 4000000 in
set_option maxRecDepth 100000 in
theorem c_X3_wrap (l : Launch) (E : mEv) (A : Nat → Prop) (hO : mOwn mLC E A) (S : mSt) (kp ip : Nat) (hB : mIsB mLC kp ip 32) (hne : ¬ scX kp ip ∧ ¬ bX 1 kp ip) (ts : List Int8) (hts : bHas S 0 ts) (hle : ts.length ≤ 128) : Met l yX3_wrap (Cond.code yX3_wrap cX3_wrap 5 none :: mv_ws) (mRm 5 114) (mPc mLC E A S [.ref (mAdC E 7 0), .ref (mAdC E 2 0), .ref (mAdC E 11 0), .ref (mAdC E kp ip), .ref (mAdC E 2 1)]) (mQ mLC E A (fun S' => bHas S' 1 (blobL (S.2.1 8 0) (S.1 7 0 4) (S.2.1 kp ip) (S.2.1 11 0) ts) ∧ S'.1 7 0 4 = S.1 7 0 4 + 1 ∧ mSame (fun k i => scX k i ∨ bX 1 k i ∨ k = 7) S S') none) 0 0 A := by
  refine Met.ofW (cc := cX3_wrap) (maxL := 5) (ret := none) (by decide) rfl ?_
  intro p e s m args below meth c s₁ B hml hv
  obtain ⟨rfl, hG, hH⟩ := hv
  have hx := B.exec
  have hb := B.bytes
  have hr := B.returns
  have hlocks := B.notSynchronized
  have Cx : CallFix p m c cX3_wrap 5 s ([.ref (mAdC E 7 0), .ref (mAdC E 2 0), .ref (mAdC E 11 0), .ref (mAdC E kp ip), .ref (mAdC E 2 1)] : List Value).toArray (Cond.code yX3_wrap cX3_wrap 5 none :: mv_ws) RX3 := ⟨hx, hb, hml, findClass_of_methodNamed B.named, atoms_spec (ws := Cond.code yX3_wrap cX3_wrap 5 none :: mv_ws) B.pre⟩
  have hS : va_S A s.heap s.heap [] := va_S.rf
  have hl := lv_entry ([.ref (mAdC E 7 0), .ref (mAdC E 2 0), .ref (mAdC E 11 0), .ref (mAdC E kp ip), .ref (mAdC E 2 1)]) (n := 5) (Nat.le_of_ble_eq_true rfl)
  rw [lg_entry_eq]
  generalize (lg_sl ([.ref (mAdC E 7 0), .ref (mAdC E 2 0), .ref (mAdC E 11 0), .ref (mAdC E kp ip), .ref (mAdC E 2 1)]) ++ List.replicate (5 - (lg_sl ([.ref (mAdC E 7 0), .ref (mAdC E 2 0), .ref (mAdC E 11 0), .ref (mAdC E kp ip), .ref (mAdC E 2 1)])).length) Slot.unset).toArray = ls at hl ⊢
  have hl : lv_has ls 5 [(0, .ref (mAdC E 7 0)), (1, .ref (mAdC E 2 0)), (2, .ref (mAdC E 11 0)), (3, .ref (mAdC E kp ip)), (4, .ref (mAdC E 2 1))] := hl
  refine lv_aload hx hb dX3_wrap_0 (lv_at hl 4 rfl) ?_
  refine lv_iconst (v := 0) hx hb dX3_wrap_2 (by decide) ?_
  refine p_X0_size Cx hG hO hH hS (by decide) q_fl_X3_59 dX3_wrap_3 (fun H locs hH hS => ?_)
  refine lv_aload hx hb dX3_wrap_6 (lv_at hl 4 rfl) ?_
  refine lv_aload_n hx hb dX3_wrap_8 rfl (lv_at hl 0 rfl) ?_
  refine g_X3_blobsMade Cx hG hH q_fl_X3_66 dX3_wrap_9 ?_
  refine mv_eqi (x' := S.1 7 0 4) (by simp [mM, m3]) ?_
  refine mv_callV (Y := mLC) (C := RX0) (k := 2) (i := 1) (rest := []) Cx hG hH hS (c_X0_putInt l E A hO (mM S 2 1 1 0) 1 (by decide) [] bHas.nil (S.1 7 0 4) (by decide)) q_co_X0_putInt q_ml_X3_37 q_im_X0_putInt q_se_X0_putInt q_in_X0 (okC_2 (by decide)) rfl rfl hd_X0_putInt ⟨Nat.le_of_ble_eq_true rfl, Nat.le_of_ble_eq_true rfl⟩ rfl hl.1 rfl (Nat.le_of_ble_eq_true rfl) ⟨Nat.le_of_ble_eq_true rfl, Nat.le_of_ble_eq_true rfl⟩ dX3_wrap_12 (fun S12 H locs hP12 hH hS => ?_)
  refine W.eq (g2 := F0 m 15 ls []) rfl ?_
  refine lv_aload hx hb dX3_wrap_15 (lv_at hl 4 rfl) ?_
  refine lv_aload_n hx hb dX3_wrap_17 rfl (lv_at hl 3 rfl) ?_
  refine lv_bipush (v := 32) hx hb dX3_wrap_18 (by decide) ?_
  refine mv_callV (Y := mLC) (C := RX0) (k := 2) (i := 1) (rest := []) Cx hG hH hS (c_X0_putAll l E A hO S12 1 (by decide) _ hP12.1 kp ip 32 32 hB (by decide) (by rw [List.nil_append, w4_len, mLn_1]; decide)) q_co_X0_putAll q_ml_X3_44 q_im_X0_putAll q_se_X0_putAll q_in_X0 (okC_2 (by decide)) rfl rfl hd_X0_putAll ⟨Nat.le_of_ble_eq_true rfl, Nat.le_of_ble_eq_true rfl⟩ rfl hl.1 rfl (Nat.le_of_ble_eq_true rfl) ⟨Nat.le_of_ble_eq_true rfl, Nat.le_of_ble_eq_true rfl⟩ dX3_wrap_20 (fun S20 H locs hP20 hH hS => ?_)
  refine W.eq (g2 := F0 m 23 ls []) rfl ?_
  refine lv_aload hx hb dX3_wrap_23 (lv_at hl 4 rfl) ?_
  refine lv_aload_n hx hb dX3_wrap_25 rfl (lv_at hl 2 rfl) ?_
  refine lv_bipush (v := 32) hx hb dX3_wrap_26 (by decide) ?_
  refine mv_callV (Y := mLC) (C := RX0) (k := 2) (i := 1) (rest := []) Cx hG hH hS (c_X0_putAll l E A hO S20 1 (by decide) _ hP20.1 11 0 32 32 isC_11 (by decide) (by rw [List.nil_append, List.length_append, w4_len, mTk_len, mLn_1]; decide)) q_co_X0_putAll q_ml_X3_44 q_im_X0_putAll q_se_X0_putAll q_in_X0 (okC_2 (by decide)) rfl rfl hd_X0_putAll ⟨Nat.le_of_ble_eq_true rfl, Nat.le_of_ble_eq_true rfl⟩ rfl hl.1 rfl (Nat.le_of_ble_eq_true rfl) ⟨Nat.le_of_ble_eq_true rfl, Nat.le_of_ble_eq_true rfl⟩ dX3_wrap_28 (fun S28 H locs hP28 hH hS => ?_)
  refine W.eq (g2 := F0 m 31 ls []) rfl ?_
  have s28 : mSame (bX 1) S S28 := (((mSame.M ⟨Or.inl rfl, rfl⟩).tr hP12.2).tr hP20.2).tr hP28.2
  have hts28 : bHas S28 0 ts := hts.keep s28 (by simp [bX]) (by simp [bX])
  refine lv_aload hx hb dX3_wrap_31 (lv_at hl 4 rfl) ?_
  refine lv_aload_n hx hb dX3_wrap_33 rfl (lv_at hl 1 rfl) ?_
  refine g_X0_size Cx hG hH (by decide) q_fl_X3_59 dX3_wrap_34 ?_
  refine mv_eqi (x' := nI ts.length) (hts28.1) ?_
  refine mv_callV (Y := mLC) (C := RX0) (k := 2) (i := 1) (rest := []) Cx hG hH hS (c_X0_put l E A hO S28 1 (by decide) _ hP28.1 (nI ts.length) (by rw [List.nil_append, List.length_append, List.length_append, w4_len, mTk_len, mTk_len, mLn_1]; decide)) q_co_X0_put q_ml_X3_31 q_im_X0_put q_se_X0_put q_in_X0 (okC_2 (by decide)) rfl rfl hd_X0_put ⟨Nat.le_of_ble_eq_true rfl, Nat.le_of_ble_eq_true rfl⟩ rfl hl.1 rfl (Nat.le_of_ble_eq_true rfl) ⟨Nat.le_of_ble_eq_true rfl, Nat.le_of_ble_eq_true rfl⟩ dX3_wrap_37 (fun S37 H locs hP37 hH hS => ?_)
  refine W.eq (g2 := F0 m 40 ls []) rfl ?_
  have hts37 : bHas S37 0 ts := hts28.keep hP37.2 (by simp [bX]) (by simp [bX])
  refine lv_aload hx hb dX3_wrap_40 (lv_at hl 4 rfl) ?_
  refine lv_aload_n hx hb dX3_wrap_42 rfl (lv_at hl 1 rfl) ?_
  refine g_X0_held Cx hG hH (by decide) q_fl_X3_56 dX3_wrap_43 ?_
  refine lv_aload_n hx hb dX3_wrap_46 rfl (lv_at hl 1 rfl) ?_
  refine g_X0_size Cx hG hH (by decide) q_fl_X3_59 dX3_wrap_47 ?_
  refine mv_eqi (x' := nI ts.length) (hts37.1) ?_
  refine mv_callV (Y := mLC) (C := RX0) (k := 2) (i := 1) (rest := []) Cx hG hH hS (c_X0_putAll l E A hO S37 1 (by decide) _ hP37.1 3 0 (mLn 0) ts.length (isC_3 (by decide)) hts.2.1 (by simp only [List.nil_append, List.length_append, List.length_singleton, w4_len, mTk_len, mLn_1]; omega)) q_co_X0_putAll q_ml_X3_44 q_im_X0_putAll q_se_X0_putAll q_in_X0 (okC_2 (by decide)) rfl rfl hd_X0_putAll ⟨Nat.le_of_ble_eq_true rfl, Nat.le_of_ble_eq_true rfl⟩ rfl hl.1 rfl (Nat.le_of_ble_eq_true rfl) ⟨Nat.le_of_ble_eq_true rfl, Nat.le_of_ble_eq_true rfl⟩ dX3_wrap_50 (fun S50 H locs hP50 hH hS => ?_)
  refine W.eq (g2 := F0 m 53 ls []) rfl ?_
  have s50 : mSame (bX 1) S S50 := (s28.tr hP37.2).tr hP50.2
  have hb50 : bHas S50 1 (bl0 (S.1 7 0 4) (S.2.1 kp ip) (S.2.1 11 0) ts) := by
    have h := hP50.1
    rw [List.nil_append, mTk_congr (g := S.2.1 kp ip) (fun j _ => ((hP12.2 kp ip hne.2).2.1 j)), mTk_congr (g := S.2.1 11 0) (fun j _ => ((hP20.2 11 0 (by simp [bX])).2.1 j).trans ((hP12.2 11 0 (by simp [bX])).2.1 j)), mTk_has hts37] at h
    exact h
  refine lv_aload_n hx hb dX3_wrap_53 rfl (lv_at hl 0 rfl) ?_
  refine lv_bipush (v := 69) hx hb dX3_wrap_54 (by decide) ?_
  refine lv_aload_n hx hb dX3_wrap_56 rfl (lv_at hl 0 rfl) ?_
  refine g_X3_blobsMade Cx hG hH q_fl_X3_66 dX3_wrap_57 ?_
  refine mv_eqi (x' := S.1 7 0 4) ((s50 7 0 (by simp [bX])).1 4) ?_
  refine mv_callV (Y := mLC) (C := RX3) (k := 7) (i := 0) (rest := []) Cx hG hH hS (c_X3_derive l E A hO S50 69 (S.1 7 0 4)) q_co_X3_derive q_ml_X3_69 q_im_X3_derive q_se_X3_derive q_in_X3 okC_7 rfl rfl hd_X3_derive ⟨Nat.le_of_ble_eq_true rfl, Nat.le_of_ble_eq_true rfl⟩ rfl hl.1 rfl (Nat.le_of_ble_eq_true rfl) ⟨Nat.le_of_ble_eq_true rfl, Nat.le_of_ble_eq_true rfl⟩ dX3_wrap_60 (fun S60 H locs hP60 hH hS => ?_)
  refine W.eq (g2 := F0 m 63 ls []) rfl ?_
  have hb60 : bHas S60 1 (bl0 (S.1 7 0 4) (S.2.1 kp ip) (S.2.1 11 0) ts) := hb50.keep hP60.2 (by simp [scX, hsX, bX]) (by simp [scX, hsX, bX])
  have hd60 : ∀ j, j < 32 → S60.2.1 9 0 j = macL (S.2.1 8 0) ([(69 : Int32).toInt8] ++ w4 (S.1 7 0 4)) j := fun j hj => (hP60.1 j hj).trans (macL_congr (fun q _ => (s50 8 0 (by simp [bX])).2.1 q) j)
  refine lv_aload_n hx hb dX3_wrap_63 rfl (lv_at hl 0 rfl) ?_
  refine lv_aload hx hb dX3_wrap_64 (lv_at hl 4 rfl) ?_
  refine g_X0_held Cx hG hH (by decide) q_fl_X3_56 dX3_wrap_66 ?_
  refine lv_aload hx hb dX3_wrap_69 (lv_at hl 4 rfl) ?_
  refine g_X0_size Cx hG hH (by decide) q_fl_X3_59 dX3_wrap_71 ?_
  refine mv_eqi (x' := nI (69 + ts.length)) (by rw [← bl0_len (S.1 7 0 4) (S.2.1 kp ip) (S.2.1 11 0) ts]; exact hb60.1) ?_
  refine mv_callV (Y := mLC) (C := RX3) (k := 7) (i := 0) (rest := []) Cx hG hH hS (c_X3_cover l E A hO S60 3 1 (mLn 1) (69 + ts.length) (isC_3 (by decide)) ⟨by simp [hsX, bX], by decide, by decide⟩ (by rw [mLn_1]; omega) (by omega)) q_co_X3_cover q_ml_X3_73 q_im_X3_cover q_se_X3_cover q_in_X3 okC_7 rfl rfl hd_X3_cover ⟨Nat.le_of_ble_eq_true rfl, Nat.le_of_ble_eq_true rfl⟩ rfl hl.1 rfl (Nat.le_of_ble_eq_true rfl) ⟨Nat.le_of_ble_eq_true rfl, Nat.le_of_ble_eq_true rfl⟩ dX3_wrap_74 (fun S74 H locs hP74 hH hS => ?_)
  refine W.eq (g2 := F0 m 77 ls []) rfl ?_
  have hb74 : bHas S74 1 (bl1 (S.2.1 8 0) (S.1 7 0 4) (bl0 (S.1 7 0 4) (S.2.1 kp ip) (S.2.1 11 0) ts)) := by
    have h := bHas.of (S := S74) (i := 1) (n := (bl0 (S.1 7 0 4) (S.2.1 kp ip) (S.2.1 11 0) ts).length) (f := covF (macL (S.2.1 8 0) ([(69 : Int32).toInt8] ++ w4 (S.1 7 0 4))) (fun j => (bl0 (S.1 7 0 4) (S.2.1 kp ip) (S.2.1 11 0) ts).getD j 0) (bl0 (S.1 7 0 4) (S.2.1 kp ip) (S.2.1 11 0) ts).length) (((hP74.2 2 1 (by simp [hsX, bX])).1 1).trans hb60.1) hb60.2.1 (fun j hj => by
      rw [hP74.1 j, ← bl0_len (S.1 7 0 4) (S.2.1 kp ip) (S.2.1 11 0) ts]
      exact covF_congr hd60 (hb60.2.2 j hj))
    exact h
  have s74 : mSame (fun k i => scX k i ∨ bX 1 k i) S S74 := ((s50.wk (fun _ _ h => Or.inr h)).tr (hP60.2.wk (fun _ _ h => Or.inl h))).tr (hP74.2.wk (fun k i h => h.elim (fun z => Or.inl (sc_hs z)) (fun z => z.elim (fun y => by rw [y]; exact Or.inl sc_10) (fun y => Or.inr ⟨Or.inr y.1, y.2⟩))))
  refine lv_aload_n hx hb dX3_wrap_77 rfl (lv_at hl 0 rfl) ?_
  refine lv_bipush (v := 77) hx hb dX3_wrap_78 (by decide) ?_
  refine lv_aload_n hx hb dX3_wrap_80 rfl (lv_at hl 0 rfl) ?_
  refine g_X3_blobsMade Cx hG hH q_fl_X3_66 dX3_wrap_81 ?_
  refine mv_eqi (x' := S.1 7 0 4) ((s74 7 0 (by simp [scX, hsX, bX])).1 4) ?_
  refine mv_callV (Y := mLC) (C := RX3) (k := 7) (i := 0) (rest := []) Cx hG hH hS (c_X3_derive l E A hO S74 77 (S.1 7 0 4)) q_co_X3_derive q_ml_X3_69 q_im_X3_derive q_se_X3_derive q_in_X3 okC_7 rfl rfl hd_X3_derive ⟨Nat.le_of_ble_eq_true rfl, Nat.le_of_ble_eq_true rfl⟩ rfl hl.1 rfl (Nat.le_of_ble_eq_true rfl) ⟨Nat.le_of_ble_eq_true rfl, Nat.le_of_ble_eq_true rfl⟩ dX3_wrap_84 (fun S84 H locs hP84 hH hS => ?_)
  refine W.eq (g2 := F0 m 87 ls []) rfl ?_
  have hb84 : bHas S84 1 (bl1 (S.2.1 8 0) (S.1 7 0 4) (bl0 (S.1 7 0 4) (S.2.1 kp ip) (S.2.1 11 0) ts)) := hb74.keep hP84.2 (by simp [scX, hsX, bX]) (by simp [scX, hsX, bX])
  have hb84s : S84.1 2 1 1 = nI (69 + ts.length) := by have h := hb84.1; rw [bl1_len, bl0_len] at h; exact h
  have hd84 : ∀ j, j < 32 → S84.2.1 9 0 j = macL (S.2.1 8 0) ([(77 : Int32).toInt8] ++ w4 (S.1 7 0 4)) j := fun j hj => (hP84.1 j hj).trans (macL_congr (fun q _ => (s74 8 0 (by simp [scX, hsX, bX])).2.1 q) j)
  refine lv_aload_n hx hb dX3_wrap_87 rfl (lv_at hl 0 rfl) ?_
  refine lv_aload hx hb dX3_wrap_88 (lv_at hl 4 rfl) ?_
  refine g_X0_held Cx hG hH (by decide) q_fl_X3_56 dX3_wrap_90 ?_
  refine lv_aload hx hb dX3_wrap_93 (lv_at hl 4 rfl) ?_
  refine g_X0_size Cx hG hH (by decide) q_fl_X3_59 dX3_wrap_95 ?_
  refine mv_eqi (x' := nI (69 + ts.length)) (hb84s) ?_
  refine mv_callV (Y := mLC) (C := RX3) (k := 7) (i := 0) (rest := []) Cx hG hH hS (c_X3_findMark l E A hO S84 3 1 (mLn 1) (69 + ts.length) (isC_3 (by decide)) (by simp [bX]) (by rw [mLn_1]; omega) (by omega)) q_co_X3_findMark q_ml_X3_63 q_im_X3_findMark q_se_X3_findMark q_in_X3 okC_7 rfl rfl hd_X3_findMark ⟨Nat.le_of_ble_eq_true rfl, Nat.le_of_ble_eq_true rfl⟩ rfl hl.1 rfl (Nat.le_of_ble_eq_true rfl) ⟨Nat.le_of_ble_eq_true rfl, Nat.le_of_ble_eq_true rfl⟩ dX3_wrap_98 (fun S98 H locs hP98 hH hS => ?_)
  refine W.eq (g2 := F0 m 101 ls []) rfl ?_
  have hb98 : bHas S98 1 (bl1 (S.2.1 8 0) (S.1 7 0 4) (bl0 (S.1 7 0 4) (S.2.1 kp ip) (S.2.1 11 0) ts)) := hb84.keep hP98.2 (by simp [mkX, hsX, bX]) (by simp [mkX, hsX, bX])
  have hm98 : ∀ j, j < 32 → S98.2.1 10 0 j = blMk (S.2.1 8 0) (S.1 7 0 4) (bl1 (S.2.1 8 0) (S.1 7 0 4) (bl0 (S.1 7 0 4) (S.2.1 kp ip) (S.2.1 11 0) ts)) j := fun j hj => (hP98.1 j hj).trans ((macL_congr hd84 j).trans (by
    have h := mTk_has hb84
    rw [bl1_len, bl0_len] at h
    rw [h]
    rfl))
  refine lv_aload hx hb dX3_wrap_101 (lv_at hl 4 rfl) ?_
  refine lv_aload_n hx hb dX3_wrap_103 rfl (lv_at hl 0 rfl) ?_
  refine g_X3_mark Cx hG hH q_fl_X3_18 dX3_wrap_104 ?_
  refine lv_bipush (v := 32) hx hb dX3_wrap_107 (by decide) ?_
  refine mv_callV (Y := mLC) (C := RX0) (k := 2) (i := 1) (rest := []) Cx hG hH hS (c_X0_putAll l E A hO S98 1 (by decide) _ hb98 10 0 32 32 isC_10 (by decide) (by rw [bl1_len, bl0_len, mLn_1]; omega)) q_co_X0_putAll q_ml_X3_44 q_im_X0_putAll q_se_X0_putAll q_in_X0 (okC_2 (by decide)) rfl rfl hd_X0_putAll ⟨Nat.le_of_ble_eq_true rfl, Nat.le_of_ble_eq_true rfl⟩ rfl hl.1 rfl (Nat.le_of_ble_eq_true rfl) ⟨Nat.le_of_ble_eq_true rfl, Nat.le_of_ble_eq_true rfl⟩ dX3_wrap_109 (fun S109 H locs hP109 hH hS => ?_)
  refine W.eq (g2 := F0 m 112 ls []) rfl ?_
  have s109 : mSame (fun k i => scX k i ∨ bX 1 k i) S S109 := ((s74.tr (hP84.2.wk (fun _ _ h => Or.inl h))).tr (hP98.2.wk (fun _ _ h => Or.inl (mk_sc h)))).tr (hP109.2.wk (fun _ _ h => Or.inr h))
  refine lv_aload_n hx hb dX3_wrap_112 rfl (lv_at hl 0 rfl) ?_
  refine lv_dup hx hb dX3_wrap_113 rfl ?_
  refine g_X3_blobsMade Cx hG hH q_fl_X3_66 dX3_wrap_114 ?_
  refine mv_eqi (x' := S.1 7 0 4) ((s109 7 0 (by simp [scX, hsX, bX])).1 4) ?_
  refine lv_iconst (v := 1) hx hb dX3_wrap_117 (by decide) ?_
  refine lv_iadd hx hb dX3_wrap_118 ?_
  refine p_X3_blobsMade Cx hG hO hH hS q_fl_X3_66 dX3_wrap_119 (fun H locs hH hS => ?_)
  exact mv_retv Cx hr hH hS (⟨by have h := hP109.1; rw [mTk_congr hm98] at h; exact h.keep (X := fun k _ => k = 7) (mSame.M rfl) (by decide) (by decide), by simp [mM, m3], (s109.wk (fun _ _ h => h.elim Or.inl (fun z => Or.inr (Or.inl z)))).tr (mSame.M (Or.inr (Or.inr rfl)))⟩) dX3_wrap_122 hlocks

set_option maxHeartbeats 4000000 in
set_option maxRecDepth 100000 in
theorem c_X3_unwrap (l : Launch) (E : mEv) (A : Nat → Prop) (hO : mOwn mLC E A) (S : mSt) (ts : List Int8) (hts : bHas S 0 ts) : Met l yX3_unwrap (Cond.code yX3_unwrap cX3_unwrap 5 (some .boolean) :: mv_ws) (mRm 5 114) (mPc mLC E A S [.ref (mAdC E 7 0), .ref (mAdC E 2 0)]) (mQ mLC E A (fun S' => mSame (fun k i => scX k i ∨ bX 0 k i) S S' ∧ (uwB (S.2.1 8 0) ts = true → bHas S' 0 (mTk (uwF (S.2.1 8 0) ts) ts.length))) (some (.int (if uwB (S.2.1 8 0) ts = true then 1 else 0)))) 0 0 A := by
  refine Met.ofW (cc := cX3_unwrap) (maxL := 5) (ret := (some .boolean)) (by decide) rfl ?_
  intro p e s m args below meth c s₁ B hml hv
  obtain ⟨rfl, hG, hH⟩ := hv
  have hx := B.exec
  have hb := B.bytes
  have hr := B.returns
  have hlocks := B.notSynchronized
  have Cx : CallFix p m c cX3_unwrap 5 s ([.ref (mAdC E 7 0), .ref (mAdC E 2 0)] : List Value).toArray (Cond.code yX3_unwrap cX3_unwrap 5 (some .boolean) :: mv_ws) RX3 := ⟨hx, hb, hml, findClass_of_methodNamed B.named, atoms_spec (ws := Cond.code yX3_unwrap cX3_unwrap 5 (some .boolean) :: mv_ws) B.pre⟩
  have hS : va_S A s.heap s.heap [] := va_S.rf
  have hl := lv_entry ([.ref (mAdC E 7 0), .ref (mAdC E 2 0)]) (n := 5) (Nat.le_of_ble_eq_true rfl)
  rw [lg_entry_eq]
  generalize (lg_sl ([.ref (mAdC E 7 0), .ref (mAdC E 2 0)]) ++ List.replicate (5 - (lg_sl ([.ref (mAdC E 7 0), .ref (mAdC E 2 0)])).length) Slot.unset).toArray = ls at hl ⊢
  have hl : lv_has ls 5 [(0, .ref (mAdC E 7 0)), (1, .ref (mAdC E 2 0))] := hl
  refine lv_aload_n hx hb dX3_unwrap_0 rfl (lv_at hl 1 rfl) ?_
  refine g_X0_size Cx hG hH (by decide) q_fl_X3_59 dX3_unwrap_1 ?_
  refine mv_eqi (x' := nI ts.length) (hts.1) ?_
  refine lv_bipush (v := 101) hx hb dX3_unwrap_4 (by decide) ?_
  refine lv_isub hx hb dX3_unwrap_6 ?_
  refine lv_istore_n (lv' := [(2, .int ((nI ts.length) - 101)), (0, .ref (mAdC E 7 0)), (1, .ref (mAdC E 2 0))]) hx hb dX3_unwrap_7 rfl hl (by decide) rfl (fun ls hl => ?_)
  refine lv_iload_n hx hb dX3_unwrap_8 rfl (lv_at hl 0 rfl) ?_
  refine lv_if_lt (tgt := 19) hx hb dX3_unwrap_9 (by decide) (fun h9 => ?_) (fun h9 => ?_)
  · skip
    have hlt : ¬ 101 ≤ ts.length := fun q => by rw [show (101 : Int32) = nI 101 from rfl, pk_sub q] at h9; exact nI_pos (by have := hts.2.1; rw [mLn_0] at this; omega) h9
    refine lv_iconst (v := 0) hx hb dX3_unwrap_19 (by decide) ?_
    exact mv_retz Cx hr hH hS (Or.inl rfl) ((if_neg (fun z => hlt (uwB_iff.mp z).1)).symm) (⟨mSame.rf, fun z => absurd z (fun z => hlt (uwB_iff.mp z).1)⟩) dX3_unwrap_20 hlocks
  · skip
    have hge : 101 ≤ ts.length := Nat.not_lt.mp (fun q => h9 (pk_sneg (b := 101) (by decide) q))
    have hd : nI ts.length - 101 = nI (ts.length - 101) := pk_sub (b := 101) hge
    rw [hd] at hl
    have h69 : (69 : Int32) + nI (ts.length - 101) = nI (ts.length - 32) := by rw [show (69 : Int32) = nI 69 from rfl, nI_add]; congr 1; omega
    refine lv_iload_n hx hb dX3_unwrap_12 rfl (lv_at hl 0 rfl) ?_
    refine lv_sipush (v := 128) hx hb dX3_unwrap_13 (by decide) ?_
    refine lv_icmp_le (tgt := 21) hx hb dX3_unwrap_16 (by decide) (fun h16 => ?_) (fun h16 => ?_)
    · skip
      have hle : ts.length ≤ 229 := by have := ge_of (a := ts.length - 101) (b := 128) (by have := hts.2.1; rw [mLn_0] at this; omega) (by decide) h16; omega
      refine lv_aload_n hx hb dX3_unwrap_21 rfl (lv_at hl 2 rfl) ?_
      refine g_X0_held Cx hG hH (by decide) q_fl_X3_56 dX3_unwrap_22 ?_
      refine lv_astore_n (lv' := [(3, .ref (mAdC E 3 0)), (2, .int (nI (ts.length - 101))), (0, .ref (mAdC E 7 0)), (1, .ref (mAdC E 2 0))]) hx hb dX3_unwrap_25 rfl hl (by decide) rfl (fun ls hl => ?_)
      refine lv_aload_n hx hb dX3_unwrap_26 rfl (lv_at hl 3 rfl) ?_
      refine lv_iconst (v := 0) hx hb dX3_unwrap_27 (by decide) ?_
      refine mv_eqi (x' := nI 0) (rfl) ?_
      refine mv_callV (Y := mLC) (C := RX0) (k := 2) (i := 0) (rest := []) Cx hG hH hS (c_X0_intAt l E A hO S 0 (by decide) 0 (by decide)) q_co_X0_intAt q_ml_X3_76 q_im_X0_intAt q_se_X0_intAt q_in_X0 (okC_2 (by decide)) rfl rfl hd_X0_intAt ⟨Nat.le_of_ble_eq_true rfl, Nat.le_of_ble_eq_true rfl⟩ rfl hl.1 rfl (Nat.le_of_ble_eq_true rfl) ⟨Nat.le_of_ble_eq_true rfl, Nat.le_of_ble_eq_true rfl⟩ dX3_unwrap_28 (fun S28 H locs hP28 hH hS => ?_)
      refine W.eq (g2 := F0 m 31 ls [.int (mW4 (S.2.1 3 0) 0)]) rfl ?_
      have hH := mv_S hP28 hH
      refine mv_eqi (x' := uwN ts) (mW4_congr (fun j _ h2 => hts.2.2 j (by omega))) ?_
      refine lv_istore (lv' := [(4, .int (uwN ts)), (3, .ref (mAdC E 3 0)), (2, .int (nI (ts.length - 101))), (0, .ref (mAdC E 7 0)), (1, .ref (mAdC E 2 0))]) hx hb dX3_unwrap_31 hl (by decide) rfl (fun ls hl => ?_)
      refine lv_aload_n hx hb dX3_unwrap_33 rfl (lv_at hl 3 rfl) ?_
      refine lv_bipush (v := 77) hx hb dX3_unwrap_34 (by decide) ?_
      refine lv_iload hx hb dX3_unwrap_36 (lv_at hl 0 rfl) ?_
      refine mv_callV (Y := mLC) (C := RX3) (k := 7) (i := 0) (rest := []) Cx hG hH hS (c_X3_derive l E A hO S 77 (uwN ts)) q_co_X3_derive q_ml_X3_69 q_im_X3_derive q_se_X3_derive q_in_X3 okC_7 rfl rfl hd_X3_derive ⟨Nat.le_of_ble_eq_true rfl, Nat.le_of_ble_eq_true rfl⟩ rfl hl.1 rfl (Nat.le_of_ble_eq_true rfl) ⟨Nat.le_of_ble_eq_true rfl, Nat.le_of_ble_eq_true rfl⟩ dX3_unwrap_38 (fun S38 H locs hP38 hH hS => ?_)
      refine W.eq (g2 := F0 m 41 ls []) rfl ?_
      refine lv_aload_n hx hb dX3_unwrap_41 rfl (lv_at hl 3 rfl) ?_
      refine lv_aload_n hx hb dX3_unwrap_42 rfl (lv_at hl 1 rfl) ?_
      refine lv_bipush (v := 69) hx hb dX3_unwrap_43 (by decide) ?_
      refine lv_iload_n hx hb dX3_unwrap_45 rfl (lv_at hl 2 rfl) ?_
      refine lv_iadd hx hb dX3_unwrap_46 ?_
      refine mv_eqi (x' := nI (ts.length - 32)) (h69) ?_
      refine mv_callV (Y := mLC) (C := RX3) (k := 7) (i := 0) (rest := []) Cx hG hH hS (c_X3_findMark l E A hO S38 3 0 (mLn 0) (ts.length - 32) (isC_3 (by decide)) (by simp [bX]) (by rw [mLn_0]; omega) (by omega)) q_co_X3_findMark q_ml_X3_63 q_im_X3_findMark q_se_X3_findMark q_in_X3 okC_7 rfl rfl hd_X3_findMark ⟨Nat.le_of_ble_eq_true rfl, Nat.le_of_ble_eq_true rfl⟩ rfl hl.1 rfl (Nat.le_of_ble_eq_true rfl) ⟨Nat.le_of_ble_eq_true rfl, Nat.le_of_ble_eq_true rfl⟩ dX3_unwrap_47 (fun S47 H locs hP47 hH hS => ?_)
      refine W.eq (g2 := F0 m 50 ls []) rfl ?_
      refine lv_aload_n hx hb dX3_unwrap_50 rfl (lv_at hl 3 rfl) ?_
      refine g_X3_mark Cx hG hH q_fl_X3_18 dX3_unwrap_51 ?_
      refine lv_aload_n hx hb dX3_unwrap_54 rfl (lv_at hl 1 rfl) ?_
      refine lv_bipush (v := 69) hx hb dX3_unwrap_55 (by decide) ?_
      refine lv_iload_n hx hb dX3_unwrap_57 rfl (lv_at hl 2 rfl) ?_
      refine lv_iadd hx hb dX3_unwrap_58 ?_
      refine mv_eqi (x' := nI (ts.length - 32)) (h69) ?_
      refine mv_callSN (Y := mLC) (rest := []) Cx hG hH hS (c_X7_sameBytes l E A hO S47 10 0 isC_10 3 0 (mLn 0) (isC_3 (by decide)) (ts.length - 32) (by rw [mLn_0]; omega)) q_co_X7_sameBytes hG.2.1 q_st_X7_sameBytes q_in_X7 hd_X7_sameBytes ⟨Nat.le_of_ble_eq_true rfl, Nat.le_of_ble_eq_true rfl⟩ rfl hl.1 rfl (Nat.le_of_ble_eq_true rfl) ⟨Nat.le_of_ble_eq_true rfl, Nat.le_of_ble_eq_true rfl⟩ dX3_unwrap_59 (fun S59 H locs hP59 hH hS => ?_)
      refine W.eq (g2 := F0 m 62 ls [.int (if mEq (S47.2.1 10 0) (S47.2.1 3 0) (ts.length - 32) = true then 1 else 0)]) rfl ?_
      have hH := mv_S hP59 hH
      have s47 : mSame scX S S47 := hP38.2.tr (hP47.2.wk (fun _ _ h => mk_sc h))
      have hts47 : bHas S47 0 ts := hts.keep s47 (by simp [scX, hsX, bX]) (by simp [scX, hsX, bX])
      have hM : mEq (S47.2.1 10 0) (S47.2.1 3 0) (ts.length - 32) = uwM (S.2.1 8 0) ts := mEq_congr (fun j hj => (hP47.1 j hj).trans ((macL_congr hP38.1 j).trans (by
        rw [mTk_congr (g := fun j => ts.getD j 0) (fun q hq => ((hP38.2 3 0 (by simp [scX, hsX, bX])).2.1 q).trans (hts.2.2 q (by omega)))]
        rfl))) (fun j h1 h2 => hts47.2.2 j (by omega))
      refine lv_if_ne (tgt := 67) hx hb dX3_unwrap_62 (by decide) (fun h62 => ?_) (fun h62 => ?_)
      · skip
        have hMt : uwM (S.2.1 8 0) ts = true := by rw [← hM]; exact Classical.byContradiction (fun q => h62 (if_neg q))
        refine lv_aload_n hx hb dX3_unwrap_67 rfl (lv_at hl 3 rfl) ?_
        refine lv_bipush (v := 69) hx hb dX3_unwrap_68 (by decide) ?_
        refine lv_iload hx hb dX3_unwrap_70 (lv_at hl 0 rfl) ?_
        refine mv_callV (Y := mLC) (C := RX3) (k := 7) (i := 0) (rest := []) Cx hG hH hS (c_X3_derive l E A hO S47 69 (uwN ts)) q_co_X3_derive q_ml_X3_69 q_im_X3_derive q_se_X3_derive q_in_X3 okC_7 rfl rfl hd_X3_derive ⟨Nat.le_of_ble_eq_true rfl, Nat.le_of_ble_eq_true rfl⟩ rfl hl.1 rfl (Nat.le_of_ble_eq_true rfl) ⟨Nat.le_of_ble_eq_true rfl, Nat.le_of_ble_eq_true rfl⟩ dX3_unwrap_72 (fun S72 H locs hP72 hH hS => ?_)
        refine W.eq (g2 := F0 m 75 ls []) rfl ?_
        refine lv_aload_n hx hb dX3_unwrap_75 rfl (lv_at hl 3 rfl) ?_
        refine lv_aload_n hx hb dX3_unwrap_76 rfl (lv_at hl 1 rfl) ?_
        refine lv_bipush (v := 69) hx hb dX3_unwrap_77 (by decide) ?_
        refine lv_iload_n hx hb dX3_unwrap_79 rfl (lv_at hl 2 rfl) ?_
        refine lv_iadd hx hb dX3_unwrap_80 ?_
        refine mv_eqi (x' := nI (ts.length - 32)) (h69) ?_
        refine mv_callV (Y := mLC) (C := RX3) (k := 7) (i := 0) (rest := []) Cx hG hH hS (c_X3_cover l E A hO S72 3 0 (mLn 0) (ts.length - 32) (isC_3 (by decide)) ⟨by simp [hsX, bX], by decide, by decide⟩ (by rw [mLn_0]; omega) (by omega)) q_co_X3_cover q_ml_X3_73 q_im_X3_cover q_se_X3_cover q_in_X3 okC_7 rfl rfl hd_X3_cover ⟨Nat.le_of_ble_eq_true rfl, Nat.le_of_ble_eq_true rfl⟩ rfl hl.1 rfl (Nat.le_of_ble_eq_true rfl) ⟨Nat.le_of_ble_eq_true rfl, Nat.le_of_ble_eq_true rfl⟩ dX3_unwrap_81 (fun S81 H locs hP81 hH hS => ?_)
        refine W.eq (g2 := F0 m 84 ls []) rfl ?_
        have hts72 : bHas S72 0 ts := hts47.keep hP72.2 (by simp [scX, hsX, bX]) (by simp [scX, hsX, bX])
        have hu : ∀ q, q < ts.length → S81.2.1 3 0 q = uwF (S.2.1 8 0) ts q := fun q hq => (hP81.1 q).trans (covF_congr (fun j hj => (hP72.1 j hj).trans (macL_congr (fun r _ => (s47 8 0 (by simp [scX, hsX, bX])).2.1 r) j)) (hts72.2.2 q hq))
        have s81 : mSame (fun k i => scX k i ∨ bX 0 k i) S S81 := ((s47.wk (fun _ _ h => Or.inl h)).tr (hP72.2.wk (fun _ _ h => Or.inl h))).tr (hP81.2.wk (fun k i h => h.elim (fun z => Or.inl (sc_hs z)) (fun z => z.elim (fun y => by rw [y]; exact Or.inl sc_10) (fun y => Or.inr ⟨Or.inr y.1, y.2⟩))))
        refine lv_aload_n hx hb dX3_unwrap_84 rfl (lv_at hl 1 rfl) ?_
        refine lv_bipush (v := 68) hx hb dX3_unwrap_85 (by decide) ?_
        refine mv_bal Cx hG hH (isC_3 (by decide)) 68 (rfl) (by decide) dX3_unwrap_87 ?_
        refine mv_eqi (x' := (uwF (S.2.1 8 0) ts 68).toInt32) (congrArg Int8.toInt32 (hu 68 (by omega))) ?_
        refine lv_sipush (v := 255) hx hb dX3_unwrap_88 (by decide) ?_
        refine lv_iand hx hb dX3_unwrap_91 ?_
        refine lv_iload_n hx hb dX3_unwrap_92 rfl (lv_at hl 2 rfl) ?_
        refine lv_icmp_ne (tgt := 100) hx hb dX3_unwrap_93 (by decide) (fun h93 => ?_) (fun h93 => ?_)
        · skip
          refine lv_iconst (v := 0) hx hb dX3_unwrap_100 (by decide) ?_
          exact mv_retz Cx hr hH hS (Or.inl rfl) ((if_neg (fun z => h93 (uwB_iff.mp z).2.2.2)).symm) (⟨s81, fun z => absurd z (fun z => h93 (uwB_iff.mp z).2.2.2)⟩) dX3_unwrap_101 hlocks
        · skip
          refine lv_iconst (v := 1) hx hb dX3_unwrap_96 (by decide) ?_
          refine lv_goto (tgt := 101) hx hb dX3_unwrap_97 (by decide) ?_
          exact mv_retz Cx hr hH hS (Or.inr rfl) ((if_pos (uwB_iff.mpr ⟨hge, hle, hMt, h93⟩)).symm) (⟨s81, fun _ => bHas.of (((hP81.2 2 0 (by simp [hsX, bX])).1 1).trans hts72.1) hts.2.1 hu⟩) dX3_unwrap_101 hlocks
      · skip
        have hMf : ¬ uwM (S.2.1 8 0) ts = true := by rw [← hM]; intro q; rw [if_pos q] at h62; exact absurd h62 (by decide)
        refine lv_iconst (v := 0) hx hb dX3_unwrap_65 (by decide) ?_
        exact mv_retz Cx hr hH hS (Or.inl rfl) ((if_neg (fun z => hMf (uwB_iff.mp z).2.2.1)).symm) (⟨s47.wk (fun _ _ h => Or.inl h), fun z => absurd z (fun z => hMf (uwB_iff.mp z).2.2.1)⟩) dX3_unwrap_66 hlocks
    · skip
      have hlt : ¬ ts.length ≤ 229 := by have := lt_of (a := ts.length - 101) (b := 128) (by have := hts.2.1; rw [mLn_0] at this; omega) (by decide) h16; omega
      refine lv_iconst (v := 0) hx hb dX3_unwrap_19 (by decide) ?_
      exact mv_retz Cx hr hH hS (Or.inl rfl) ((if_neg (fun z => hlt (uwB_iff.mp z).2.1)).symm) (⟨mSame.rf, fun z => absurd z (fun z => hlt (uwB_iff.mp z).2.1)⟩) dX3_unwrap_20 hlocks
