/-! ===== sessions, values, the secret ===== -/
theorem mLn_v {i : Nat} (h : i < 8) : mLn (3 + (4 + i)) = 64 := by
  unfold mLn
  rw [if_neg (by omega), if_neg (by omega), if_neg (by omega), if_neg (by omega)]
theorem mLn_o {i : Nat} (h : i < 4) : mLn (3 + i) = 128 := by
  unfold mLn
  rw [if_neg (by omega), if_neg (by omega), if_neg (by omega), if_pos (by omega)]
theorem macL_congr {f g : Nat → Int8} {ms : List Int8} (h : ∀ j, j < 32 → f j = g j) (j : Nat) : macL f ms j = macL g ms j := by
  unfold macL
  rw [padK_congr (x := 92) (n := 64) h, padK_congr (x := 54) (n := 64) h]
theorem w4_len (x : Int32) : (w4 x).length = 4 := rfl
def stOk (S : mSt) (i : Nat) (ch code clock : Int32) : Prop := (S.1 19 i 4 = 0 ∨ ch = S.1 19 i 5) ∧ (S.1 19 i 3 = 0 ∨ S.1 19 i 3 = code) ∧ (S.1 19 i 6 = 0 ∨ ¬ S.1 19 i 7 < clock)
def mayBe (kd sz : Int32) : Prop := kd = 1 ∨ kd = 2 ∨ (kd = 0 ∧ ¬ sz < 1 ∧ ¬ 64 < sz)
/-- a session's cells; a value's -/
def seX (i : Nat) : Nat → Nat → Prop := fun k i' => (k = 19 ∨ k = 20) ∧ i' = i
def vaX (i : Nat) : Nat → Nat → Prop := fun k i' => (k = 22 ∧ i' = 4 + i) ∨ ((k = 2 ∨ k = 3) ∧ i' = 3 + (4 + i)) ∨ (k = 26 ∧ i' = i)
theorem sc_9 {i : Nat} : scX 9 i := Or.inr (Or.inr (Or.inl rfl))
theorem sc_10 {i : Nat} : scX 10 i := Or.inr (Or.inr (Or.inr (Or.inl rfl)))
theorem sc_6 {i : Nat} : scX 6 i := Or.inr (Or.inl rfl)
theorem sc_14 {i : Nat} : scX 14 i := Or.inr (Or.inr (Or.inr (Or.inr (Or.inl rfl))))
def mkX : Nat → Nat → Prop := fun k i => hsX k i ∨ k = 6 ∨ k = 10
theorem mk_sc {k i : Nat} (h : mkX k i) : scX k i := by
  rcases h with h | h | h
  · exact sc_hs h
  · rw [h]; exact sc_6
  · rw [h]; exact sc_10
/-- the bytes that cover a blob's secret part -/
def ks (d : Nat → Int8) (q : Nat) : Int8 := shaL (mTk d 32 ++ [(nI (q / 32)).toInt8]) (q % 32)
def xor8 (a b : Int8) : Int8 := (a.toInt32 ^^^ b.toInt32).toInt8
theorem mTk_has {S : mSt} {i : Nat} {xs : List Int8} (h : bHas S i xs) : mTk (S.2.1 3 i) xs.length = xs := by
  apply List.ext_getElem?
  intro j
  by_cases hj : j < xs.length
  · have := h.2.2 j hj
    rw [List.getD_eq_getElem?_getD, List.getElem?_eq_getElem hj] at this
    rw [List.getElem?_eq_getElem hj, mTk, List.getElem?_map, List.getElem?_range hj]
    simpa using this
  · rw [List.getElem?_eq_none (by rw [mTk_len]; omega), List.getElem?_eq_none (by omega)]
set_option maxHeartbeats 4000000 in
set_option maxRecDepth 100000 in
theorem c_X4_begin (l : Launch) (E : mEv) (A : Nat → Prop) (hO : mOwn mLC E A) (S : mSt) (i : Nat) (hi : i < 4) : Met l yX4_begin (Cond.code yX4_begin cX4_begin 1 none :: mv_ws) (mRm 1 23) (mPc mLC E A S [.ref (mAdC E 19 i)]) (mQ mLC E A (fun S' => (∀ q, q < 32 → S'.2.1 20 i q = (0 : Int32).toInt8) ∧ S'.1 19 i 1 = 1 ∧ S'.1 19 i 2 = 0 ∧ S'.1 19 i 3 = 0 ∧ S'.1 19 i 4 = 0 ∧ S'.1 19 i 6 = 0 ∧ mSame (seX i) S S') none) 0 0 A := by
  refine Met.ofW (cc := cX4_begin) (maxL := 1) (ret := none) (by decide) rfl ?_
  intro p e s m args below meth c s₁ B hml hv
  obtain ⟨rfl, hG, hH⟩ := hv
  have hx := B.exec
  have hb := B.bytes
  have hr := B.returns
  have hlocks := B.notSynchronized
  have Cx : CallFix p m c cX4_begin 1 s ([.ref (mAdC E 19 i)] : List Value).toArray (Cond.code yX4_begin cX4_begin 1 none :: mv_ws) RX4 := ⟨hx, hb, hml, findClass_of_methodNamed B.named, atoms_spec (ws := Cond.code yX4_begin cX4_begin 1 none :: mv_ws) B.pre⟩
  have hS : va_S A s.heap s.heap [] := va_S.rf
  have hl := lv_entry ([.ref (mAdC E 19 i)]) (n := 1) (Nat.le_of_ble_eq_true rfl)
  rw [lg_entry_eq]
  generalize (lg_sl ([.ref (mAdC E 19 i)]) ++ List.replicate (1 - (lg_sl ([.ref (mAdC E 19 i)])).length) Slot.unset).toArray = ls at hl ⊢
  have hl : lv_has ls 1 [(0, .ref (mAdC E 19 i))] := hl
  refine lv_aload_n hx hb dX4_begin_0 rfl (lv_at hl 0 rfl) ?_
  refine g_X4_digest Cx hG hH hi q_fl_X4_9 dX4_begin_1 ?_
  refine lv_iconst (v := 0) hx hb dX4_begin_4 (by decide) ?_
  refine mv_callS (Y := mLC) (rest := []) Cx hG hH hS (c_J7_fill_031fb l E A hO S 20 i 32 (isC_20 hi) 0) q_co_J7_fill_031fb q_ml_X4_15 q_st_J7_fill_031fb q_in_J7 hd_J7_fill_031fb ⟨Nat.le_of_ble_eq_true rfl, Nat.le_of_ble_eq_true rfl⟩ rfl hl.1 rfl (Nat.le_of_ble_eq_true rfl) ⟨Nat.le_of_ble_eq_true rfl, Nat.le_of_ble_eq_true rfl⟩ dX4_begin_5 (fun S5 H locs hP5 hH hS => ?_)
  refine W.eq (g2 := F0 m 8 ls []) rfl ?_
  refine lv_aload_n hx hb dX4_begin_8 rfl (lv_at hl 0 rfl) ?_
  refine lv_iconst (v := 1) hx hb dX4_begin_9 (by decide) ?_
  refine p_X4_isOpen Cx hG hO hH hS hi (by decide) q_fl_X4_21 dX4_begin_10 (fun H locs hH hS => ?_)
  refine lv_aload_n hx hb dX4_begin_13 rfl (lv_at hl 0 rfl) ?_
  refine lv_iconst (v := 0) hx hb dX4_begin_14 (by decide) ?_
  refine p_X4_asksAuth Cx hG hO hH hS hi (by decide) q_fl_X4_25 dX4_begin_15 (fun H locs hH hS => ?_)
  refine lv_aload_n hx hb dX4_begin_18 rfl (lv_at hl 0 rfl) ?_
  refine lv_iconst (v := 0) hx hb dX4_begin_19 (by decide) ?_
  refine p_X4_code Cx hG hO hH hS hi q_fl_X4_28 dX4_begin_20 (fun H locs hH hS => ?_)
  refine lv_aload_n hx hb dX4_begin_23 rfl (lv_at hl 0 rfl) ?_
  refine lv_iconst (v := 0) hx hb dX4_begin_24 (by decide) ?_
  refine p_X4_asksRegisters Cx hG hO hH hS hi (by decide) q_fl_X4_32 dX4_begin_25 (fun H locs hH hS => ?_)
  refine lv_aload_n hx hb dX4_begin_28 rfl (lv_at hl 0 rfl) ?_
  refine lv_iconst (v := 0) hx hb dX4_begin_29 (by decide) ?_
  refine p_X4_asksTime Cx hG hO hH hS hi (by decide) q_fl_X4_35 dX4_begin_30 (fun H locs hH hS => ?_)
  exact mv_retv Cx hr hH hS (⟨hP5.1, by simp [mM, m3], by simp [mM, m3], by simp [mM, m3], by simp [mM, m3], by simp [mM, m3], (((((hP5.2.wk (fun _ _ h => ⟨Or.inr h.1, h.2⟩)).tr (mSame.M ⟨Or.inl rfl, rfl⟩)).tr (mSame.M ⟨Or.inl rfl, rfl⟩)).tr (mSame.M ⟨Or.inl rfl, rfl⟩)).tr (mSame.M ⟨Or.inl rfl, rfl⟩)).tr (mSame.M ⟨Or.inl rfl, rfl⟩)⟩) dX4_begin_33 hlocks

set_option maxHeartbeats 4000000 in
set_option maxRecDepth 100000 in
theorem c_X4_startStep (l : Launch) (E : mEv) (A : Nat → Prop) (hO : mOwn mLC E A) (S : mSt) (i : Nat) (hi : i < 4) (x : Int32) : Met l yX4_startStep (Cond.code yX4_startStep cX4_startStep 4 (some (.object "MeasuredVault$Bytes")) :: mv_ws) (mRm 2 63) (mPc mLC E A S [.ref (mAdC E 19 i), .ref (mAdC E 1 0), .int x]) (mQ mLC E A (fun S' => bHas S' 2 (mTk (S.2.1 20 i) 32 ++ [x.toInt8]) ∧ mSame (bX 2) S S') (some (.ref (mAdC E 2 2)))) 0 0 A := by
  refine Met.ofW (cc := cX4_startStep) (maxL := 4) (ret := (some (.object "MeasuredVault$Bytes"))) (by decide) rfl ?_
  intro p e s m args below meth c s₁ B hml hv
  obtain ⟨rfl, hG, hH⟩ := hv
  have hx := B.exec
  have hb := B.bytes
  have hr := B.returns
  have hlocks := B.notSynchronized
  have Cx : CallFix p m c cX4_startStep 4 s ([.ref (mAdC E 19 i), .ref (mAdC E 1 0), .int x] : List Value).toArray (Cond.code yX4_startStep cX4_startStep 4 (some (.object "MeasuredVault$Bytes")) :: mv_ws) RX4 := ⟨hx, hb, hml, findClass_of_methodNamed B.named, atoms_spec (ws := Cond.code yX4_startStep cX4_startStep 4 (some (.object "MeasuredVault$Bytes")) :: mv_ws) B.pre⟩
  have hS : va_S A s.heap s.heap [] := va_S.rf
  have hl := lv_entry ([.ref (mAdC E 19 i), .ref (mAdC E 1 0), .int x]) (n := 4) (Nat.le_of_ble_eq_true rfl)
  rw [lg_entry_eq]
  generalize (lg_sl ([.ref (mAdC E 19 i), .ref (mAdC E 1 0), .int x]) ++ List.replicate (4 - (lg_sl ([.ref (mAdC E 19 i), .ref (mAdC E 1 0), .int x])).length) Slot.unset).toArray = ls at hl ⊢
  have hl : lv_has ls 4 [(0, .ref (mAdC E 19 i)), (1, .ref (mAdC E 1 0)), (2, .int x)] := hl
  refine lv_aload_n hx hb dX4_startStep_0 rfl (lv_at hl 1 rfl) ?_
  refine mv_callV (Y := mLC) (C := RX1) (k := 1) (i := 0) (rest := []) Cx hG hH hS (c_X1_begin l E A hO S) q_co_X1_begin q_ml_X4_38 q_im_X1_begin q_se_X1_begin q_in_X1 okC_1 rfl rfl hd_X1_begin ⟨Nat.le_of_ble_eq_true rfl, Nat.le_of_ble_eq_true rfl⟩ rfl hl.1 rfl (Nat.le_of_ble_eq_true rfl) ⟨Nat.le_of_ble_eq_true rfl, Nat.le_of_ble_eq_true rfl⟩ dX4_startStep_1 (fun Sb H locs hP1 hH hS => ?_)
  refine W.eq (g2 := F0 m 4 ls [.ref (mAdC E 2 2)]) rfl ?_
  refine lv_astore_n (lv' := [(3, .ref (mAdC E 2 2)), (0, .ref (mAdC E 19 i)), (1, .ref (mAdC E 1 0)), (2, .int x)]) hx hb dX4_startStep_4 rfl hl (by decide) rfl (fun ls hl => ?_)
  refine lv_aload_n hx hb dX4_startStep_5 rfl (lv_at hl 0 rfl) ?_
  refine lv_aload_n hx hb dX4_startStep_6 rfl (lv_at hl 1 rfl) ?_
  refine g_X4_digest Cx hG hH hi q_fl_X4_9 dX4_startStep_7 ?_
  refine lv_bipush (v := 32) hx hb dX4_startStep_10 (by decide) ?_
  refine mv_callV (Y := mLC) (C := RX0) (k := 2) (i := 2) (rest := []) Cx hG hH hS (c_X0_putAll l E A hO Sb 2 (by decide) _ hP1.1 20 i 32 32 (isC_20 hi) (by decide) (by decide)) q_co_X0_putAll q_ml_X4_44 q_im_X0_putAll q_se_X0_putAll q_in_X0 (okC_2 (by decide)) rfl rfl hd_X0_putAll ⟨Nat.le_of_ble_eq_true rfl, Nat.le_of_ble_eq_true rfl⟩ rfl hl.1 rfl (Nat.le_of_ble_eq_true rfl) ⟨Nat.le_of_ble_eq_true rfl, Nat.le_of_ble_eq_true rfl⟩ dX4_startStep_12 (fun S12 H locs hP12 hH hS => ?_)
  refine W.eq (g2 := F0 m 15 ls []) rfl ?_
  refine lv_aload_n hx hb dX4_startStep_15 rfl (lv_at hl 0 rfl) ?_
  refine lv_iload_n hx hb dX4_startStep_16 rfl (lv_at hl 3 rfl) ?_
  refine mv_callV (Y := mLC) (C := RX0) (k := 2) (i := 2) (rest := []) Cx hG hH hS (c_X0_put l E A hO S12 2 (by decide) _ hP12.1 x (by rw [List.nil_append, mTk_len]; decide)) q_co_X0_put q_ml_X4_50 q_im_X0_put q_se_X0_put q_in_X0 (okC_2 (by decide)) rfl rfl hd_X0_put ⟨Nat.le_of_ble_eq_true rfl, Nat.le_of_ble_eq_true rfl⟩ rfl hl.1 rfl (Nat.le_of_ble_eq_true rfl) ⟨Nat.le_of_ble_eq_true rfl, Nat.le_of_ble_eq_true rfl⟩ dX4_startStep_17 (fun S17 H locs hP17 hH hS => ?_)
  refine W.eq (g2 := F0 m 20 ls []) rfl ?_
  refine lv_aload_n hx hb dX4_startStep_20 rfl (lv_at hl 0 rfl) ?_
  exact mv_reta Cx hr (Or.inl ⟨_, rfl⟩) hH hS (Or.inr ⟨_, rfl⟩) (rfl) (⟨by have h := hP17.1; rw [List.nil_append, mTk_congr (g := S.2.1 20 i) (fun j _ => (hP1.2 20 i (by simp [bX])).2.1 j)] at h; exact h, (hP1.2.tr hP12.2).tr hP17.2⟩) dX4_startStep_21 hlocks

set_option maxHeartbeats 4000000 in
set_option maxRecDepth 100000 in
theorem c_X4_bindRegisters (l : Launch) (E : mEv) (A : Nat → Prop) (hO : mOwn mLC E A) (S : mSt) (i : Nat) (hi : i < 4) (x : Int32) : Met l yX4_bindRegisters (Cond.code yX4_bindRegisters cX4_bindRegisters 2 none :: mv_ws) (mRm 0 0) (mPc mLC E A S [.ref (mAdC E 19 i), .int x]) (mQ mLC E A (fun S' => S' = if S.1 19 i 4 = 0 then mM (mM S 19 i 4 1) 19 i 5 x else S) none) 0 0 A := by
  refine Met.ofW (cc := cX4_bindRegisters) (maxL := 2) (ret := none) (by decide) rfl ?_
  intro p e s m args below meth c s₁ B hml hv
  obtain ⟨rfl, hG, hH⟩ := hv
  have hx := B.exec
  have hb := B.bytes
  have hr := B.returns
  have hlocks := B.notSynchronized
  have Cx : CallFix p m c cX4_bindRegisters 2 s ([.ref (mAdC E 19 i), .int x] : List Value).toArray (Cond.code yX4_bindRegisters cX4_bindRegisters 2 none :: mv_ws) RX4 := ⟨hx, hb, hml, findClass_of_methodNamed B.named, atoms_spec (ws := Cond.code yX4_bindRegisters cX4_bindRegisters 2 none :: mv_ws) B.pre⟩
  have hS : va_S A s.heap s.heap [] := va_S.rf
  have hl := lv_entry ([.ref (mAdC E 19 i), .int x]) (n := 2) (Nat.le_of_ble_eq_true rfl)
  rw [lg_entry_eq]
  generalize (lg_sl ([.ref (mAdC E 19 i), .int x]) ++ List.replicate (2 - (lg_sl ([.ref (mAdC E 19 i), .int x])).length) Slot.unset).toArray = ls at hl ⊢
  have hl : lv_has ls 2 [(0, .ref (mAdC E 19 i)), (1, .int x)] := hl
  refine lv_aload_n hx hb dX4_bindRegisters_0 rfl (lv_at hl 0 rfl) ?_
  refine g_X4_asksRegisters Cx hG hH hi q_fl_X4_32 dX4_bindRegisters_1 ?_
  refine lv_if_ne (tgt := 17) hx hb dX4_bindRegisters_4 (by decide) (fun h4 => ?_) (fun h4 => ?_)
  · skip
    exact mv_retv Cx hr hH hS ((if_neg h4).symm) dX4_bindRegisters_17 hlocks
  · skip
    refine lv_aload_n hx hb dX4_bindRegisters_7 rfl (lv_at hl 0 rfl) ?_
    refine lv_iconst (v := 1) hx hb dX4_bindRegisters_8 (by decide) ?_
    refine p_X4_asksRegisters Cx hG hO hH hS hi (by decide) q_fl_X4_32 dX4_bindRegisters_9 (fun H locs hH hS => ?_)
    refine lv_aload_n hx hb dX4_bindRegisters_12 rfl (lv_at hl 0 rfl) ?_
    refine lv_iload_n hx hb dX4_bindRegisters_13 rfl (lv_at hl 1 rfl) ?_
    refine p_X4_changesThen Cx hG hO hH hS hi q_fl_X4_54 dX4_bindRegisters_14 (fun H locs hH hS => ?_)
    exact mv_retv Cx hr hH hS ((if_pos h4).symm) dX4_bindRegisters_17 hlocks

set_option maxHeartbeats 4000000 in
set_option maxRecDepth 100000 in
theorem c_X4_bindTime (l : Launch) (E : mEv) (A : Nat → Prop) (hO : mOwn mLC E A) (S : mSt) (i : Nat) (hi : i < 4) (x : Int32) : Met l yX4_bindTime (Cond.code yX4_bindTime cX4_bindTime 2 none :: mv_ws) (mRm 1 14) (mPc mLC E A S [.ref (mAdC E 19 i), .int x]) (mQ mLC E A (fun S' => S' = mM (mM S 19 i 7 (if S.1 19 i 6 = 0 then x else if x < S.1 19 i 7 then x else S.1 19 i 7)) 19 i 6 1) none) 0 0 A := by
  refine Met.ofW (cc := cX4_bindTime) (maxL := 2) (ret := none) (by decide) rfl ?_
  intro p e s m args below meth c s₁ B hml hv
  obtain ⟨rfl, hG, hH⟩ := hv
  have hx := B.exec
  have hb := B.bytes
  have hr := B.returns
  have hlocks := B.notSynchronized
  have Cx : CallFix p m c cX4_bindTime 2 s ([.ref (mAdC E 19 i), .int x] : List Value).toArray (Cond.code yX4_bindTime cX4_bindTime 2 none :: mv_ws) RX4 := ⟨hx, hb, hml, findClass_of_methodNamed B.named, atoms_spec (ws := Cond.code yX4_bindTime cX4_bindTime 2 none :: mv_ws) B.pre⟩
  have hS : va_S A s.heap s.heap [] := va_S.rf
  have hl := lv_entry ([.ref (mAdC E 19 i), .int x]) (n := 2) (Nat.le_of_ble_eq_true rfl)
  rw [lg_entry_eq]
  generalize (lg_sl ([.ref (mAdC E 19 i), .int x]) ++ List.replicate (2 - (lg_sl ([.ref (mAdC E 19 i), .int x])).length) Slot.unset).toArray = ls at hl ⊢
  have hl : lv_has ls 2 [(0, .ref (mAdC E 19 i)), (1, .int x)] := hl
  refine lv_aload_n hx hb dX4_bindTime_0 rfl (lv_at hl 0 rfl) ?_
  refine lv_aload_n hx hb dX4_bindTime_1 rfl (lv_at hl 0 rfl) ?_
  refine g_X4_asksTime Cx hG hH hi q_fl_X4_35 dX4_bindTime_2 ?_
  refine lv_if_eq (tgt := 19) hx hb dX4_bindTime_5 (by decide) (fun h5 => ?_) (fun h5 => ?_)
  · skip
    refine lv_iload_n hx hb dX4_bindTime_19 rfl (lv_at hl 1 rfl) ?_
    refine p_X4_latest Cx hG hO hH hS hi q_fl_X4_57 dX4_bindTime_20 (fun H locs hH hS => ?_)
    refine lv_aload_n hx hb dX4_bindTime_23 rfl (lv_at hl 0 rfl) ?_
    refine lv_iconst (v := 1) hx hb dX4_bindTime_24 (by decide) ?_
    refine p_X4_asksTime Cx hG hO hH hS hi (by decide) q_fl_X4_35 dX4_bindTime_25 (fun H locs hH hS => ?_)
    exact mv_retv Cx hr hH hS (by rw [if_pos h5]) dX4_bindTime_28 hlocks
  · skip
    refine lv_aload_n hx hb dX4_bindTime_8 rfl (lv_at hl 0 rfl) ?_
    refine g_X4_latest Cx hG hH hi q_fl_X4_57 dX4_bindTime_9 ?_
    refine lv_iload_n hx hb dX4_bindTime_12 rfl (lv_at hl 1 rfl) ?_
    refine va_mmin hx hb (Cx.2.2.1.trans hl.1.symm) Cx.2.2.2.1 (Cx.2.2.2.2 _ (List.mem_cons_of_mem _ q_ml_X4_60)) (Cx.2.2.2.2 _ (List.mem_cons_of_mem _ q_st_J9_min_7cf53)) (Cx.2.2.2.2 _ (List.mem_cons_of_mem _ q_in_J9)) (Cx.2.2.2.2 _ (List.mem_cons_of_mem _ q_co_J9_min_7cf53)) (Nat.le_of_ble_eq_true rfl) (Nat.le_of_ble_eq_true rfl) (Nat.le_refl _) (Nat.le_refl _) dX4_bindTime_13 ?_
    refine lv_goto (tgt := 20) hx hb dX4_bindTime_16 (by decide) ?_
    refine p_X4_latest Cx hG hO hH hS hi q_fl_X4_57 dX4_bindTime_20 (fun H locs hH hS => ?_)
    refine lv_aload_n hx hb dX4_bindTime_23 rfl (lv_at hl 0 rfl) ?_
    refine lv_iconst (v := 1) hx hb dX4_bindTime_24 (by decide) ?_
    refine p_X4_asksTime Cx hG hO hH hS hi (by decide) q_fl_X4_35 dX4_bindTime_25 (fun H locs hH hS => ?_)
    exact mv_retv Cx hr hH hS (by rw [if_neg h5]) dX4_bindTime_28 hlocks

set_option maxHeartbeats 4000000 in
set_option maxRecDepth 100000 in
theorem c_X4_holds (l : Launch) (E : mEv) (A : Nat → Prop) (hO : mOwn mLC E A) (S : mSt) (i : Nat) (hi : i < 4) (ch code clock : Int32) : Met l yX4_holds (Cond.code yX4_holds cX4_holds 4 (some .boolean) :: mv_ws) (mRm 0 0) (mPc mLC E A S [.ref (mAdC E 19 i), .int ch, .int code, .int clock]) (mQ mLC E A (fun S' => S' = S) (some (.int (if (S.1 19 i 4 = 0 ∨ ch = S.1 19 i 5) ∧ (S.1 19 i 3 = 0 ∨ S.1 19 i 3 = code) ∧ (S.1 19 i 6 = 0 ∨ ¬ S.1 19 i 7 < clock) then 1 else 0)))) 0 0 A := by
  refine Met.ofW (cc := cX4_holds) (maxL := 4) (ret := (some .boolean)) (by decide) rfl ?_
  intro p e s m args below meth c s₁ B hml hv
  obtain ⟨rfl, hG, hH⟩ := hv
  have hx := B.exec
  have hb := B.bytes
  have hr := B.returns
  have hlocks := B.notSynchronized
  have Cx : CallFix p m c cX4_holds 4 s ([.ref (mAdC E 19 i), .int ch, .int code, .int clock] : List Value).toArray (Cond.code yX4_holds cX4_holds 4 (some .boolean) :: mv_ws) RX4 := ⟨hx, hb, hml, findClass_of_methodNamed B.named, atoms_spec (ws := Cond.code yX4_holds cX4_holds 4 (some .boolean) :: mv_ws) B.pre⟩
  have hS : va_S A s.heap s.heap [] := va_S.rf
  have hl := lv_entry ([.ref (mAdC E 19 i), .int ch, .int code, .int clock]) (n := 4) (Nat.le_of_ble_eq_true rfl)
  rw [lg_entry_eq]
  generalize (lg_sl ([.ref (mAdC E 19 i), .int ch, .int code, .int clock]) ++ List.replicate (4 - (lg_sl ([.ref (mAdC E 19 i), .int ch, .int code, .int clock])).length) Slot.unset).toArray = ls at hl ⊢
  have hl : lv_has ls 4 [(0, .ref (mAdC E 19 i)), (1, .int ch), (2, .int code), (3, .int clock)] := hl
  refine lv_aload_n hx hb dX4_holds_0 rfl (lv_at hl 0 rfl) ?_
  refine g_X4_asksRegisters Cx hG hH hi q_fl_X4_32 dX4_holds_1 ?_
  refine lv_if_eq (tgt := 15) hx hb dX4_holds_4 (by decide) (fun h4 => ?_) (fun h4 => ?_)
  · skip
    refine lv_aload_n hx hb dX4_holds_15 rfl (lv_at hl 0 rfl) ?_
    refine g_X4_code Cx hG hH hi q_fl_X4_28 dX4_holds_16 ?_
    refine lv_if_eq (tgt := 30) hx hb dX4_holds_19 (by decide) (fun h19 => ?_) (fun h19 => ?_)
    · skip
      refine lv_aload_n hx hb dX4_holds_30 rfl (lv_at hl 0 rfl) ?_
      refine g_X4_asksTime Cx hG hH hi q_fl_X4_35 dX4_holds_31 ?_
      refine lv_if_eq (tgt := 45) hx hb dX4_holds_34 (by decide) (fun h34 => ?_) (fun h34 => ?_)
      · skip
        refine lv_iconst (v := 1) hx hb dX4_holds_45 (by decide) ?_
        refine lv_goto (tgt := 50) hx hb dX4_holds_46 (by decide) ?_
        exact mv_retz Cx hr hH hS (Or.inr rfl) ((if_pos ⟨Or.inl h4, Or.inl h19, Or.inl h34⟩).symm) (rfl) dX4_holds_50 hlocks
      · skip
        refine lv_iload_n hx hb dX4_holds_37 rfl (lv_at hl 3 rfl) ?_
        refine lv_aload_n hx hb dX4_holds_38 rfl (lv_at hl 0 rfl) ?_
        refine g_X4_latest Cx hG hH hi q_fl_X4_57 dX4_holds_39 ?_
        refine lv_icmp_gt (tgt := 49) hx hb dX4_holds_42 (by decide) (fun h42 => ?_) (fun h42 => ?_)
        · skip
          refine lv_iconst (v := 0) hx hb dX4_holds_49 (by decide) ?_
          exact mv_retz Cx hr hH hS (Or.inl rfl) ((if_neg (fun z => z.2.2.elim h34 (fun y => y h42))).symm) (rfl) dX4_holds_50 hlocks
        · skip
          refine lv_iconst (v := 1) hx hb dX4_holds_45 (by decide) ?_
          refine lv_goto (tgt := 50) hx hb dX4_holds_46 (by decide) ?_
          exact mv_retz Cx hr hH hS (Or.inr rfl) ((if_pos ⟨Or.inl h4, Or.inl h19, Or.inr h42⟩).symm) (rfl) dX4_holds_50 hlocks
    · skip
      refine lv_aload_n hx hb dX4_holds_22 rfl (lv_at hl 0 rfl) ?_
      refine g_X4_code Cx hG hH hi q_fl_X4_28 dX4_holds_23 ?_
      refine lv_iload_n hx hb dX4_holds_26 rfl (lv_at hl 2 rfl) ?_
      refine lv_icmp_ne (tgt := 49) hx hb dX4_holds_27 (by decide) (fun h27 => ?_) (fun h27 => ?_)
      · skip
        refine lv_iconst (v := 0) hx hb dX4_holds_49 (by decide) ?_
        exact mv_retz Cx hr hH hS (Or.inl rfl) ((if_neg (fun z => z.2.1.elim h19 h27)).symm) (rfl) dX4_holds_50 hlocks
      · skip
        refine lv_aload_n hx hb dX4_holds_30 rfl (lv_at hl 0 rfl) ?_
        refine g_X4_asksTime Cx hG hH hi q_fl_X4_35 dX4_holds_31 ?_
        refine lv_if_eq (tgt := 45) hx hb dX4_holds_34 (by decide) (fun h34 => ?_) (fun h34 => ?_)
        · skip
          refine lv_iconst (v := 1) hx hb dX4_holds_45 (by decide) ?_
          refine lv_goto (tgt := 50) hx hb dX4_holds_46 (by decide) ?_
          exact mv_retz Cx hr hH hS (Or.inr rfl) ((if_pos ⟨Or.inl h4, Or.inr h27, Or.inl h34⟩).symm) (rfl) dX4_holds_50 hlocks
        · skip
          refine lv_iload_n hx hb dX4_holds_37 rfl (lv_at hl 3 rfl) ?_
          refine lv_aload_n hx hb dX4_holds_38 rfl (lv_at hl 0 rfl) ?_
          refine g_X4_latest Cx hG hH hi q_fl_X4_57 dX4_holds_39 ?_
          refine lv_icmp_gt (tgt := 49) hx hb dX4_holds_42 (by decide) (fun h42 => ?_) (fun h42 => ?_)
          · skip
            refine lv_iconst (v := 0) hx hb dX4_holds_49 (by decide) ?_
            exact mv_retz Cx hr hH hS (Or.inl rfl) ((if_neg (fun z => z.2.2.elim h34 (fun y => y h42))).symm) (rfl) dX4_holds_50 hlocks
          · skip
            refine lv_iconst (v := 1) hx hb dX4_holds_45 (by decide) ?_
            refine lv_goto (tgt := 50) hx hb dX4_holds_46 (by decide) ?_
            exact mv_retz Cx hr hH hS (Or.inr rfl) ((if_pos ⟨Or.inl h4, Or.inr h27, Or.inr h42⟩).symm) (rfl) dX4_holds_50 hlocks
  · skip
    refine lv_iload_n hx hb dX4_holds_7 rfl (lv_at hl 1 rfl) ?_
    refine lv_aload_n hx hb dX4_holds_8 rfl (lv_at hl 0 rfl) ?_
    refine g_X4_changesThen Cx hG hH hi q_fl_X4_54 dX4_holds_9 ?_
    refine lv_icmp_ne (tgt := 49) hx hb dX4_holds_12 (by decide) (fun h12 => ?_) (fun h12 => ?_)
    · skip
      refine lv_iconst (v := 0) hx hb dX4_holds_49 (by decide) ?_
      exact mv_retz Cx hr hH hS (Or.inl rfl) ((if_neg (fun z => z.1.elim h4 h12)).symm) (rfl) dX4_holds_50 hlocks
    · skip
      refine lv_aload_n hx hb dX4_holds_15 rfl (lv_at hl 0 rfl) ?_
      refine g_X4_code Cx hG hH hi q_fl_X4_28 dX4_holds_16 ?_
      refine lv_if_eq (tgt := 30) hx hb dX4_holds_19 (by decide) (fun h19 => ?_) (fun h19 => ?_)
      · skip
        refine lv_aload_n hx hb dX4_holds_30 rfl (lv_at hl 0 rfl) ?_
        refine g_X4_asksTime Cx hG hH hi q_fl_X4_35 dX4_holds_31 ?_
        refine lv_if_eq (tgt := 45) hx hb dX4_holds_34 (by decide) (fun h34 => ?_) (fun h34 => ?_)
        · skip
          refine lv_iconst (v := 1) hx hb dX4_holds_45 (by decide) ?_
          refine lv_goto (tgt := 50) hx hb dX4_holds_46 (by decide) ?_
          exact mv_retz Cx hr hH hS (Or.inr rfl) ((if_pos ⟨Or.inr h12, Or.inl h19, Or.inl h34⟩).symm) (rfl) dX4_holds_50 hlocks
        · skip
          refine lv_iload_n hx hb dX4_holds_37 rfl (lv_at hl 3 rfl) ?_
          refine lv_aload_n hx hb dX4_holds_38 rfl (lv_at hl 0 rfl) ?_
          refine g_X4_latest Cx hG hH hi q_fl_X4_57 dX4_holds_39 ?_
          refine lv_icmp_gt (tgt := 49) hx hb dX4_holds_42 (by decide) (fun h42 => ?_) (fun h42 => ?_)
          · skip
            refine lv_iconst (v := 0) hx hb dX4_holds_49 (by decide) ?_
            exact mv_retz Cx hr hH hS (Or.inl rfl) ((if_neg (fun z => z.2.2.elim h34 (fun y => y h42))).symm) (rfl) dX4_holds_50 hlocks
          · skip
            refine lv_iconst (v := 1) hx hb dX4_holds_45 (by decide) ?_
            refine lv_goto (tgt := 50) hx hb dX4_holds_46 (by decide) ?_
            exact mv_retz Cx hr hH hS (Or.inr rfl) ((if_pos ⟨Or.inr h12, Or.inl h19, Or.inr h42⟩).symm) (rfl) dX4_holds_50 hlocks
      · skip
        refine lv_aload_n hx hb dX4_holds_22 rfl (lv_at hl 0 rfl) ?_
        refine g_X4_code Cx hG hH hi q_fl_X4_28 dX4_holds_23 ?_
        refine lv_iload_n hx hb dX4_holds_26 rfl (lv_at hl 2 rfl) ?_
        refine lv_icmp_ne (tgt := 49) hx hb dX4_holds_27 (by decide) (fun h27 => ?_) (fun h27 => ?_)
        · skip
          refine lv_iconst (v := 0) hx hb dX4_holds_49 (by decide) ?_
          exact mv_retz Cx hr hH hS (Or.inl rfl) ((if_neg (fun z => z.2.1.elim h19 h27)).symm) (rfl) dX4_holds_50 hlocks
        · skip
          refine lv_aload_n hx hb dX4_holds_30 rfl (lv_at hl 0 rfl) ?_
          refine g_X4_asksTime Cx hG hH hi q_fl_X4_35 dX4_holds_31 ?_
          refine lv_if_eq (tgt := 45) hx hb dX4_holds_34 (by decide) (fun h34 => ?_) (fun h34 => ?_)
          · skip
            refine lv_iconst (v := 1) hx hb dX4_holds_45 (by decide) ?_
            refine lv_goto (tgt := 50) hx hb dX4_holds_46 (by decide) ?_
            exact mv_retz Cx hr hH hS (Or.inr rfl) ((if_pos ⟨Or.inr h12, Or.inr h27, Or.inl h34⟩).symm) (rfl) dX4_holds_50 hlocks
          · skip
            refine lv_iload_n hx hb dX4_holds_37 rfl (lv_at hl 3 rfl) ?_
            refine lv_aload_n hx hb dX4_holds_38 rfl (lv_at hl 0 rfl) ?_
            refine g_X4_latest Cx hG hH hi q_fl_X4_57 dX4_holds_39 ?_
            refine lv_icmp_gt (tgt := 49) hx hb dX4_holds_42 (by decide) (fun h42 => ?_) (fun h42 => ?_)
            · skip
              refine lv_iconst (v := 0) hx hb dX4_holds_49 (by decide) ?_
              exact mv_retz Cx hr hH hS (Or.inl rfl) ((if_neg (fun z => z.2.2.elim h34 (fun y => y h42))).symm) (rfl) dX4_holds_50 hlocks
            · skip
              refine lv_iconst (v := 1) hx hb dX4_holds_45 (by decide) ?_
              refine lv_goto (tgt := 50) hx hb dX4_holds_46 (by decide) ?_
              exact mv_retz Cx hr hH hS (Or.inr rfl) ((if_pos ⟨Or.inr h12, Or.inr h27, Or.inr h42⟩).symm) (rfl) dX4_holds_50 hlocks

set_option maxHeartbeats 4000000 in
set_option maxRecDepth 100000 in
theorem c_X6_mayBe (l : Launch) (E : mEv) (A : Nat → Prop) (hO : mOwn mLC E A) (S : mSt) (kd sz : Int32) : Met l yX6_mayBe (Cond.code yX6_mayBe cX6_mayBe 2 (some .boolean) :: mv_ws) (mRm 0 0) (mPc mLC E A S [.int kd, .int sz]) (mQ mLC E A (fun S' => S' = S) (some (.int (if kd = 1 ∨ kd = 2 ∨ (kd = 0 ∧ ¬ sz < 1 ∧ ¬ 64 < sz) then 1 else 0)))) 0 0 A := by
  refine Met.ofW (cc := cX6_mayBe) (maxL := 2) (ret := (some .boolean)) (by decide) rfl ?_
  intro p e s m args below meth c s₁ B hml hv
  obtain ⟨rfl, hG, hH⟩ := hv
  have hx := B.exec
  have hb := B.bytes
  have hr := B.returns
  have hlocks := B.notSynchronized
  have Cx : CallFix p m c cX6_mayBe 2 s ([.int kd, .int sz] : List Value).toArray (Cond.code yX6_mayBe cX6_mayBe 2 (some .boolean) :: mv_ws) RX6 := ⟨hx, hb, hml, findClass_of_methodNamed B.named, atoms_spec (ws := Cond.code yX6_mayBe cX6_mayBe 2 (some .boolean) :: mv_ws) B.pre⟩
  have hS : va_S A s.heap s.heap [] := va_S.rf
  have hl := lv_entry ([.int kd, .int sz]) (n := 2) (Nat.le_of_ble_eq_true rfl)
  rw [lg_entry_eq]
  generalize (lg_sl ([.int kd, .int sz]) ++ List.replicate (2 - (lg_sl ([.int kd, .int sz])).length) Slot.unset).toArray = ls at hl ⊢
  have hl : lv_has ls 2 [(0, .int kd), (1, .int sz)] := hl
  refine lv_iload_n hx hb dX6_mayBe_0 rfl (lv_at hl 0 rfl) ?_
  refine lv_iconst (v := 1) hx hb dX6_mayBe_1 (by decide) ?_
  refine lv_icmp_eq (tgt := 25) hx hb dX6_mayBe_2 (by decide) (fun h2 => ?_) (fun h2 => ?_)
  · skip
    refine lv_iconst (v := 1) hx hb dX6_mayBe_25 (by decide) ?_
    refine lv_goto (tgt := 30) hx hb dX6_mayBe_26 (by decide) ?_
    exact mv_retz Cx hr hH hS (Or.inr rfl) ((if_pos (Or.inl h2)).symm) (rfl) dX6_mayBe_30 hlocks
  · skip
    refine lv_iload_n hx hb dX6_mayBe_5 rfl (lv_at hl 0 rfl) ?_
    refine lv_iconst (v := 2) hx hb dX6_mayBe_6 (by decide) ?_
    refine lv_icmp_eq (tgt := 25) hx hb dX6_mayBe_7 (by decide) (fun h7 => ?_) (fun h7 => ?_)
    · skip
      refine lv_iconst (v := 1) hx hb dX6_mayBe_25 (by decide) ?_
      refine lv_goto (tgt := 30) hx hb dX6_mayBe_26 (by decide) ?_
      exact mv_retz Cx hr hH hS (Or.inr rfl) ((if_pos (Or.inr (Or.inl h7))).symm) (rfl) dX6_mayBe_30 hlocks
    · skip
      refine lv_iload_n hx hb dX6_mayBe_10 rfl (lv_at hl 0 rfl) ?_
      refine lv_if_ne (tgt := 29) hx hb dX6_mayBe_11 (by decide) (fun h11 => ?_) (fun h11 => ?_)
      · skip
        refine lv_iconst (v := 0) hx hb dX6_mayBe_29 (by decide) ?_
        exact mv_retz Cx hr hH hS (Or.inl rfl) ((if_neg (fun z => z.elim h2 (fun y => y.elim h7 (fun q => h11 q.1)))).symm) (rfl) dX6_mayBe_30 hlocks
      · skip
        refine lv_iload_n hx hb dX6_mayBe_14 rfl (lv_at hl 1 rfl) ?_
        refine lv_iconst (v := 1) hx hb dX6_mayBe_15 (by decide) ?_
        refine lv_icmp_lt (tgt := 29) hx hb dX6_mayBe_16 (by decide) (fun h16 => ?_) (fun h16 => ?_)
        · skip
          refine lv_iconst (v := 0) hx hb dX6_mayBe_29 (by decide) ?_
          exact mv_retz Cx hr hH hS (Or.inl rfl) ((if_neg (fun z => z.elim h2 (fun y => y.elim h7 (fun q => q.2.1 h16)))).symm) (rfl) dX6_mayBe_30 hlocks
        · skip
          refine lv_iload_n hx hb dX6_mayBe_19 rfl (lv_at hl 1 rfl) ?_
          refine lv_bipush (v := 64) hx hb dX6_mayBe_20 (by decide) ?_
          refine lv_icmp_gt (tgt := 29) hx hb dX6_mayBe_22 (by decide) (fun h22 => ?_) (fun h22 => ?_)
          · skip
            refine lv_iconst (v := 0) hx hb dX6_mayBe_29 (by decide) ?_
            exact mv_retz Cx hr hH hS (Or.inl rfl) ((if_neg (fun z => z.elim h2 (fun y => y.elim h7 (fun q => q.2.2 h22)))).symm) (rfl) dX6_mayBe_30 hlocks
          · skip
            refine lv_iconst (v := 1) hx hb dX6_mayBe_25 (by decide) ?_
            refine lv_goto (tgt := 30) hx hb dX6_mayBe_26 (by decide) ?_
            exact mv_retz Cx hr hH hS (Or.inr rfl) ((if_pos (Or.inr (Or.inr ⟨h11, h16, h22⟩))).symm) (rfl) dX6_mayBe_30 hlocks

set_option maxHeartbeats 4000000 in
set_option maxRecDepth 100000 in
theorem c_X6_begin (l : Launch) (E : mEv) (A : Nat → Prop) (hO : mOwn mLC E A) (S : mSt) (i : Nat) (hi : i < 8) (kd sz : Int32) : Met l yX6_begin (Cond.code yX6_begin cX6_begin 3 none :: mv_ws) (mRm 1 23) (mPc mLC E A S [.ref (mAdC E 26 i), .int kd, .int sz]) (mQ mLC E A (fun S' => (∀ q, q < 64 → S'.2.1 3 (3 + (4 + i)) q = (0 : Int32).toInt8) ∧ S'.1 2 (3 + (4 + i)) 1 = (if kd = 0 then sz else if kd = 1 then 8 else 32) ∧ S'.1 22 (4 + i) 3 = 1 ∧ S'.1 26 i 1 = kd ∧ S'.1 26 i 2 = 0 ∧ S'.1 26 i 3 = 0 ∧ S'.2.2 26 i 4 = 0 ∧ mSame (vaX i) S S') none) 0 0 A := by
  refine Met.ofW (cc := cX6_begin) (maxL := 3) (ret := none) (by decide) rfl ?_
  intro p e s m args below meth c s₁ B hml hv
  obtain ⟨rfl, hG, hH⟩ := hv
  have hx := B.exec
  have hb := B.bytes
  have hr := B.returns
  have hlocks := B.notSynchronized
  have Cx : CallFix p m c cX6_begin 3 s ([.ref (mAdC E 26 i), .int kd, .int sz] : List Value).toArray (Cond.code yX6_begin cX6_begin 3 none :: mv_ws) RX6 := ⟨hx, hb, hml, findClass_of_methodNamed B.named, atoms_spec (ws := Cond.code yX6_begin cX6_begin 3 none :: mv_ws) B.pre⟩
  have hS : va_S A s.heap s.heap [] := va_S.rf
  have hl := lv_entry ([.ref (mAdC E 26 i), .int kd, .int sz]) (n := 3) (Nat.le_of_ble_eq_true rfl)
  rw [lg_entry_eq]
  generalize (lg_sl ([.ref (mAdC E 26 i), .int kd, .int sz]) ++ List.replicate (3 - (lg_sl ([.ref (mAdC E 26 i), .int kd, .int sz])).length) Slot.unset).toArray = ls at hl ⊢
  have hl : lv_has ls 3 [(0, .ref (mAdC E 26 i)), (1, .int kd), (2, .int sz)] := hl
  refine lv_aload_n hx hb dX6_begin_0 rfl (lv_at hl 0 rfl) ?_
  refine g_X6_thing Cx hG hH hi q_fl_X6_14 dX6_begin_1 ?_
  refine lv_iconst (v := 1) hx hb dX6_begin_4 (by decide) ?_
  refine p_X5_present Cx hG hO hH hS (by have := hi; omega) (by decide) q_fl_X6_20 dX6_begin_5 (fun H locs hH hS => ?_)
  refine lv_aload_n hx hb dX6_begin_8 rfl (lv_at hl 0 rfl) ?_
  refine g_X6_thing Cx hG hH hi q_fl_X6_14 dX6_begin_9 ?_
  refine g_X5_data Cx hG hH (by have := hi; omega) q_fl_X6_24 dX6_begin_12 ?_
  refine lv_iload_n hx hb dX6_begin_15 rfl (lv_at hl 1 rfl) ?_
  refine lv_if_ne (tgt := 23) hx hb dX6_begin_16 (by decide) (fun h16 => ?_) (fun h16 => ?_)
  · skip
    refine lv_iload_n hx hb dX6_begin_23 rfl (lv_at hl 1 rfl) ?_
    refine lv_iconst (v := 1) hx hb dX6_begin_24 (by decide) ?_
    refine lv_icmp_ne (tgt := 33) hx hb dX6_begin_25 (by decide) (fun h25 => ?_) (fun h25 => ?_)
    · skip
      refine lv_bipush (v := 32) hx hb dX6_begin_33 (by decide) ?_
      refine p_X0_size Cx hG hO hH hS (by omega) q_fl_X6_28 dX6_begin_35 (fun H locs hH hS => ?_)
      refine lv_aload_n hx hb dX6_begin_38 rfl (lv_at hl 0 rfl) ?_
      refine g_X6_thing Cx hG hH hi q_fl_X6_14 dX6_begin_39 ?_
      refine g_X5_data Cx hG hH (by have := hi; omega) q_fl_X6_24 dX6_begin_42 ?_
      refine g_X0_held Cx hG hH (by omega) q_fl_X6_34 dX6_begin_45 ?_
      refine lv_iconst (v := 0) hx hb dX6_begin_48 (by decide) ?_
      refine mv_callS (Y := mLC) (rest := []) Cx hG hH hS (c_J7_fill_031fb l E A hO (mM (mM S 22 (4 + i) 3 1) 2 (3 + (4 + i)) 1 32) 3 (3 + (4 + i)) (mLn (3 + (4 + i))) (isC_3 (by omega)) 0) q_co_J7_fill_031fb q_ml_X6_38 q_st_J7_fill_031fb q_in_J7 hd_J7_fill_031fb ⟨Nat.le_of_ble_eq_true rfl, Nat.le_of_ble_eq_true rfl⟩ rfl hl.1 rfl (Nat.le_of_ble_eq_true rfl) ⟨Nat.le_of_ble_eq_true rfl, Nat.le_of_ble_eq_true rfl⟩ dX6_begin_49 (fun S49 H locs hP49 hH hS => ?_)
      refine W.eq (g2 := F0 m 52 ls []) rfl ?_
      refine lv_aload_n hx hb dX6_begin_52 rfl (lv_at hl 0 rfl) ?_
      refine lv_iload_n hx hb dX6_begin_53 rfl (lv_at hl 1 rfl) ?_
      refine p_X6_kind Cx hG hO hH hS hi q_fl_X6_44 dX6_begin_54 (fun H locs hH hS => ?_)
      refine lv_aload_n hx hb dX6_begin_57 rfl (lv_at hl 0 rfl) ?_
      refine lv_iconst (v := 0) hx hb dX6_begin_58 (by decide) ?_
      refine p_X6_written Cx hG hO hH hS hi (by decide) q_fl_X6_47 dX6_begin_59 (fun H locs hH hS => ?_)
      refine lv_aload_n hx hb dX6_begin_62 rfl (lv_at hl 0 rfl) ?_
      refine lv_iconst (v := 0) hx hb dX6_begin_63 (by decide) ?_
      refine p_X6_isShut Cx hG hO hH hS hi (by decide) q_fl_X6_50 dX6_begin_64 (fun H locs hH hS => ?_)
      refine lv_aload_n hx hb dX6_begin_67 rfl (lv_at hl 0 rfl) ?_
      refine lv_lconst (v := 0) hx hb dX6_begin_68 (by decide) ?_
      refine p_X6_number Cx hG hO hH hS hi q_fl_X6_53 dX6_begin_69 (fun H locs hH hS => ?_)
      exact mv_retv Cx hr hH hS (⟨fun q hq => hP49.1 q (by rw [mLn_v hi]; exact hq), by rw [show (mJ (mM (mM (mM S49 26 i 1 kd) 26 i 2 0) 26 i 3 0) 26 i 4 0).1 2 (3 + (4 + i)) 1 = S49.1 2 (3 + (4 + i)) 1 by simp [mJ, mM, m3], (hP49.2 2 (3 + (4 + i)) (by simp)).1 1]; simp only [mM, m3, and_self, if_true]; rw [if_neg h16, if_neg h25], by rw [show (mJ (mM (mM (mM S49 26 i 1 kd) 26 i 2 0) 26 i 3 0) 26 i 4 0).1 22 (4 + i) 3 = S49.1 22 (4 + i) 3 by simp [mJ, mM, m3], (hP49.2 22 (4 + i) (by simp)).1 3]; simp [mM, m3], by simp [mJ, mM, m3], by simp [mJ, mM, m3], by simp [mJ, mM, m3], by simp [mJ, mM, m3], (((((((mSame.M (Or.inl ⟨rfl, rfl⟩)).tr (mSame.M (Or.inr (Or.inl ⟨Or.inl rfl, rfl⟩)))).tr (hP49.2.wk (fun _ _ h => Or.inr (Or.inl ⟨Or.inr h.1, h.2⟩)))).tr (mSame.M (Or.inr (Or.inr ⟨rfl, rfl⟩)))).tr (mSame.M (Or.inr (Or.inr ⟨rfl, rfl⟩)))).tr (mSame.M (Or.inr (Or.inr ⟨rfl, rfl⟩)))).tr (mSame.J (Or.inr (Or.inr ⟨rfl, rfl⟩))))⟩) dX6_begin_72 hlocks
    · skip
      refine lv_bipush (v := 8) hx hb dX6_begin_28 (by decide) ?_
      refine lv_goto (tgt := 35) hx hb dX6_begin_30 (by decide) ?_
      refine p_X0_size Cx hG hO hH hS (by omega) q_fl_X6_28 dX6_begin_35 (fun H locs hH hS => ?_)
      refine lv_aload_n hx hb dX6_begin_38 rfl (lv_at hl 0 rfl) ?_
      refine g_X6_thing Cx hG hH hi q_fl_X6_14 dX6_begin_39 ?_
      refine g_X5_data Cx hG hH (by have := hi; omega) q_fl_X6_24 dX6_begin_42 ?_
      refine g_X0_held Cx hG hH (by omega) q_fl_X6_34 dX6_begin_45 ?_
      refine lv_iconst (v := 0) hx hb dX6_begin_48 (by decide) ?_
      refine mv_callS (Y := mLC) (rest := []) Cx hG hH hS (c_J7_fill_031fb l E A hO (mM (mM S 22 (4 + i) 3 1) 2 (3 + (4 + i)) 1 8) 3 (3 + (4 + i)) (mLn (3 + (4 + i))) (isC_3 (by omega)) 0) q_co_J7_fill_031fb q_ml_X6_38 q_st_J7_fill_031fb q_in_J7 hd_J7_fill_031fb ⟨Nat.le_of_ble_eq_true rfl, Nat.le_of_ble_eq_true rfl⟩ rfl hl.1 rfl (Nat.le_of_ble_eq_true rfl) ⟨Nat.le_of_ble_eq_true rfl, Nat.le_of_ble_eq_true rfl⟩ dX6_begin_49 (fun S49 H locs hP49 hH hS => ?_)
      refine W.eq (g2 := F0 m 52 ls []) rfl ?_
      refine lv_aload_n hx hb dX6_begin_52 rfl (lv_at hl 0 rfl) ?_
      refine lv_iload_n hx hb dX6_begin_53 rfl (lv_at hl 1 rfl) ?_
      refine p_X6_kind Cx hG hO hH hS hi q_fl_X6_44 dX6_begin_54 (fun H locs hH hS => ?_)
      refine lv_aload_n hx hb dX6_begin_57 rfl (lv_at hl 0 rfl) ?_
      refine lv_iconst (v := 0) hx hb dX6_begin_58 (by decide) ?_
      refine p_X6_written Cx hG hO hH hS hi (by decide) q_fl_X6_47 dX6_begin_59 (fun H locs hH hS => ?_)
      refine lv_aload_n hx hb dX6_begin_62 rfl (lv_at hl 0 rfl) ?_
      refine lv_iconst (v := 0) hx hb dX6_begin_63 (by decide) ?_
      refine p_X6_isShut Cx hG hO hH hS hi (by decide) q_fl_X6_50 dX6_begin_64 (fun H locs hH hS => ?_)
      refine lv_aload_n hx hb dX6_begin_67 rfl (lv_at hl 0 rfl) ?_
      refine lv_lconst (v := 0) hx hb dX6_begin_68 (by decide) ?_
      refine p_X6_number Cx hG hO hH hS hi q_fl_X6_53 dX6_begin_69 (fun H locs hH hS => ?_)
      exact mv_retv Cx hr hH hS (⟨fun q hq => hP49.1 q (by rw [mLn_v hi]; exact hq), by rw [show (mJ (mM (mM (mM S49 26 i 1 kd) 26 i 2 0) 26 i 3 0) 26 i 4 0).1 2 (3 + (4 + i)) 1 = S49.1 2 (3 + (4 + i)) 1 by simp [mJ, mM, m3], (hP49.2 2 (3 + (4 + i)) (by simp)).1 1]; simp only [mM, m3, and_self, if_true]; rw [if_neg h16, if_pos h25], by rw [show (mJ (mM (mM (mM S49 26 i 1 kd) 26 i 2 0) 26 i 3 0) 26 i 4 0).1 22 (4 + i) 3 = S49.1 22 (4 + i) 3 by simp [mJ, mM, m3], (hP49.2 22 (4 + i) (by simp)).1 3]; simp [mM, m3], by simp [mJ, mM, m3], by simp [mJ, mM, m3], by simp [mJ, mM, m3], by simp [mJ, mM, m3], (((((((mSame.M (Or.inl ⟨rfl, rfl⟩)).tr (mSame.M (Or.inr (Or.inl ⟨Or.inl rfl, rfl⟩)))).tr (hP49.2.wk (fun _ _ h => Or.inr (Or.inl ⟨Or.inr h.1, h.2⟩)))).tr (mSame.M (Or.inr (Or.inr ⟨rfl, rfl⟩)))).tr (mSame.M (Or.inr (Or.inr ⟨rfl, rfl⟩)))).tr (mSame.M (Or.inr (Or.inr ⟨rfl, rfl⟩)))).tr (mSame.J (Or.inr (Or.inr ⟨rfl, rfl⟩))))⟩) dX6_begin_72 hlocks
  · skip
    refine lv_iload_n hx hb dX6_begin_19 rfl (lv_at hl 2 rfl) ?_
    refine lv_goto (tgt := 35) hx hb dX6_begin_20 (by decide) ?_
    refine p_X0_size Cx hG hO hH hS (by omega) q_fl_X6_28 dX6_begin_35 (fun H locs hH hS => ?_)
    refine lv_aload_n hx hb dX6_begin_38 rfl (lv_at hl 0 rfl) ?_
    refine g_X6_thing Cx hG hH hi q_fl_X6_14 dX6_begin_39 ?_
    refine g_X5_data Cx hG hH (by have := hi; omega) q_fl_X6_24 dX6_begin_42 ?_
    refine g_X0_held Cx hG hH (by omega) q_fl_X6_34 dX6_begin_45 ?_
    refine lv_iconst (v := 0) hx hb dX6_begin_48 (by decide) ?_
    refine mv_callS (Y := mLC) (rest := []) Cx hG hH hS (c_J7_fill_031fb l E A hO (mM (mM S 22 (4 + i) 3 1) 2 (3 + (4 + i)) 1 sz) 3 (3 + (4 + i)) (mLn (3 + (4 + i))) (isC_3 (by omega)) 0) q_co_J7_fill_031fb q_ml_X6_38 q_st_J7_fill_031fb q_in_J7 hd_J7_fill_031fb ⟨Nat.le_of_ble_eq_true rfl, Nat.le_of_ble_eq_true rfl⟩ rfl hl.1 rfl (Nat.le_of_ble_eq_true rfl) ⟨Nat.le_of_ble_eq_true rfl, Nat.le_of_ble_eq_true rfl⟩ dX6_begin_49 (fun S49 H locs hP49 hH hS => ?_)
    refine W.eq (g2 := F0 m 52 ls []) rfl ?_
    refine lv_aload_n hx hb dX6_begin_52 rfl (lv_at hl 0 rfl) ?_
    refine lv_iload_n hx hb dX6_begin_53 rfl (lv_at hl 1 rfl) ?_
    refine p_X6_kind Cx hG hO hH hS hi q_fl_X6_44 dX6_begin_54 (fun H locs hH hS => ?_)
    refine lv_aload_n hx hb dX6_begin_57 rfl (lv_at hl 0 rfl) ?_
    refine lv_iconst (v := 0) hx hb dX6_begin_58 (by decide) ?_
    refine p_X6_written Cx hG hO hH hS hi (by decide) q_fl_X6_47 dX6_begin_59 (fun H locs hH hS => ?_)
    refine lv_aload_n hx hb dX6_begin_62 rfl (lv_at hl 0 rfl) ?_
    refine lv_iconst (v := 0) hx hb dX6_begin_63 (by decide) ?_
    refine p_X6_isShut Cx hG hO hH hS hi (by decide) q_fl_X6_50 dX6_begin_64 (fun H locs hH hS => ?_)
    refine lv_aload_n hx hb dX6_begin_67 rfl (lv_at hl 0 rfl) ?_
    refine lv_lconst (v := 0) hx hb dX6_begin_68 (by decide) ?_
    refine p_X6_number Cx hG hO hH hS hi q_fl_X6_53 dX6_begin_69 (fun H locs hH hS => ?_)
    exact mv_retv Cx hr hH hS (⟨fun q hq => hP49.1 q (by rw [mLn_v hi]; exact hq), by rw [show (mJ (mM (mM (mM S49 26 i 1 kd) 26 i 2 0) 26 i 3 0) 26 i 4 0).1 2 (3 + (4 + i)) 1 = S49.1 2 (3 + (4 + i)) 1 by simp [mJ, mM, m3], (hP49.2 2 (3 + (4 + i)) (by simp)).1 1]; simp only [mM, m3, and_self, if_true]; rw [if_pos h16], by rw [show (mJ (mM (mM (mM S49 26 i 1 kd) 26 i 2 0) 26 i 3 0) 26 i 4 0).1 22 (4 + i) 3 = S49.1 22 (4 + i) 3 by simp [mJ, mM, m3], (hP49.2 22 (4 + i) (by simp)).1 3]; simp [mM, m3], by simp [mJ, mM, m3], by simp [mJ, mM, m3], by simp [mJ, mM, m3], by simp [mJ, mM, m3], (((((((mSame.M (Or.inl ⟨rfl, rfl⟩)).tr (mSame.M (Or.inr (Or.inl ⟨Or.inl rfl, rfl⟩)))).tr (hP49.2.wk (fun _ _ h => Or.inr (Or.inl ⟨Or.inr h.1, h.2⟩)))).tr (mSame.M (Or.inr (Or.inr ⟨rfl, rfl⟩)))).tr (mSame.M (Or.inr (Or.inr ⟨rfl, rfl⟩)))).tr (mSame.M (Or.inr (Or.inr ⟨rfl, rfl⟩)))).tr (mSame.J (Or.inr (Or.inr ⟨rfl, rfl⟩))))⟩) dX6_begin_72 hlocks

set_option maxHeartbeats 4000000 in
set_option maxRecDepth 100000 in
theorem c_X6_spellNumber (l : Launch) (E : mEv) (A : Nat → Prop) (hO : mOwn mLC E A) (S : mSt) (i : Nat) (hi : i < 8) : Met l yX6_spellNumber (Cond.code yX6_spellNumber cX6_spellNumber 1 none :: mv_ws) (mRm 2 42) (mPc mLC E A S [.ref (mAdC E 26 i)]) (mQ mLC E A (fun S' => bHas S' (3 + (4 + i)) (w4 ((((S.2.2 26 i 4).toUInt64 >>> ((32 : Int32).toInt64.toUInt64 &&& Int64.toUInt64 63)).toInt64).toInt32) ++ w4 (S.2.2 26 i 4).toInt32) ∧ mSame (bX (3 + (4 + i))) S S') none) 0 0 A := by
  refine Met.ofW (cc := cX6_spellNumber) (maxL := 1) (ret := none) (by decide) rfl ?_
  intro p e s m args below meth c s₁ B hml hv
  obtain ⟨rfl, hG, hH⟩ := hv
  have hx := B.exec
  have hb := B.bytes
  have hr := B.returns
  have hlocks := B.notSynchronized
  have Cx : CallFix p m c cX6_spellNumber 1 s ([.ref (mAdC E 26 i)] : List Value).toArray (Cond.code yX6_spellNumber cX6_spellNumber 1 none :: mv_ws) RX6 := ⟨hx, hb, hml, findClass_of_methodNamed B.named, atoms_spec (ws := Cond.code yX6_spellNumber cX6_spellNumber 1 none :: mv_ws) B.pre⟩
  have hS : va_S A s.heap s.heap [] := va_S.rf
  have hl := lv_entry ([.ref (mAdC E 26 i)]) (n := 1) (Nat.le_of_ble_eq_true rfl)
  rw [lg_entry_eq]
  generalize (lg_sl ([.ref (mAdC E 26 i)]) ++ List.replicate (1 - (lg_sl ([.ref (mAdC E 26 i)])).length) Slot.unset).toArray = ls at hl ⊢
  have hl : lv_has ls 1 [(0, .ref (mAdC E 26 i))] := hl
  refine lv_aload_n hx hb dX6_spellNumber_0 rfl (lv_at hl 0 rfl) ?_
  refine g_X6_thing Cx hG hH hi q_fl_X6_14 dX6_spellNumber_1 ?_
  refine g_X5_data Cx hG hH (by have := hi; omega) q_fl_X6_24 dX6_spellNumber_4 ?_
  refine lv_iconst (v := 0) hx hb dX6_spellNumber_7 (by decide) ?_
  refine p_X0_size Cx hG hO hH hS (by omega) q_fl_X6_28 dX6_spellNumber_8 (fun H locs hH hS => ?_)
  refine lv_aload_n hx hb dX6_spellNumber_11 rfl (lv_at hl 0 rfl) ?_
  refine g_X6_thing Cx hG hH hi q_fl_X6_14 dX6_spellNumber_12 ?_
  refine g_X5_data Cx hG hH (by have := hi; omega) q_fl_X6_24 dX6_spellNumber_15 ?_
  refine lv_aload_n hx hb dX6_spellNumber_18 rfl (lv_at hl 0 rfl) ?_
  refine g_X6_number Cx hG hH hi q_fl_X6_53 dX6_spellNumber_19 ?_
  refine lv_bipush (v := 32) hx hb dX6_spellNumber_22 (by decide) ?_
  refine lv_lushr hx hb dX6_spellNumber_24 rfl ?_
  refine lv_l2i hx hb dX6_spellNumber_25 rfl ?_
  refine mv_callV (Y := mLC) (C := RX0) (k := 2) (i := (3 + (4 + i))) (rest := []) Cx hG hH hS (c_X0_putInt l E A hO (mM S 2 (3 + (4 + i)) 1 0) (3 + (4 + i)) (by omega) [] bHas.nil (((((mM S 2 (3 + (4 + i)) 1 0).2.2 26 i 4).toUInt64 >>> ((32 : Int32).toInt64.toUInt64 &&& Int64.toUInt64 63)).toInt64 : Int64).toInt32) (by rw [mLn_v hi]; decide)) q_co_X0_putInt q_ml_X6_57 q_im_X0_putInt q_se_X0_putInt q_in_X0 (okC_2 (by omega)) rfl rfl hd_X0_putInt ⟨Nat.le_of_ble_eq_true rfl, Nat.le_of_ble_eq_true rfl⟩ rfl hl.1 rfl (Nat.le_of_ble_eq_true rfl) ⟨Nat.le_of_ble_eq_true rfl, Nat.le_of_ble_eq_true rfl⟩ dX6_spellNumber_26 (fun S26 H locs hP26 hH hS => ?_)
  refine W.eq (g2 := F0 m 29 ls []) rfl ?_
  refine lv_aload_n hx hb dX6_spellNumber_29 rfl (lv_at hl 0 rfl) ?_
  refine g_X6_thing Cx hG hH hi q_fl_X6_14 dX6_spellNumber_30 ?_
  refine g_X5_data Cx hG hH (by have := hi; omega) q_fl_X6_24 dX6_spellNumber_33 ?_
  refine lv_aload_n hx hb dX6_spellNumber_36 rfl (lv_at hl 0 rfl) ?_
  refine g_X6_number Cx hG hH hi q_fl_X6_53 dX6_spellNumber_37 ?_
  refine mv_eql (x' := S.2.2 26 i 4) ((hP26.2 26 i (by simp [bX])).2.2 4) ?_
  refine lv_l2i hx hb dX6_spellNumber_40 rfl ?_
  refine mv_callV (Y := mLC) (C := RX0) (k := 2) (i := (3 + (4 + i))) (rest := []) Cx hG hH hS (c_X0_putInt l E A hO S26 (3 + (4 + i)) (by omega) _ hP26.1 ((S.2.2 26 i 4 : Int64).toInt32) (by rw [mLn_v hi, List.nil_append, w4_len]; decide)) q_co_X0_putInt q_ml_X6_57 q_im_X0_putInt q_se_X0_putInt q_in_X0 (okC_2 (by omega)) rfl rfl hd_X0_putInt ⟨Nat.le_of_ble_eq_true rfl, Nat.le_of_ble_eq_true rfl⟩ rfl hl.1 rfl (Nat.le_of_ble_eq_true rfl) ⟨Nat.le_of_ble_eq_true rfl, Nat.le_of_ble_eq_true rfl⟩ dX6_spellNumber_41 (fun S41 H locs hP41 hH hS => ?_)
  refine W.eq (g2 := F0 m 44 ls []) rfl ?_
  exact mv_retv Cx hr hH hS (⟨hP41.1, ((mSame.M ⟨Or.inl rfl, rfl⟩).tr hP26.2).tr hP41.2⟩) dX6_spellNumber_44 hlocks

set_option maxHeartbeats 4000000 in
set_option maxRecDepth 100000 in
theorem c_X3_renew (l : Launch) (E : mEv) (A : Nat → Prop) (hO : mOwn mLC E A) (S : mSt)  : Met l yX3_renew (Cond.code yX3_renew cX3_renew 1 none :: mv_ws) (mRm 3 69) (mPc mLC E A S [.ref (mAdC E 7 0)]) (mQ mLC E A (fun S' => (∀ j, j < 32 → S'.2.1 8 0 j = shaL (mTk (S.2.1 8 0) 32) j) ∧ mSame (fun k i => scX k i ∨ k = 8) S S') none) 0 0 A := by
  refine Met.ofW (cc := cX3_renew) (maxL := 1) (ret := none) (by decide) rfl ?_
  intro p e s m args below meth c s₁ B hml hv
  obtain ⟨rfl, hG, hH⟩ := hv
  have hx := B.exec
  have hb := B.bytes
  have hr := B.returns
  have hlocks := B.notSynchronized
  have Cx : CallFix p m c cX3_renew 1 s ([.ref (mAdC E 7 0)] : List Value).toArray (Cond.code yX3_renew cX3_renew 1 none :: mv_ws) RX3 := ⟨hx, hb, hml, findClass_of_methodNamed B.named, atoms_spec (ws := Cond.code yX3_renew cX3_renew 1 none :: mv_ws) B.pre⟩
  have hS : va_S A s.heap s.heap [] := va_S.rf
  have hl := lv_entry ([.ref (mAdC E 7 0)]) (n := 1) (Nat.le_of_ble_eq_true rfl)
  rw [lg_entry_eq]
  generalize (lg_sl ([.ref (mAdC E 7 0)]) ++ List.replicate (1 - (lg_sl ([.ref (mAdC E 7 0)])).length) Slot.unset).toArray = ls at hl ⊢
  have hl : lv_has ls 1 [(0, .ref (mAdC E 7 0))] := hl
  refine lv_aload_n hx hb dX3_renew_0 rfl (lv_at hl 0 rfl) ?_
  refine g_X3_hasher Cx hG hH q_fl_X3_21 dX3_renew_1 ?_
  refine mv_callV (Y := mLC) (C := RX1) (k := 1) (i := 0) (rest := []) Cx hG hH hS (c_X1_begin l E A hO S) q_co_X1_begin q_ml_X3_25 q_im_X1_begin q_se_X1_begin q_in_X1 okC_1 rfl rfl hd_X1_begin ⟨Nat.le_of_ble_eq_true rfl, Nat.le_of_ble_eq_true rfl⟩ rfl hl.1 rfl (Nat.le_of_ble_eq_true rfl) ⟨Nat.le_of_ble_eq_true rfl, Nat.le_of_ble_eq_true rfl⟩ dX3_renew_4 (fun Sb H locs hP4 hH hS => ?_)
  refine W.eq (g2 := F0 m 7 ls [.ref (mAdC E 2 2)]) rfl ?_
  refine lv_aload_n hx hb dX3_renew_7 rfl (lv_at hl 0 rfl) ?_
  refine g_X3_seed Cx hG hH q_fl_X3_9 dX3_renew_8 ?_
  refine lv_bipush (v := 32) hx hb dX3_renew_11 (by decide) ?_
  refine mv_callV (Y := mLC) (C := RX0) (k := 2) (i := 2) (rest := []) Cx hG hH hS (c_X0_putAll l E A hO Sb 2 (by decide) _ hP4.1 8 0 32 32 isC_8 (by decide) (by decide)) q_co_X0_putAll q_ml_X3_44 q_im_X0_putAll q_se_X0_putAll q_in_X0 (okC_2 (by decide)) rfl rfl hd_X0_putAll ⟨Nat.le_of_ble_eq_true rfl, Nat.le_of_ble_eq_true rfl⟩ rfl hl.1 rfl (Nat.le_of_ble_eq_true rfl) ⟨Nat.le_of_ble_eq_true rfl, Nat.le_of_ble_eq_true rfl⟩ dX3_renew_13 (fun S13 H locs hP13 hH hS => ?_)
  refine W.eq (g2 := F0 m 16 ls []) rfl ?_
  refine lv_aload_n hx hb dX3_renew_16 rfl (lv_at hl 0 rfl) ?_
  refine g_X3_hasher Cx hG hH q_fl_X3_21 dX3_renew_17 ?_
  refine lv_aload_n hx hb dX3_renew_20 rfl (lv_at hl 0 rfl) ?_
  refine g_X3_seed Cx hG hH q_fl_X3_9 dX3_renew_21 ?_
  refine mv_callV (Y := mLC) (C := RX1) (k := 1) (i := 0) (rest := []) Cx hG hH hS (c_X1_finish l E A hO S13 8 0 isC_8 _ hP13.1 (by rw [List.nil_append, mTk_len]; decide)) q_co_X1_finish q_ml_X3_40 q_im_X1_finish q_se_X1_finish q_in_X1 okC_1 rfl rfl hd_X1_finish ⟨Nat.le_of_ble_eq_true rfl, Nat.le_of_ble_eq_true rfl⟩ rfl hl.1 rfl (Nat.le_of_ble_eq_true rfl) ⟨Nat.le_of_ble_eq_true rfl, Nat.le_of_ble_eq_true rfl⟩ dX3_renew_24 (fun S24 H locs hP24 hH hS => ?_)
  refine W.eq (g2 := F0 m 27 ls []) rfl ?_
  exact mv_retv Cx hr hH hS (⟨fun j hj => (hP24.1 j hj).trans (by rw [List.nil_append, mTk_congr (g := S.2.1 8 0) (fun j _ => (hP4.2 8 0 (by simp [bX])).2.1 j)]), ((hP4.2.wk (fun _ _ h => Or.inl (sc_bX h))).tr (hP13.2.wk (fun _ _ h => Or.inl (sc_bX h)))).tr (hP24.2.wk (fun _ _ h => h.elim (fun z => Or.inl (sc_hs z)) (fun z => Or.inr z.1)))⟩) dX3_renew_27 hlocks

set_option maxHeartbeats 4000000 in
set_option maxRecDepth 100000 in
theorem c_X3_derive (l : Launch) (E : mEv) (A : Nat → Prop) (hO : mOwn mLC E A) (S : mSt) (x y : Int32) : Met l yX3_derive (Cond.code yX3_derive cX3_derive 4 none :: mv_ws) (mRm 4 91) (mPc mLC E A S [.ref (mAdC E 7 0), .int x, .int y]) (mQ mLC E A (fun S' => (∀ j, j < 32 → S'.2.1 9 0 j = macL (S.2.1 8 0) ([x.toInt8] ++ w4 y) j) ∧ mSame scX S S') none) 0 0 A := by
  refine Met.ofW (cc := cX3_derive) (maxL := 4) (ret := none) (by decide) rfl ?_
  intro p e s m args below meth c s₁ B hml hv
  obtain ⟨rfl, hG, hH⟩ := hv
  have hx := B.exec
  have hb := B.bytes
  have hr := B.returns
  have hlocks := B.notSynchronized
  have Cx : CallFix p m c cX3_derive 4 s ([.ref (mAdC E 7 0), .int x, .int y] : List Value).toArray (Cond.code yX3_derive cX3_derive 4 none :: mv_ws) RX3 := ⟨hx, hb, hml, findClass_of_methodNamed B.named, atoms_spec (ws := Cond.code yX3_derive cX3_derive 4 none :: mv_ws) B.pre⟩
  have hS : va_S A s.heap s.heap [] := va_S.rf
  have hl := lv_entry ([.ref (mAdC E 7 0), .int x, .int y]) (n := 4) (Nat.le_of_ble_eq_true rfl)
  rw [lg_entry_eq]
  generalize (lg_sl ([.ref (mAdC E 7 0), .int x, .int y]) ++ List.replicate (4 - (lg_sl ([.ref (mAdC E 7 0), .int x, .int y])).length) Slot.unset).toArray = ls at hl ⊢
  have hl : lv_has ls 4 [(0, .ref (mAdC E 7 0)), (1, .int x), (2, .int y)] := hl
  refine lv_aload_n hx hb dX3_derive_0 rfl (lv_at hl 0 rfl) ?_
  refine g_X3_hasher Cx hG hH q_fl_X3_21 dX3_derive_1 ?_
  refine lv_aload_n hx hb dX3_derive_4 rfl (lv_at hl 0 rfl) ?_
  refine g_X3_seed Cx hG hH q_fl_X3_9 dX3_derive_5 ?_
  refine mv_callV (Y := mLC) (C := RX1) (k := 1) (i := 0) (rest := []) Cx hG hH hS (c_X1_beginKeyed l E A hO S 8 0 isC_8 (by simp [bX])) q_co_X1_beginKeyed q_ml_X3_48 q_im_X1_beginKeyed q_se_X1_beginKeyed q_in_X1 okC_1 rfl rfl hd_X1_beginKeyed ⟨Nat.le_of_ble_eq_true rfl, Nat.le_of_ble_eq_true rfl⟩ rfl hl.1 rfl (Nat.le_of_ble_eq_true rfl) ⟨Nat.le_of_ble_eq_true rfl, Nat.le_of_ble_eq_true rfl⟩ dX3_derive_8 (fun S8 H locs hP8 hH hS => ?_)
  refine W.eq (g2 := F0 m 11 ls [.ref (mAdC E 2 2)]) rfl ?_
  refine lv_astore_n (lv' := [(3, .ref (mAdC E 2 2)), (0, .ref (mAdC E 7 0)), (1, .int x), (2, .int y)]) hx hb dX3_derive_11 rfl hl (by decide) rfl (fun ls hl => ?_)
  refine lv_aload_n hx hb dX3_derive_12 rfl (lv_at hl 0 rfl) ?_
  refine lv_iload_n hx hb dX3_derive_13 rfl (lv_at hl 2 rfl) ?_
  refine mv_callV (Y := mLC) (C := RX0) (k := 2) (i := 2) (rest := []) Cx hG hH hS (c_X0_put l E A hO S8 2 (by decide) _ hP8.1 x (by rw [padK_len]; decide)) q_co_X0_put q_ml_X3_31 q_im_X0_put q_se_X0_put q_in_X0 (okC_2 (by decide)) rfl rfl hd_X0_put ⟨Nat.le_of_ble_eq_true rfl, Nat.le_of_ble_eq_true rfl⟩ rfl hl.1 rfl (Nat.le_of_ble_eq_true rfl) ⟨Nat.le_of_ble_eq_true rfl, Nat.le_of_ble_eq_true rfl⟩ dX3_derive_14 (fun S14 H locs hP14 hH hS => ?_)
  refine W.eq (g2 := F0 m 17 ls []) rfl ?_
  refine lv_aload_n hx hb dX3_derive_17 rfl (lv_at hl 0 rfl) ?_
  refine lv_iload_n hx hb dX3_derive_18 rfl (lv_at hl 3 rfl) ?_
  refine mv_callV (Y := mLC) (C := RX0) (k := 2) (i := 2) (rest := []) Cx hG hH hS (c_X0_putInt l E A hO S14 2 (by decide) _ hP14.1 y (by rw [List.length_append, padK_len]; exact Nat.le_of_ble_eq_true rfl)) q_co_X0_putInt q_ml_X3_37 q_im_X0_putInt q_se_X0_putInt q_in_X0 (okC_2 (by decide)) rfl rfl hd_X0_putInt ⟨Nat.le_of_ble_eq_true rfl, Nat.le_of_ble_eq_true rfl⟩ rfl hl.1 rfl (Nat.le_of_ble_eq_true rfl) ⟨Nat.le_of_ble_eq_true rfl, Nat.le_of_ble_eq_true rfl⟩ dX3_derive_19 (fun S19 H locs hP19 hH hS => ?_)
  refine W.eq (g2 := F0 m 22 ls []) rfl ?_
  refine lv_aload_n hx hb dX3_derive_22 rfl (lv_at hl 1 rfl) ?_
  refine g_X3_hasher Cx hG hH q_fl_X3_21 dX3_derive_23 ?_
  refine lv_aload_n hx hb dX3_derive_26 rfl (lv_at hl 1 rfl) ?_
  refine g_X3_seed Cx hG hH q_fl_X3_9 dX3_derive_27 ?_
  refine lv_aload_n hx hb dX3_derive_30 rfl (lv_at hl 1 rfl) ?_
  refine g_X3_derived Cx hG hH q_fl_X3_15 dX3_derive_31 ?_
  refine mv_callV (Y := mLC) (C := RX1) (k := 1) (i := 0) (rest := []) Cx hG hH hS (c_X1_finishKeyed l E A hO S19 8 0 isC_8 (by simp [bX]) 9 0 isC_9 _ hP19.1 (by rw [List.length_append, List.length_append, padK_len]; exact Nat.le_of_ble_eq_true rfl)) q_co_X1_finishKeyed q_ml_X3_52 q_im_X1_finishKeyed q_se_X1_finishKeyed q_in_X1 okC_1 rfl rfl hd_X1_finishKeyed ⟨Nat.le_of_ble_eq_true rfl, Nat.le_of_ble_eq_true rfl⟩ rfl hl.1 rfl (Nat.le_of_ble_eq_true rfl) ⟨Nat.le_of_ble_eq_true rfl, Nat.le_of_ble_eq_true rfl⟩ dX3_derive_34 (fun S34 H locs hP34 hH hS => ?_)
  refine W.eq (g2 := F0 m 37 ls []) rfl ?_
  exact mv_retv Cx hr hH hS (⟨fun j hj => (hP34.1 j hj).trans (by rw [padK_congr (g := S.2.1 8 0) (fun j _ => ((hP19.2 8 0 (by simp [bX])).2.1 j).trans (((hP14.2 8 0 (by simp [bX])).2.1 j).trans ((hP8.2 8 0 (by simp [bX])).2.1 j))), List.append_assoc]; rfl), (((hP8.2.wk (fun _ _ h => sc_bX h)).tr (hP14.2.wk (fun _ _ h => sc_bX h))).tr (hP19.2.wk (fun _ _ h => sc_bX h))).tr (hP34.2.wk (fun k i h => h.elim sc_hs (fun z => z.elim (fun y => by rw [y]; exact sc_6) (fun y => by rw [y.1]; exact sc_9))))⟩) dX3_derive_37 hlocks

set_option maxHeartbeats 4000000 in
set_option maxRecDepth 100000 in
theorem c_X3_findMark (l : Launch) (E : mEv) (A : Nat → Prop) (hO : mOwn mLC E A) (S : mSt) (k0 i0 n0 n : Nat) (hB : mIsB mLC k0 i0 n0) (hne : ¬ bX 2 k0 i0) (hn : n ≤ n0) (hle : n ≤ 439) : Met l yX3_findMark (Cond.code yX3_findMark cX3_findMark 3 none :: mv_ws) (mRm 4 91) (mPc mLC E A S [.ref (mAdC E 7 0), .ref (mAdC E k0 i0), .int (nI n)]) (mQ mLC E A (fun S' => (∀ j, j < 32 → S'.2.1 10 0 j = macL (S.2.1 9 0) (mTk (S.2.1 k0 i0) n) j) ∧ mSame mkX S S') none) 0 0 A := by
  refine Met.ofW (cc := cX3_findMark) (maxL := 3) (ret := none) (by decide) rfl ?_
  intro p e s m args below meth c s₁ B hml hv
  obtain ⟨rfl, hG, hH⟩ := hv
  have hx := B.exec
  have hb := B.bytes
  have hr := B.returns
  have hlocks := B.notSynchronized
  have Cx : CallFix p m c cX3_findMark 3 s ([.ref (mAdC E 7 0), .ref (mAdC E k0 i0), .int (nI n)] : List Value).toArray (Cond.code yX3_findMark cX3_findMark 3 none :: mv_ws) RX3 := ⟨hx, hb, hml, findClass_of_methodNamed B.named, atoms_spec (ws := Cond.code yX3_findMark cX3_findMark 3 none :: mv_ws) B.pre⟩
  have hS : va_S A s.heap s.heap [] := va_S.rf
  have hl := lv_entry ([.ref (mAdC E 7 0), .ref (mAdC E k0 i0), .int (nI n)]) (n := 3) (Nat.le_of_ble_eq_true rfl)
  rw [lg_entry_eq]
  generalize (lg_sl ([.ref (mAdC E 7 0), .ref (mAdC E k0 i0), .int (nI n)]) ++ List.replicate (3 - (lg_sl ([.ref (mAdC E 7 0), .ref (mAdC E k0 i0), .int (nI n)])).length) Slot.unset).toArray = ls at hl ⊢
  have hl : lv_has ls 3 [(0, .ref (mAdC E 7 0)), (1, .ref (mAdC E k0 i0)), (2, .int (nI n))] := hl
  refine lv_aload_n hx hb dX3_findMark_0 rfl (lv_at hl 0 rfl) ?_
  refine g_X3_hasher Cx hG hH q_fl_X3_21 dX3_findMark_1 ?_
  refine lv_aload_n hx hb dX3_findMark_4 rfl (lv_at hl 0 rfl) ?_
  refine g_X3_derived Cx hG hH q_fl_X3_15 dX3_findMark_5 ?_
  refine mv_callV (Y := mLC) (C := RX1) (k := 1) (i := 0) (rest := []) Cx hG hH hS (c_X1_beginKeyed l E A hO S 9 0 isC_9 (by simp [bX])) q_co_X1_beginKeyed q_ml_X3_48 q_im_X1_beginKeyed q_se_X1_beginKeyed q_in_X1 okC_1 rfl rfl hd_X1_beginKeyed ⟨Nat.le_of_ble_eq_true rfl, Nat.le_of_ble_eq_true rfl⟩ rfl hl.1 rfl (Nat.le_of_ble_eq_true rfl) ⟨Nat.le_of_ble_eq_true rfl, Nat.le_of_ble_eq_true rfl⟩ dX3_findMark_8 (fun S8 H locs hP8 hH hS => ?_)
  refine W.eq (g2 := F0 m 11 ls [.ref (mAdC E 2 2)]) rfl ?_
  refine lv_aload_n hx hb dX3_findMark_11 rfl (lv_at hl 1 rfl) ?_
  refine lv_iload_n hx hb dX3_findMark_12 rfl (lv_at hl 2 rfl) ?_
  refine mv_callV (Y := mLC) (C := RX0) (k := 2) (i := 2) (rest := []) Cx hG hH hS (c_X0_putAll l E A hO S8 2 (by decide) _ hP8.1 k0 i0 n0 n hB hn (by rw [padK_len, mLn_2]; omega)) q_co_X0_putAll q_ml_X3_44 q_im_X0_putAll q_se_X0_putAll q_in_X0 (okC_2 (by decide)) rfl rfl hd_X0_putAll ⟨Nat.le_of_ble_eq_true rfl, Nat.le_of_ble_eq_true rfl⟩ rfl hl.1 rfl (Nat.le_of_ble_eq_true rfl) ⟨Nat.le_of_ble_eq_true rfl, Nat.le_of_ble_eq_true rfl⟩ dX3_findMark_13 (fun S13 H locs hP13 hH hS => ?_)
  refine W.eq (g2 := F0 m 16 ls []) rfl ?_
  refine lv_aload_n hx hb dX3_findMark_16 rfl (lv_at hl 0 rfl) ?_
  refine g_X3_hasher Cx hG hH q_fl_X3_21 dX3_findMark_17 ?_
  refine lv_aload_n hx hb dX3_findMark_20 rfl (lv_at hl 0 rfl) ?_
  refine g_X3_derived Cx hG hH q_fl_X3_15 dX3_findMark_21 ?_
  refine lv_aload_n hx hb dX3_findMark_24 rfl (lv_at hl 0 rfl) ?_
  refine g_X3_mark Cx hG hH q_fl_X3_18 dX3_findMark_25 ?_
  refine mv_callV (Y := mLC) (C := RX1) (k := 1) (i := 0) (rest := []) Cx hG hH hS (c_X1_finishKeyed l E A hO S13 9 0 isC_9 (by simp [bX]) 10 0 isC_10 _ hP13.1 (by rw [List.length_append, padK_len, mTk_len]; omega)) q_co_X1_finishKeyed q_ml_X3_52 q_im_X1_finishKeyed q_se_X1_finishKeyed q_in_X1 okC_1 rfl rfl hd_X1_finishKeyed ⟨Nat.le_of_ble_eq_true rfl, Nat.le_of_ble_eq_true rfl⟩ rfl hl.1 rfl (Nat.le_of_ble_eq_true rfl) ⟨Nat.le_of_ble_eq_true rfl, Nat.le_of_ble_eq_true rfl⟩ dX3_findMark_28 (fun S28 H locs hP28 hH hS => ?_)
  refine W.eq (g2 := F0 m 31 ls []) rfl ?_
  exact mv_retv Cx hr hH hS (⟨fun j hj => (hP28.1 j hj).trans (by rw [padK_congr (g := S.2.1 9 0) (fun j _ => ((hP13.2 9 0 (by simp [bX])).2.1 j).trans ((hP8.2 9 0 (by simp [bX])).2.1 j)), mTk_congr (g := S.2.1 k0 i0) (fun j _ => (hP8.2 k0 i0 hne).2.1 j)]; rfl), ((hP8.2.wk (fun _ _ h => Or.inl (Or.inl h))).tr (hP13.2.wk (fun _ _ h => Or.inl (Or.inl h)))).tr (hP28.2.wk (fun _ _ h => h.elim Or.inl (fun z => z.elim (fun y => Or.inr (Or.inl y)) (fun y => Or.inr (Or.inr y.1)))))⟩) dX3_findMark_31 hlocks

set_option maxHeartbeats 4000000 in
set_option maxRecDepth 100000 in
theorem c_X3_sign (l : Launch) (E : mEv) (A : Nat → Prop) (hO : mOwn mLC E A) (S : mSt) (ts : List Int8) (hts : bHas S 1 ts) (hle : ts.length + 32 ≤ mLn 1) : Met l yX3_sign (Cond.code yX3_sign cX3_sign 2 none :: mv_ws) (mRm 5 113) (mPc mLC E A S [.ref (mAdC E 7 0), .ref (mAdC E 2 1)]) (mQ mLC E A (fun S' => bHas S' 1 (ts ++ mTk (macL (macL (S.2.1 8 0) [(81 : Int32).toInt8]) ts) 32) ∧ mSame (fun k i => scX k i ∨ bX 1 k i) S S') none) 0 0 A := by
  refine Met.ofW (cc := cX3_sign) (maxL := 2) (ret := none) (by decide) rfl ?_
  intro p e s m args below meth c s₁ B hml hv
  obtain ⟨rfl, hG, hH⟩ := hv
  have hx := B.exec
  have hb := B.bytes
  have hr := B.returns
  have hlocks := B.notSynchronized
  have Cx : CallFix p m c cX3_sign 2 s ([.ref (mAdC E 7 0), .ref (mAdC E 2 1)] : List Value).toArray (Cond.code yX3_sign cX3_sign 2 none :: mv_ws) RX3 := ⟨hx, hb, hml, findClass_of_methodNamed B.named, atoms_spec (ws := Cond.code yX3_sign cX3_sign 2 none :: mv_ws) B.pre⟩
  have hS : va_S A s.heap s.heap [] := va_S.rf
  have hl := lv_entry ([.ref (mAdC E 7 0), .ref (mAdC E 2 1)]) (n := 2) (Nat.le_of_ble_eq_true rfl)
  rw [lg_entry_eq]
  generalize (lg_sl ([.ref (mAdC E 7 0), .ref (mAdC E 2 1)]) ++ List.replicate (2 - (lg_sl ([.ref (mAdC E 7 0), .ref (mAdC E 2 1)])).length) Slot.unset).toArray = ls at hl ⊢
  have hl : lv_has ls 2 [(0, .ref (mAdC E 7 0)), (1, .ref (mAdC E 2 1))] := hl
  refine lv_aload_n hx hb dX3_sign_0 rfl (lv_at hl 0 rfl) ?_
  refine g_X3_hasher Cx hG hH q_fl_X3_21 dX3_sign_1 ?_
  refine lv_aload_n hx hb dX3_sign_4 rfl (lv_at hl 0 rfl) ?_
  refine g_X3_seed Cx hG hH q_fl_X3_9 dX3_sign_5 ?_
  refine mv_callV (Y := mLC) (C := RX1) (k := 1) (i := 0) (rest := []) Cx hG hH hS (c_X1_beginKeyed l E A hO S 8 0 isC_8 (by simp [bX])) q_co_X1_beginKeyed q_ml_X3_48 q_im_X1_beginKeyed q_se_X1_beginKeyed q_in_X1 okC_1 rfl rfl hd_X1_beginKeyed ⟨Nat.le_of_ble_eq_true rfl, Nat.le_of_ble_eq_true rfl⟩ rfl hl.1 rfl (Nat.le_of_ble_eq_true rfl) ⟨Nat.le_of_ble_eq_true rfl, Nat.le_of_ble_eq_true rfl⟩ dX3_sign_8 (fun S8 H locs hP8 hH hS => ?_)
  refine W.eq (g2 := F0 m 11 ls [.ref (mAdC E 2 2)]) rfl ?_
  refine lv_bipush (v := 81) hx hb dX3_sign_11 (by decide) ?_
  refine mv_callV (Y := mLC) (C := RX0) (k := 2) (i := 2) (rest := []) Cx hG hH hS (c_X0_put l E A hO S8 2 (by decide) _ hP8.1 81 (by rw [padK_len]; decide)) q_co_X0_put q_ml_X3_31 q_im_X0_put q_se_X0_put q_in_X0 (okC_2 (by decide)) rfl rfl hd_X0_put ⟨Nat.le_of_ble_eq_true rfl, Nat.le_of_ble_eq_true rfl⟩ rfl hl.1 rfl (Nat.le_of_ble_eq_true rfl) ⟨Nat.le_of_ble_eq_true rfl, Nat.le_of_ble_eq_true rfl⟩ dX3_sign_13 (fun S13 H locs hP13 hH hS => ?_)
  refine W.eq (g2 := F0 m 16 ls []) rfl ?_
  refine lv_aload_n hx hb dX3_sign_16 rfl (lv_at hl 0 rfl) ?_
  refine g_X3_hasher Cx hG hH q_fl_X3_21 dX3_sign_17 ?_
  refine lv_aload_n hx hb dX3_sign_20 rfl (lv_at hl 0 rfl) ?_
  refine g_X3_seed Cx hG hH q_fl_X3_9 dX3_sign_21 ?_
  refine lv_aload_n hx hb dX3_sign_24 rfl (lv_at hl 0 rfl) ?_
  refine g_X3_derived Cx hG hH q_fl_X3_15 dX3_sign_25 ?_
  refine mv_callV (Y := mLC) (C := RX1) (k := 1) (i := 0) (rest := []) Cx hG hH hS (c_X1_finishKeyed l E A hO S13 8 0 isC_8 (by simp [bX]) 9 0 isC_9 _ hP13.1 (by rw [List.length_append, padK_len]; decide)) q_co_X1_finishKeyed q_ml_X3_52 q_im_X1_finishKeyed q_se_X1_finishKeyed q_in_X1 okC_1 rfl rfl hd_X1_finishKeyed ⟨Nat.le_of_ble_eq_true rfl, Nat.le_of_ble_eq_true rfl⟩ rfl hl.1 rfl (Nat.le_of_ble_eq_true rfl) ⟨Nat.le_of_ble_eq_true rfl, Nat.le_of_ble_eq_true rfl⟩ dX3_sign_28 (fun S28 H locs hP28 hH hS => ?_)
  refine W.eq (g2 := F0 m 31 ls []) rfl ?_
  have s28 : mSame scX S S28 := ((hP8.2.wk (fun _ _ h => sc_bX h)).tr (hP13.2.wk (fun _ _ h => sc_bX h))).tr (hP28.2.wk (fun k i h => h.elim sc_hs (fun z => z.elim (fun y => by rw [y]; exact sc_6) (fun y => by rw [y.1]; exact sc_9))))
  have hts28 : bHas S28 1 ts := hts.keep s28 (by simp [scX, hsX, bX]) (by simp [scX, hsX, bX])
  refine lv_aload_n hx hb dX3_sign_31 rfl (lv_at hl 0 rfl) ?_
  refine lv_aload_n hx hb dX3_sign_32 rfl (lv_at hl 1 rfl) ?_
  refine g_X0_held Cx hG hH (by decide) q_fl_X3_56 dX3_sign_33 ?_
  refine lv_aload_n hx hb dX3_sign_36 rfl (lv_at hl 1 rfl) ?_
  refine g_X0_size Cx hG hH (by decide) q_fl_X3_59 dX3_sign_37 ?_
  refine mv_eqi (x' := nI ts.length) (hts28.1) ?_
  refine mv_callV (Y := mLC) (C := RX3) (k := 7) (i := 0) (rest := []) Cx hG hH hS (c_X3_findMark l E A hO S28 3 1 (mLn 1) ts.length (isC_3 (by decide)) (by simp [bX]) hts.2.1 (by have := hts.2.1; have : mLn 1 = 229 := rfl; omega)) q_co_X3_findMark q_ml_X3_63 q_im_X3_findMark q_se_X3_findMark q_in_X3 okC_7 rfl rfl hd_X3_findMark ⟨Nat.le_of_ble_eq_true rfl, Nat.le_of_ble_eq_true rfl⟩ rfl hl.1 rfl (Nat.le_of_ble_eq_true rfl) ⟨Nat.le_of_ble_eq_true rfl, Nat.le_of_ble_eq_true rfl⟩ dX3_sign_40 (fun S40 H locs hP40 hH hS => ?_)
  refine W.eq (g2 := F0 m 43 ls []) rfl ?_
  have hts40 : bHas S40 1 ts := hts28.keep hP40.2 (by simp [mkX, hsX, bX]) (by simp [mkX, hsX, bX])
  refine lv_aload_n hx hb dX3_sign_43 rfl (lv_at hl 1 rfl) ?_
  refine lv_aload_n hx hb dX3_sign_44 rfl (lv_at hl 0 rfl) ?_
  refine g_X3_mark Cx hG hH q_fl_X3_18 dX3_sign_45 ?_
  refine lv_bipush (v := 32) hx hb dX3_sign_48 (by decide) ?_
  refine mv_callV (Y := mLC) (C := RX0) (k := 2) (i := 1) (rest := []) Cx hG hH hS (c_X0_putAll l E A hO S40 1 (by decide) ts hts40 10 0 32 32 isC_10 (by decide) hle) q_co_X0_putAll q_ml_X3_44 q_im_X0_putAll q_se_X0_putAll q_in_X0 (okC_2 (by decide)) rfl rfl hd_X0_putAll ⟨Nat.le_of_ble_eq_true rfl, Nat.le_of_ble_eq_true rfl⟩ rfl hl.1 rfl (Nat.le_of_ble_eq_true rfl) ⟨Nat.le_of_ble_eq_true rfl, Nat.le_of_ble_eq_true rfl⟩ dX3_sign_50 (fun S50 H locs hP50 hH hS => ?_)
  refine W.eq (g2 := F0 m 53 ls []) rfl ?_
  exact mv_retv Cx hr hH hS (⟨by have h := hP50.1; rw [mTk_congr (g := macL (macL (S.2.1 8 0) [(81 : Int32).toInt8]) ts) (fun j hj => (hP40.1 j hj).trans ((macL_congr (g := macL (S.2.1 8 0) [(81 : Int32).toInt8]) (fun q hq => (hP28.1 q hq).trans (by rw [padK_congr (g := S.2.1 8 0) (fun j _ => ((hP13.2 8 0 (by simp [bX])).2.1 j).trans ((hP8.2 8 0 (by simp [bX])).2.1 j))]; rfl)) j).trans (by rw [mTk_has hts28])))] at h; exact h, ((s28.wk (fun _ _ h => Or.inl h)).tr (hP40.2.wk (fun _ _ h => Or.inl (mk_sc h)))).tr (hP50.2.wk (fun _ _ h => Or.inr h))⟩) dX3_sign_53 hlocks
