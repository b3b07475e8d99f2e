/-- the number that four bytes spell -/
def mW4 (f : Nat → Int8) (a : Nat) : Int32 := (f a).toInt32 <<< ((24 : Int32) &&& 31) ||| ((f (a + 1)).toInt32 &&& 255) <<< ((16 : Int32) &&& 31) ||| ((f (a + 2)).toInt32 &&& 255) <<< ((8 : Int32) &&& 31) ||| ((f (a + 3)).toInt32 &&& 255)
set_option maxHeartbeats 4000000 in
set_option maxRecDepth 100000 in
/-- Bytes.hasRoomFor -/
theorem c_X0_hasRoomFor (l : Launch) (E : mEv) (A : Nat → Prop) (hO : mOwn mLC E A) (S : mSt) (i : Nat) (hi : i < 15) (xs : List Int8) (hxs : bHas S i xs) (x : Int32) : Met l yX0_hasRoomFor (Cond.code yX0_hasRoomFor cX0_hasRoomFor 2 (some .boolean) :: mv_ws) (mRm 0 0) (mPc mLC E A S [.ref (mAdC E 2 i), .int x]) (mQ mLC E A (fun S' => S' = S) (some (.int (if x ≤ nI (mLn i - xs.length) then 1 else 0)))) 0 0 A := by
  refine Met.ofW (cc := cX0_hasRoomFor) (maxL := 2) (ret := (some .boolean)) (by decide) rfl ?_
  intro p e s m args below meth c s₁ B hml hv
  obtain ⟨rfl, hG, hH⟩ := hv
  have hx := B.exec
  have hb := B.bytes
  have hr := B.returns
  have hlocks := B.notSynchronized
  have Cx : CallFix p m c cX0_hasRoomFor 2 s ([.ref (mAdC E 2 i), .int x] : List Value).toArray (Cond.code yX0_hasRoomFor cX0_hasRoomFor 2 (some .boolean) :: mv_ws) RX0 := ⟨hx, hb, hml, findClass_of_methodNamed B.named, atoms_spec (ws := Cond.code yX0_hasRoomFor cX0_hasRoomFor 2 (some .boolean) :: mv_ws) B.pre⟩
  have hS : va_S A s.heap s.heap [] := va_S.rf
  have hl := lv_entry ([.ref (mAdC E 2 i), .int x]) (n := 2) (Nat.le_of_ble_eq_true rfl)
  rw [lg_entry_eq]
  generalize (lg_sl ([.ref (mAdC E 2 i), .int x]) ++ List.replicate (2 - (lg_sl ([.ref (mAdC E 2 i), .int x])).length) Slot.unset).toArray = ls at hl ⊢
  have hl : lv_has ls 2 [(0, .ref (mAdC E 2 i)), (1, .int x)] := hl
  refine lv_iload_n hx hb dX0_hasRoomFor_0 rfl (lv_at hl 1 rfl) ?_
  refine lv_aload_n hx hb dX0_hasRoomFor_1 rfl (lv_at hl 0 rfl) ?_
  refine g_X0_held Cx hG hH hi q_fl_X0_7 dX0_hasRoomFor_2 ?_
  refine mv_blen Cx hG hH (isC_3 hi) dX0_hasRoomFor_5 ?_
  refine lv_aload_n hx hb dX0_hasRoomFor_6 rfl (lv_at hl 0 rfl) ?_
  refine g_X0_size Cx hG hH hi q_fl_X0_13 dX0_hasRoomFor_7 ?_
  refine mv_eqi (x' := nI xs.length) (hxs.1) ?_
  refine lv_isub hx hb dX0_hasRoomFor_10 ?_
  refine mv_eqi (x' := nI (mLn i - xs.length)) (pk_sub hxs.2.1) ?_
  refine lv_icmp_gt (tgt := 18) hx hb dX0_hasRoomFor_11 (by decide) (fun h11 => ?_) (fun h11 => ?_)
  · skip
    refine lv_iconst (v := 0) hx hb dX0_hasRoomFor_18 (by decide) ?_
    exact mv_retz Cx hr hH hS (by decide) ((if_neg (Int32.not_le.mpr h11)).symm) (rfl) dX0_hasRoomFor_19 hlocks
  · skip
    refine lv_iconst (v := 1) hx hb dX0_hasRoomFor_14 (by decide) ?_
    refine lv_goto (tgt := 19) hx hb dX0_hasRoomFor_15 (by decide) ?_
    exact mv_retz Cx hr hH hS (by decide) ((if_pos (Int32.not_lt.mp h11)).symm) (rfl) dX0_hasRoomFor_19 hlocks

set_option maxHeartbeats 4000000 in
set_option maxRecDepth 100000 in
/-- Bytes.put -/
theorem c_X0_put (l : Launch) (E : mEv) (A : Nat → Prop) (hO : mOwn mLC E A) (S : mSt) (i : Nat) (hi : i < 15) (xs : List Int8) (hxs : bHas S i xs) (x : Int32) (hle : xs.length + 1 ≤ mLn i) : Met l yX0_put (Cond.code yX0_put cX0_put 2 none :: mv_ws) (mRm 0 0) (mPc mLC E A S [.ref (mAdC E 2 i), .int x]) (mQ mLC E A (fun S' => bHas S' i (xs ++ [x.toInt8]) ∧ mSame (bX i) S S') none) 0 0 A := by
  refine Met.ofW (cc := cX0_put) (maxL := 2) (ret := none) (by decide) rfl ?_
  intro p e s m args below meth c s₁ B hml hv
  obtain ⟨rfl, hG, hH⟩ := hv
  have hx := B.exec
  have hb := B.bytes
  have hr := B.returns
  have hlocks := B.notSynchronized
  have Cx : CallFix p m c cX0_put 2 s ([.ref (mAdC E 2 i), .int x] : List Value).toArray (Cond.code yX0_put cX0_put 2 none :: mv_ws) RX0 := ⟨hx, hb, hml, findClass_of_methodNamed B.named, atoms_spec (ws := Cond.code yX0_put cX0_put 2 none :: mv_ws) B.pre⟩
  have hS : va_S A s.heap s.heap [] := va_S.rf
  have hl := lv_entry ([.ref (mAdC E 2 i), .int x]) (n := 2) (Nat.le_of_ble_eq_true rfl)
  rw [lg_entry_eq]
  generalize (lg_sl ([.ref (mAdC E 2 i), .int x]) ++ List.replicate (2 - (lg_sl ([.ref (mAdC E 2 i), .int x])).length) Slot.unset).toArray = ls at hl ⊢
  have hl : lv_has ls 2 [(0, .ref (mAdC E 2 i)), (1, .int x)] := hl
  refine lv_aload_n hx hb dX0_put_0 rfl (lv_at hl 0 rfl) ?_
  refine g_X0_size Cx hG hH hi q_fl_X0_13 dX0_put_1 ?_
  refine mv_eqi (x' := nI xs.length) (hxs.1) ?_
  refine lv_aload_n hx hb dX0_put_4 rfl (lv_at hl 0 rfl) ?_
  refine g_X0_held Cx hG hH hi q_fl_X0_7 dX0_put_5 ?_
  refine mv_blen Cx hG hH (isC_3 hi) dX0_put_8 ?_
  refine lv_icmp_ge (tgt := 33) hx hb dX0_put_9 (by decide) (fun h9 => ?_) (fun h9 => ?_)
  · skip
    exact absurd h9 (nI_ge (by omega) (mLn_lt i))
  · skip
    refine lv_aload_n hx hb dX0_put_12 rfl (lv_at hl 0 rfl) ?_
    refine g_X0_held Cx hG hH hi q_fl_X0_7 dX0_put_13 ?_
    refine lv_aload_n hx hb dX0_put_16 rfl (lv_at hl 0 rfl) ?_
    refine g_X0_size Cx hG hH hi q_fl_X0_13 dX0_put_17 ?_
    refine mv_eqi (x' := nI xs.length) (hxs.1) ?_
    refine lv_iload_n hx hb dX0_put_20 rfl (lv_at hl 1 rfl) ?_
    refine lv_i2b hx hb dX0_put_21 rfl ?_
    refine mv_bas8 Cx hG hO hH hS (isC_3 hi) xs.length x.toInt8 rfl (rfl) (by omega) dX0_put_22 (fun H locs hH hS => ?_)
    refine lv_aload_n hx hb dX0_put_23 rfl (lv_at hl 0 rfl) ?_
    refine lv_dup hx hb dX0_put_24 rfl ?_
    refine g_X0_size Cx hG hH hi q_fl_X0_13 dX0_put_25 ?_
    refine mv_eqi (x' := nI xs.length) (by simpa [mB] using hxs.1) ?_
    refine lv_iconst (v := 1) hx hb dX0_put_28 (by decide) ?_
    refine lv_iadd hx hb dX0_put_29 ?_
    refine mv_eqi (x' := nI (xs.length + 1)) (nI_1 _) ?_
    refine p_X0_size Cx hG hO hH hS hi q_fl_X0_13 dX0_put_30 (fun H locs hH hS => ?_)
    exact mv_retv Cx hr hH hS (⟨hxs.put hle, (mSame.B ⟨Or.inr rfl, rfl⟩).tr (mSame.M ⟨Or.inl rfl, rfl⟩)⟩) dX0_put_33 hlocks

set_option maxHeartbeats 4000000 in
set_option maxRecDepth 100000 in
/-- Bytes.putInt -/
theorem c_X0_putInt (l : Launch) (E : mEv) (A : Nat → Prop) (hO : mOwn mLC E A) (S : mSt) (i : Nat) (hi : i < 15) (xs : List Int8) (hxs : bHas S i xs) (x : Int32) (hle : xs.length + 4 ≤ mLn i) : Met l yX0_putInt (Cond.code yX0_putInt cX0_putInt 2 none :: mv_ws) (mRm 1 21) (mPc mLC E A S [.ref (mAdC E 2 i), .int x]) (mQ mLC E A (fun S' => bHas S' i (xs ++ w4 x) ∧ mSame (bX i) S S') none) 0 0 A := by
  refine Met.ofW (cc := cX0_putInt) (maxL := 2) (ret := none) (by decide) rfl ?_
  intro p e s m args below meth c s₁ B hml hv
  obtain ⟨rfl, hG, hH⟩ := hv
  have hx := B.exec
  have hb := B.bytes
  have hr := B.returns
  have hlocks := B.notSynchronized
  have Cx : CallFix p m c cX0_putInt 2 s ([.ref (mAdC E 2 i), .int x] : List Value).toArray (Cond.code yX0_putInt cX0_putInt 2 none :: mv_ws) RX0 := ⟨hx, hb, hml, findClass_of_methodNamed B.named, atoms_spec (ws := Cond.code yX0_putInt cX0_putInt 2 none :: mv_ws) B.pre⟩
  have hS : va_S A s.heap s.heap [] := va_S.rf
  have hl := lv_entry ([.ref (mAdC E 2 i), .int x]) (n := 2) (Nat.le_of_ble_eq_true rfl)
  rw [lg_entry_eq]
  generalize (lg_sl ([.ref (mAdC E 2 i), .int x]) ++ List.replicate (2 - (lg_sl ([.ref (mAdC E 2 i), .int x])).length) Slot.unset).toArray = ls at hl ⊢
  have hl : lv_has ls 2 [(0, .ref (mAdC E 2 i)), (1, .int x)] := hl
  refine lv_aload_n hx hb dX0_putInt_0 rfl (lv_at hl 0 rfl) ?_
  refine lv_iload_n hx hb dX0_putInt_1 rfl (lv_at hl 1 rfl) ?_
  refine lv_bipush (v := 24) hx hb dX0_putInt_2 (by decide) ?_
  refine lv_iushr hx hb dX0_putInt_4 rfl ?_
  refine mv_callV (Y := mLC) (C := RX0) (k := 2) (i := i) (rest := []) Cx hG hH hS (c_X0_put l E A hO S i hi xs hxs ((x.toUInt32 >>> ((24 : Int32).toUInt32 &&& Int32.toUInt32 31)).toInt32) (by (try simp only [List.length_append, List.length_singleton]); omega)) q_co_X0_put q_ml_X0_17 q_im_X0_put q_se_X0_put q_in_X0 (okC_2 hi) rfl rfl hd_X0_put ⟨Nat.le_of_ble_eq_true rfl, Nat.le_of_ble_eq_true rfl⟩ rfl hl.1 rfl (Nat.le_of_ble_eq_true rfl) ⟨Nat.le_of_ble_eq_true rfl, Nat.le_of_ble_eq_true rfl⟩ dX0_putInt_5 (fun S5 H locs hP5 hH hS => ?_)
  refine W.eq (g2 := F0 m 8 ls []) rfl ?_
  refine lv_aload_n hx hb dX0_putInt_8 rfl (lv_at hl 0 rfl) ?_
  refine lv_iload_n hx hb dX0_putInt_9 rfl (lv_at hl 1 rfl) ?_
  refine lv_bipush (v := 16) hx hb dX0_putInt_10 (by decide) ?_
  refine lv_iushr hx hb dX0_putInt_12 rfl ?_
  refine mv_callV (Y := mLC) (C := RX0) (k := 2) (i := i) (rest := []) Cx hG hH hS (c_X0_put l E A hO S5 i hi (xs ++ [((x.toUInt32 >>> ((24 : Int32).toUInt32 &&& Int32.toUInt32 31)).toInt32).toInt8]) hP5.1 ((x.toUInt32 >>> ((16 : Int32).toUInt32 &&& Int32.toUInt32 31)).toInt32) (by (try simp only [List.length_append, List.length_singleton]); omega)) q_co_X0_put q_ml_X0_17 q_im_X0_put q_se_X0_put q_in_X0 (okC_2 hi) rfl rfl hd_X0_put ⟨Nat.le_of_ble_eq_true rfl, Nat.le_of_ble_eq_true rfl⟩ rfl hl.1 rfl (Nat.le_of_ble_eq_true rfl) ⟨Nat.le_of_ble_eq_true rfl, Nat.le_of_ble_eq_true rfl⟩ dX0_putInt_13 (fun S13 H locs hP13 hH hS => ?_)
  refine W.eq (g2 := F0 m 16 ls []) rfl ?_
  refine lv_aload_n hx hb dX0_putInt_16 rfl (lv_at hl 0 rfl) ?_
  refine lv_iload_n hx hb dX0_putInt_17 rfl (lv_at hl 1 rfl) ?_
  refine lv_bipush (v := 8) hx hb dX0_putInt_18 (by decide) ?_
  refine lv_iushr hx hb dX0_putInt_20 rfl ?_
  refine mv_callV (Y := mLC) (C := RX0) (k := 2) (i := i) (rest := []) Cx hG hH hS (c_X0_put l E A hO S13 i hi ((xs ++ [((x.toUInt32 >>> ((24 : Int32).toUInt32 &&& Int32.toUInt32 31)).toInt32).toInt8]) ++ [((x.toUInt32 >>> ((16 : Int32).toUInt32 &&& Int32.toUInt32 31)).toInt32).toInt8]) hP13.1 ((x.toUInt32 >>> ((8 : Int32).toUInt32 &&& Int32.toUInt32 31)).toInt32) (by (try simp only [List.length_append, List.length_singleton]); omega)) q_co_X0_put q_ml_X0_17 q_im_X0_put q_se_X0_put q_in_X0 (okC_2 hi) rfl rfl hd_X0_put ⟨Nat.le_of_ble_eq_true rfl, Nat.le_of_ble_eq_true rfl⟩ rfl hl.1 rfl (Nat.le_of_ble_eq_true rfl) ⟨Nat.le_of_ble_eq_true rfl, Nat.le_of_ble_eq_true rfl⟩ dX0_putInt_21 (fun S21 H locs hP21 hH hS => ?_)
  refine W.eq (g2 := F0 m 24 ls []) rfl ?_
  refine lv_aload_n hx hb dX0_putInt_24 rfl (lv_at hl 0 rfl) ?_
  refine lv_iload_n hx hb dX0_putInt_25 rfl (lv_at hl 1 rfl) ?_
  refine mv_callV (Y := mLC) (C := RX0) (k := 2) (i := i) (rest := []) Cx hG hH hS (c_X0_put l E A hO S21 i hi (((xs ++ [((x.toUInt32 >>> ((24 : Int32).toUInt32 &&& Int32.toUInt32 31)).toInt32).toInt8]) ++ [((x.toUInt32 >>> ((16 : Int32).toUInt32 &&& Int32.toUInt32 31)).toInt32).toInt8]) ++ [((x.toUInt32 >>> ((8 : Int32).toUInt32 &&& Int32.toUInt32 31)).toInt32).toInt8]) hP21.1 x (by (try simp only [List.length_append, List.length_singleton]); omega)) q_co_X0_put q_ml_X0_17 q_im_X0_put q_se_X0_put q_in_X0 (okC_2 hi) rfl rfl hd_X0_put ⟨Nat.le_of_ble_eq_true rfl, Nat.le_of_ble_eq_true rfl⟩ rfl hl.1 rfl (Nat.le_of_ble_eq_true rfl) ⟨Nat.le_of_ble_eq_true rfl, Nat.le_of_ble_eq_true rfl⟩ dX0_putInt_26 (fun S26 H locs hP26 hH hS => ?_)
  refine W.eq (g2 := F0 m 29 ls []) rfl ?_
  exact mv_retv Cx hr hH hS (⟨by have h := hP26.1; simpa [w4] using h, ((hP5.2.tr hP13.2).tr hP21.2).tr hP26.2⟩) dX0_putInt_29 hlocks

set_option maxHeartbeats 4000000 in
set_option maxRecDepth 100000 in
/-- Bytes.putAll -/
theorem c_X0_putAll (l : Launch) (E : mEv) (A : Nat → Prop) (hO : mOwn mLC E A) (S : mSt) (i : Nat) (hi : i < 15) (xs : List Int8) (hxs : bHas S i xs) (k0 i0 n0 n : Nat) (hB : mIsB mLC k0 i0 n0) (hn : n ≤ n0) (hle : xs.length + n ≤ mLn i) : Met l yX0_putAll (Cond.code yX0_putAll cX0_putAll 4 none :: mv_ws) (mRm 1 40) (mPc mLC E A S [.ref (mAdC E 2 i), .ref (mAdC E k0 i0), .int (nI n)]) (mQ mLC E A (fun S' => bHas S' i (xs ++ mTk (S.2.1 k0 i0) n) ∧ mSame (bX i) S S') none) 0 0 A := by
  refine Met.ofW (cc := cX0_putAll) (maxL := 4) (ret := none) (by decide) rfl ?_
  intro p e s m args below meth c s₁ B hml hv
  obtain ⟨rfl, hG, hH⟩ := hv
  have hx := B.exec
  have hb := B.bytes
  have hr := B.returns
  have hlocks := B.notSynchronized
  have Cx : CallFix p m c cX0_putAll 4 s ([.ref (mAdC E 2 i), .ref (mAdC E k0 i0), .int (nI n)] : List Value).toArray (Cond.code yX0_putAll cX0_putAll 4 none :: mv_ws) RX0 := ⟨hx, hb, hml, findClass_of_methodNamed B.named, atoms_spec (ws := Cond.code yX0_putAll cX0_putAll 4 none :: mv_ws) B.pre⟩
  have hS : va_S A s.heap s.heap [] := va_S.rf
  have hn0 := hB.2.1
  have hl := lv_entry ([.ref (mAdC E 2 i), .ref (mAdC E k0 i0), .int (nI n)]) (n := 4) (Nat.le_of_ble_eq_true rfl)
  rw [lg_entry_eq]
  generalize (lg_sl ([.ref (mAdC E 2 i), .ref (mAdC E k0 i0), .int (nI n)]) ++ List.replicate (4 - (lg_sl ([.ref (mAdC E 2 i), .ref (mAdC E k0 i0), .int (nI n)])).length) Slot.unset).toArray = ls at hl ⊢
  have hl : lv_has ls 4 [(0, .ref (mAdC E 2 i)), (1, .ref (mAdC E k0 i0)), (2, .int (nI n))] := hl
  refine lv_iload_n hx hb dX0_putAll_0 rfl (lv_at hl 2 rfl) ?_
  refine lv_aload_n hx hb dX0_putAll_1 rfl (lv_at hl 0 rfl) ?_
  refine g_X0_held Cx hG hH hi q_fl_X0_7 dX0_putAll_2 ?_
  refine mv_blen Cx hG hH (isC_3 hi) dX0_putAll_5 ?_
  refine lv_aload_n hx hb dX0_putAll_6 rfl (lv_at hl 0 rfl) ?_
  refine g_X0_size Cx hG hH hi q_fl_X0_13 dX0_putAll_7 ?_
  refine mv_eqi (x' := nI xs.length) (hxs.1) ?_
  refine lv_isub hx hb dX0_putAll_10 ?_
  refine mv_eqi (x' := nI (mLn i - xs.length)) (pk_sub hxs.2.1) ?_
  refine va_mmin hx hb (Cx.2.2.1.trans hl.1.symm) Cx.2.2.2.1 (Cx.2.2.2.2 _ (List.mem_cons_of_mem _ q_ml_X0_21)) (Cx.2.2.2.2 _ (List.mem_cons_of_mem _ q_st_J9_min_7cf53)) (Cx.2.2.2.2 _ (List.mem_cons_of_mem _ q_in_J9)) (Cx.2.2.2.2 _ (List.mem_cons_of_mem _ q_co_J9_min_7cf53)) (Nat.le_of_ble_eq_true rfl) (Nat.le_of_ble_eq_true rfl) (Nat.le_refl _) (Nat.le_refl _) dX0_putAll_11 ?_
  refine mv_eqi (x' := nI n) (if_neg (nI_nlt (by omega) (by have := mLn_lt i; omega))) ?_
  refine lv_istore_n (lv' := [(3, .int (nI n)), (0, .ref (mAdC E 2 i)), (1, .ref (mAdC E k0 i0)), (2, .int (nI n))]) hx hb dX0_putAll_14 rfl hl (by decide) rfl (fun ls hl => ?_)
  refine lv_aload_n hx hb dX0_putAll_15 rfl (lv_at hl 2 rfl) ?_
  refine lv_iconst (v := 0) hx hb dX0_putAll_16 (by decide) ?_
  refine lv_aload_n hx hb dX0_putAll_17 rfl (lv_at hl 1 rfl) ?_
  refine g_X0_held Cx hG hH hi q_fl_X0_7 dX0_putAll_18 ?_
  refine lv_aload_n hx hb dX0_putAll_21 rfl (lv_at hl 1 rfl) ?_
  refine g_X0_size Cx hG hH hi q_fl_X0_13 dX0_putAll_22 ?_
  refine mv_eqi (x' := nI xs.length) (hxs.1) ?_
  refine lv_iload_n hx hb dX0_putAll_25 rfl (lv_at hl 0 rfl) ?_
  refine mv_cpb Cx hG hO hH hS hB (isC_3 hi) 0 xs.length n (rfl) (rfl) (rfl) (by omega) (hle) q_ml_X0_27 hl.1 (Nat.le_of_ble_eq_true rfl) (by decide) dX0_putAll_26 (fun H locs hH hS => ?_)
  refine lv_aload_n hx hb dX0_putAll_29 rfl (lv_at hl 1 rfl) ?_
  refine lv_dup hx hb dX0_putAll_30 rfl ?_
  refine g_X0_size Cx hG hH hi q_fl_X0_13 dX0_putAll_31 ?_
  refine mv_eqi (x' := nI xs.length) (by simpa [mAB] using hxs.1) ?_
  refine lv_iload_n hx hb dX0_putAll_34 rfl (lv_at hl 0 rfl) ?_
  refine lv_iadd hx hb dX0_putAll_35 ?_
  refine mv_eqi (x' := nI (xs.length + n)) (nI_add _ _) ?_
  refine p_X0_size Cx hG hO hH hS hi q_fl_X0_13 dX0_putAll_36 (fun H locs hH hS => ?_)
  exact mv_retv Cx hr hH hS (⟨hxs.all hle, (mSame.AB ⟨Or.inr rfl, rfl⟩).tr (mSame.M ⟨Or.inl rfl, rfl⟩)⟩) dX0_putAll_39 hlocks

set_option maxHeartbeats 4000000 in
set_option maxRecDepth 100000 in
/-- Bytes.intAt -/
theorem c_X0_intAt (l : Launch) (E : mEv) (A : Nat → Prop) (hO : mOwn mLC E A) (S : mSt) (i : Nat) (hi : i < 15) (a : Nat) (ha : a + 4 ≤ mLn i) : Met l yX0_intAt (Cond.code yX0_intAt cX0_intAt 2 (some .int) :: mv_ws) (mRm 0 0) (mPc mLC E A S [.ref (mAdC E 2 i), .int (nI a)]) (mQ mLC E A (fun S' => S' = S) (some (.int (mW4 (S.2.1 3 i) a)))) 0 0 A := by
  refine Met.ofW (cc := cX0_intAt) (maxL := 2) (ret := (some .int)) (by decide) rfl ?_
  intro p e s m args below meth c s₁ B hml hv
  obtain ⟨rfl, hG, hH⟩ := hv
  have hx := B.exec
  have hb := B.bytes
  have hr := B.returns
  have hlocks := B.notSynchronized
  have Cx : CallFix p m c cX0_intAt 2 s ([.ref (mAdC E 2 i), .int (nI a)] : List Value).toArray (Cond.code yX0_intAt cX0_intAt 2 (some .int) :: mv_ws) RX0 := ⟨hx, hb, hml, findClass_of_methodNamed B.named, atoms_spec (ws := Cond.code yX0_intAt cX0_intAt 2 (some .int) :: mv_ws) B.pre⟩
  have hS : va_S A s.heap s.heap [] := va_S.rf
  have hl := lv_entry ([.ref (mAdC E 2 i), .int (nI a)]) (n := 2) (Nat.le_of_ble_eq_true rfl)
  rw [lg_entry_eq]
  generalize (lg_sl ([.ref (mAdC E 2 i), .int (nI a)]) ++ List.replicate (2 - (lg_sl ([.ref (mAdC E 2 i), .int (nI a)])).length) Slot.unset).toArray = ls at hl ⊢
  have hl : lv_has ls 2 [(0, .ref (mAdC E 2 i)), (1, .int (nI a))] := hl
  refine lv_iload_n hx hb dX0_intAt_0 rfl (lv_at hl 1 rfl) ?_
  refine lv_if_lt (tgt := 15) hx hb dX0_intAt_1 (by decide) (fun h1 => ?_) (fun h1 => ?_)
  · skip
    exact absurd h1 (nI_pos (by have := mLn_lt i; omega))
  · skip
    refine lv_iload_n hx hb dX0_intAt_4 rfl (lv_at hl 1 rfl) ?_
    refine lv_aload_n hx hb dX0_intAt_5 rfl (lv_at hl 0 rfl) ?_
    refine g_X0_held Cx hG hH hi q_fl_X0_7 dX0_intAt_6 ?_
    refine mv_blen Cx hG hH (isC_3 hi) dX0_intAt_9 ?_
    refine lv_iconst (v := 4) hx hb dX0_intAt_10 (by decide) ?_
    refine lv_isub hx hb dX0_intAt_11 ?_
    refine mv_eqi (x' := nI (mLn i - 4)) (pk_sub (a := mLn i) (b := 4) (by omega)) ?_
    refine lv_icmp_le (tgt := 17) hx hb dX0_intAt_12 (by decide) (fun h12 => ?_) (fun h12 => ?_)
    · skip
      refine lv_aload_n hx hb dX0_intAt_17 rfl (lv_at hl 0 rfl) ?_
      refine g_X0_held Cx hG hH hi q_fl_X0_7 dX0_intAt_18 ?_
      refine lv_iload_n hx hb dX0_intAt_21 rfl (lv_at hl 1 rfl) ?_
      refine mv_bal Cx hG hH (isC_3 hi) a (rfl) (by omega) dX0_intAt_22 ?_
      refine lv_bipush (v := 24) hx hb dX0_intAt_23 (by decide) ?_
      refine lv_ishl hx hb dX0_intAt_25 ?_
      refine lv_aload_n hx hb dX0_intAt_26 rfl (lv_at hl 0 rfl) ?_
      refine g_X0_held Cx hG hH hi q_fl_X0_7 dX0_intAt_27 ?_
      refine lv_iload_n hx hb dX0_intAt_30 rfl (lv_at hl 1 rfl) ?_
      refine lv_iconst (v := 1) hx hb dX0_intAt_31 (by decide) ?_
      refine lv_iadd hx hb dX0_intAt_32 ?_
      refine mv_bal Cx hG hH (isC_3 hi) (a + 1) (nI_add a 1) (by omega) dX0_intAt_33 ?_
      refine lv_sipush (v := 255) hx hb dX0_intAt_34 (by decide) ?_
      refine lv_iand hx hb dX0_intAt_37 ?_
      refine lv_bipush (v := 16) hx hb dX0_intAt_38 (by decide) ?_
      refine lv_ishl hx hb dX0_intAt_40 ?_
      refine lv_ior hx hb dX0_intAt_41 ?_
      refine lv_aload_n hx hb dX0_intAt_42 rfl (lv_at hl 0 rfl) ?_
      refine g_X0_held Cx hG hH hi q_fl_X0_7 dX0_intAt_43 ?_
      refine lv_iload_n hx hb dX0_intAt_46 rfl (lv_at hl 1 rfl) ?_
      refine lv_iconst (v := 2) hx hb dX0_intAt_47 (by decide) ?_
      refine lv_iadd hx hb dX0_intAt_48 ?_
      refine mv_bal Cx hG hH (isC_3 hi) (a + 2) (nI_add a 2) (by omega) dX0_intAt_49 ?_
      refine lv_sipush (v := 255) hx hb dX0_intAt_50 (by decide) ?_
      refine lv_iand hx hb dX0_intAt_53 ?_
      refine lv_bipush (v := 8) hx hb dX0_intAt_54 (by decide) ?_
      refine lv_ishl hx hb dX0_intAt_56 ?_
      refine lv_ior hx hb dX0_intAt_57 ?_
      refine lv_aload_n hx hb dX0_intAt_58 rfl (lv_at hl 0 rfl) ?_
      refine g_X0_held Cx hG hH hi q_fl_X0_7 dX0_intAt_59 ?_
      refine lv_iload_n hx hb dX0_intAt_62 rfl (lv_at hl 1 rfl) ?_
      refine lv_iconst (v := 3) hx hb dX0_intAt_63 (by decide) ?_
      refine lv_iadd hx hb dX0_intAt_64 ?_
      refine mv_bal Cx hG hH (isC_3 hi) (a + 3) (nI_add a 3) (by omega) dX0_intAt_65 ?_
      refine lv_sipush (v := 255) hx hb dX0_intAt_66 (by decide) ?_
      refine lv_iand hx hb dX0_intAt_69 ?_
      refine lv_ior hx hb dX0_intAt_70 ?_
      exact mv_reti Cx hr hH hS (rfl) (rfl) dX0_intAt_71 hlocks
    · skip
      exact absurd (nI_le (by omega) (by have := mLn_lt i; omega)) h12
