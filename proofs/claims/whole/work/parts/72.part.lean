/-! ===== the cells that are there while the secret is made ===== -/
def mPP : List (Nat × Nat) := [(1, 0), (2, 2), (3, 2), (4, 0), (5, 0), (6, 0), (7, 0), (8, 0), (9, 0), (10, 0)]
abbrev mLP : mLY := (mPP, mAdC, mWC)
theorem mGoodP : mGood mLP := ⟨by decide, mGoodC.2⟩
theorem okP_1 : (1, 0) ∈ mLP.1 := by decide
theorem okP_2 {i : Nat} (h : i = 2) : (2, i) ∈ mLP.1 := by subst h; decide
theorem okP_3 {i : Nat} (h : i = 2) : (3, i) ∈ mLP.1 := by subst h; decide
theorem okP_4 : (4, 0) ∈ mLP.1 := by decide
theorem okP_5 : (5, 0) ∈ mLP.1 := by decide
theorem okP_6 : (6, 0) ∈ mLP.1 := by decide
theorem okP_7 : (7, 0) ∈ mLP.1 := by decide
theorem okP_8 : (8, 0) ∈ mLP.1 := by decide
theorem isP_3 {i : Nat} (h : i = 2) : mIsB mLP 3 i (mLn i) := ⟨okP_3 h, mLn_lt i, fun _ _ => rfl⟩
theorem isP_4 : mIsI mLP 4 0 8 := ⟨okP_4, by decide, fun _ _ => rfl⟩
theorem isP_5 : mIsI mLP 5 0 64 := ⟨okP_5, by decide, fun _ _ => rfl⟩
theorem isP_8 : mIsB mLP 8 0 32 := ⟨okP_8, by decide, fun _ _ => rfl⟩
section MVC
variable {p : Program} {l : Launch} {e : Env} {R : Room} {s : State} {m : MethodId} {args : Array Value} {below : List Frame} {meth : Method} {c : Code} {H : Heap} {locs : List Loc} {cells slots : Nat} {Q : State → Prop}
variable {cc : ByteArray} {pc nL index i : Nat} {ls : Array Slot} {rest : List Value} {A : Nat → Prop} {E : mEv} {S : mSt} {cd : Cond} {own : String}
theorem gp_X0_held (Cx : CallFix p m c cc nL s args (cd :: mv_ws) own) (hG : mG E A s) (hH : mHold mLP E S H) (hok : i = 2) (hl : Cond.fieldLink own index "MeasuredVault$Bytes" "held" "[B" ∈ mv_ws) (hdg : decode cc pc = .ok (.getfield index, 3)) (kk : W p l e R s m args below meth c H locs cells slots Q (F0 m (pc + 3) ls (.ref (mAdC E 3 i) :: rest))) : W p l e R s m args below meth c H locs cells slots Q (F0 m pc ls (.ref (mAdC E 2 i) :: rest)) := mv_get (Y := mLP) Cx hG hH q_X0 2 i (okP_2 hok) rfl rfl 0 (by decide) hl rfl hdg kk
theorem gp_X0_size (Cx : CallFix p m c cc nL s args (cd :: mv_ws) own) (hG : mG E A s) (hH : mHold mLP E S H) (hok : i = 2) (hl : Cond.fieldLink own index "MeasuredVault$Bytes" "size" "I" ∈ mv_ws) (hdg : decode cc pc = .ok (.getfield index, 3)) (kk : W p l e R s m args below meth c H locs cells slots Q (F0 m (pc + 3) ls (.int (S.1 2 i 1) :: rest))) : W p l e R s m args below meth c H locs cells slots Q (F0 m pc ls (.ref (mAdC E 2 i) :: rest)) := mv_get (Y := mLP) Cx hG hH q_X0 2 i (okP_2 hok) rfl rfl 1 (by decide) hl rfl hdg kk
theorem gp_X1_message (Cx : CallFix p m c cc nL s args (cd :: mv_ws) own) (hG : mG E A s) (hH : mHold mLP E S H) (hl : Cond.fieldLink own index "MeasuredVault$Hasher" "message" "LMeasuredVault$Bytes;" ∈ mv_ws) (hdg : decode cc pc = .ok (.getfield index, 3)) (kk : W p l e R s m args below meth c H locs cells slots Q (F0 m (pc + 3) ls (.ref (mAdC E 2 2) :: rest))) : W p l e R s m args below meth c H locs cells slots Q (F0 m pc ls (.ref (mAdC E 1 0) :: rest)) := mv_get (Y := mLP) Cx hG hH q_X1 1 0 okP_1 rfl rfl 0 (by decide) hl rfl hdg kk
theorem gp_X1_sum (Cx : CallFix p m c cc nL s args (cd :: mv_ws) own) (hG : mG E A s) (hH : mHold mLP E S H) (hl : Cond.fieldLink own index "MeasuredVault$Hasher" "sum" "[I" ∈ mv_ws) (hdg : decode cc pc = .ok (.getfield index, 3)) (kk : W p l e R s m args below meth c H locs cells slots Q (F0 m (pc + 3) ls (.ref (mAdC E 4 0) :: rest))) : W p l e R s m args below meth c H locs cells slots Q (F0 m pc ls (.ref (mAdC E 1 0) :: rest)) := mv_get (Y := mLP) Cx hG hH q_X1 1 0 okP_1 rfl rfl 1 (by decide) hl rfl hdg kk
theorem gp_X1_words (Cx : CallFix p m c cc nL s args (cd :: mv_ws) own) (hG : mG E A s) (hH : mHold mLP E S H) (hl : Cond.fieldLink own index "MeasuredVault$Hasher" "words" "[I" ∈ mv_ws) (hdg : decode cc pc = .ok (.getfield index, 3)) (kk : W p l e R s m args below meth c H locs cells slots Q (F0 m (pc + 3) ls (.ref (mAdC E 5 0) :: rest))) : W p l e R s m args below meth c H locs cells slots Q (F0 m pc ls (.ref (mAdC E 1 0) :: rest)) := mv_get (Y := mLP) Cx hG hH q_X1 1 0 okP_1 rfl rfl 2 (by decide) hl rfl hdg kk
theorem pp_X0_size {v : Int32} (Cx : CallFix p m c cc nL s args (cd :: mv_ws) own) (hG : mG E A s) (hO : mOwn mLP E A) (hH : mHold mLP E S H) (hS : va_S A s.heap H locs) (hok : i = 2) (hl : Cond.fieldLink own index "MeasuredVault$Bytes" "size" "I" ∈ mv_ws) (hdg : decode cc pc = .ok (.putfield index, 3)) (kk : ∀ (H1 : Heap) (locs1 : List Loc), mHold mLP E (mM S 2 i 1 v) H1 → va_S A s.heap H1 locs1 → W p l e R s m args below meth c H1 locs1 cells slots Q (F0 m (pc + 3) ls rest)) : W p l e R s m args below meth c H locs cells slots Q (F0 m pc ls (.int v :: .ref (mAdC E 2 i) :: rest)) := mv_putM (Y := mLP) Cx hG hO hH hS q_X0 tyX0 tyX0_ok nmX0 2 i (okP_2 hok) rfl rfl 1 (by decide) hl rfl (ty := .int) (by decide +kernel) rfl rfl (Nat.le_of_ble_eq_true rfl) (by simp [mWC, mM, m3]) hdg kk
end MVC
set_option maxHeartbeats 4000000 in
set_option maxRecDepth 100000 in
theorem d_J9_floorMod_7cf53 (l : Launch) (E : mEv) (A : Nat → Prop) (hO : mOwn mLP E A) (S : mSt) (x y : Int32) (hy : ¬ y = 0) : Met l yJ9_floorMod_7cf53 (Cond.code yJ9_floorMod_7cf53 cJ9_floorMod_7cf53 3 (some .int) :: mv_ws) (mRm 0 0) (mPc mLP E A S [.int x, .int y]) (mQ mLP E A (fun S' => S' = S) (some (.int (mFm x y)))) 0 0 A := by
  refine va_MetF (cc := cJ9_floorMod_7cf53) (maxL := 3) (ret := (some .int)) (by decide +kernel) rfl ?_
  intro p e s m args below meth c s₁ B hml hv
  obtain ⟨rfl, hG, hH⟩ := hv
  have hx := B.exec
  have hb := B.bytes
  have hr := B.returns
  have hlocks := B.notSynchronized
  have Cx : CallFix p m c cJ9_floorMod_7cf53 3 s ([.int x, .int y] : List Value).toArray (Cond.code yJ9_floorMod_7cf53 cJ9_floorMod_7cf53 3 (some .int) :: mv_ws) RJ9 := ⟨hx, hb, hml, findClass_of_methodNamed B.named, atoms_spec (ws := Cond.code yJ9_floorMod_7cf53 cJ9_floorMod_7cf53 3 (some .int) :: mv_ws) B.pre⟩
  have hS : va_S A s.heap s.heap [] := va_S.rf
  have hl := lv_entry ([.int x, .int y]) (n := 3) (Nat.le_of_ble_eq_true rfl)
  rw [lg_entry_eq]
  generalize (lg_sl ([.int x, .int y]) ++ List.replicate (3 - (lg_sl ([.int x, .int y])).length) Slot.unset).toArray = ls at hl ⊢
  have hl : lv_has ls 3 [(0, .int x), (1, .int y)] := hl
  refine lv_iload_n hx hb dJ9_floorMod_7cf53_0 rfl (lv_at hl 0 rfl) ?_
  refine lv_iload_n hx hb dJ9_floorMod_7cf53_1 rfl (lv_at hl 1 rfl) ?_
  refine lv_irem hx hb dJ9_floorMod_7cf53_2 (hy) ?_
  refine lv_istore_n (lv' := [(2, .int (x - x / y * y)), (0, .int x), (1, .int y)]) hx hb dJ9_floorMod_7cf53_3 rfl hl (by decide) rfl (fun ls hl => ?_)
  refine lv_iload_n hx hb dJ9_floorMod_7cf53_4 rfl (lv_at hl 1 rfl) ?_
  refine lv_iload_n hx hb dJ9_floorMod_7cf53_5 rfl (lv_at hl 2 rfl) ?_
  refine lv_ixor hx hb dJ9_floorMod_7cf53_6 ?_
  refine lv_if_ge (tgt := 18) hx hb dJ9_floorMod_7cf53_7 (by decide) (fun h7 => ?_) (fun h7 => ?_)
  · skip
    refine lv_iload_n hx hb dJ9_floorMod_7cf53_18 rfl (lv_at hl 0 rfl) ?_
    exact mv_reti Cx hr hH hS (by unfold mFm; rw [if_pos h7]) (rfl) dJ9_floorMod_7cf53_19 hlocks
  · skip
    refine lv_iload_n hx hb dJ9_floorMod_7cf53_10 rfl (lv_at hl 0 rfl) ?_
    refine lv_if_eq (tgt := 18) hx hb dJ9_floorMod_7cf53_11 (by decide) (fun h11 => ?_) (fun h11 => ?_)
    · skip
      refine lv_iload_n hx hb dJ9_floorMod_7cf53_18 rfl (lv_at hl 0 rfl) ?_
      exact mv_reti Cx hr hH hS (by unfold mFm; rw [if_neg h7, if_pos h11]) (rfl) dJ9_floorMod_7cf53_19 hlocks
    · skip
      refine lv_iload_n hx hb dJ9_floorMod_7cf53_14 rfl (lv_at hl 0 rfl) ?_
      refine lv_iload_n hx hb dJ9_floorMod_7cf53_15 rfl (lv_at hl 2 rfl) ?_
      refine lv_iadd hx hb dJ9_floorMod_7cf53_16 ?_
      exact mv_reti Cx hr hH hS (by unfold mFm; rw [if_neg h7, if_neg h11]) (rfl) dJ9_floorMod_7cf53_17 hlocks

theorem d_X0_put (l : Launch) (E : mEv) (A : Nat → Prop) (hO : mOwn mLP E A) (S : mSt) (i : Nat) (hi : i = 2) (xs : List Int8) (hxs : bHas S i xs) (x : Int32) (hle : xs.length + 1 ≤ mLn i) : Met l yX0_put (Cond.code yX0_put cX0_put 2 none :: mv_ws) (mRm 0 0) (mPc mLP E A S [.ref (mAdC E 2 i), .int x]) (mQ mLP E A (fun S' => bHas S' i (xs ++ [x.toInt8]) ∧ mSame (bX i) S S') none) 0 0 A := by
  refine Met.ofW (cc := cX0_put) (maxL := 2) (ret := none) (by decide) rfl ?_
  intro p e s m args below meth c s₁ B hml hv
  obtain ⟨rfl, hG, hH⟩ := hv
  have hx := B.exec
  have hb := B.bytes
  have hr := B.returns
  have hlocks := B.notSynchronized
  have Cx : CallFix p m c cX0_put 2 s ([.ref (mAdC E 2 i), .int x] : List Value).toArray (Cond.code yX0_put cX0_put 2 none :: mv_ws) RX0 := ⟨hx, hb, hml, findClass_of_methodNamed B.named, atoms_spec (ws := Cond.code yX0_put cX0_put 2 none :: mv_ws) B.pre⟩
  have hS : va_S A s.heap s.heap [] := va_S.rf
  have hl := lv_entry ([.ref (mAdC E 2 i), .int x]) (n := 2) (Nat.le_of_ble_eq_true rfl)
  rw [lg_entry_eq]
  generalize (lg_sl ([.ref (mAdC E 2 i), .int x]) ++ List.replicate (2 - (lg_sl ([.ref (mAdC E 2 i), .int x])).length) Slot.unset).toArray = ls at hl ⊢
  have hl : lv_has ls 2 [(0, .ref (mAdC E 2 i)), (1, .int x)] := hl
  refine lv_aload_n hx hb dX0_put_0 rfl (lv_at hl 0 rfl) ?_
  refine gp_X0_size Cx hG hH hi q_fl_X0_13 dX0_put_1 ?_
  refine mv_eqi (x' := nI xs.length) (hxs.1) ?_
  refine lv_aload_n hx hb dX0_put_4 rfl (lv_at hl 0 rfl) ?_
  refine gp_X0_held Cx hG hH hi q_fl_X0_7 dX0_put_5 ?_
  refine mv_blen Cx hG hH (isP_3 hi) dX0_put_8 ?_
  refine lv_icmp_ge (tgt := 33) hx hb dX0_put_9 (by decide) (fun h9 => ?_) (fun h9 => ?_)
  · skip
    exact absurd h9 (nI_ge (by omega) (mLn_lt i))
  · skip
    refine lv_aload_n hx hb dX0_put_12 rfl (lv_at hl 0 rfl) ?_
    refine gp_X0_held Cx hG hH hi q_fl_X0_7 dX0_put_13 ?_
    refine lv_aload_n hx hb dX0_put_16 rfl (lv_at hl 0 rfl) ?_
    refine gp_X0_size Cx hG hH hi q_fl_X0_13 dX0_put_17 ?_
    refine mv_eqi (x' := nI xs.length) (hxs.1) ?_
    refine lv_iload_n hx hb dX0_put_20 rfl (lv_at hl 1 rfl) ?_
    refine lv_i2b hx hb dX0_put_21 rfl ?_
    refine mv_bas8 Cx hG hO hH hS (isP_3 hi) xs.length x.toInt8 rfl (rfl) (by omega) dX0_put_22 (fun H locs hH hS => ?_)
    refine lv_aload_n hx hb dX0_put_23 rfl (lv_at hl 0 rfl) ?_
    refine lv_dup hx hb dX0_put_24 rfl ?_
    refine gp_X0_size Cx hG hH hi q_fl_X0_13 dX0_put_25 ?_
    refine mv_eqi (x' := nI xs.length) (by simpa [mB] using hxs.1) ?_
    refine lv_iconst (v := 1) hx hb dX0_put_28 (by decide) ?_
    refine lv_iadd hx hb dX0_put_29 ?_
    refine mv_eqi (x' := nI (xs.length + 1)) (nI_1 _) ?_
    refine pp_X0_size Cx hG hO hH hS hi q_fl_X0_13 dX0_put_30 (fun H locs hH hS => ?_)
    exact mv_retv Cx hr hH hS (⟨hxs.put hle, (mSame.B ⟨Or.inr rfl, rfl⟩).tr (mSame.M ⟨Or.inl rfl, rfl⟩)⟩) dX0_put_33 hlocks

theorem d_X0_putInt (l : Launch) (E : mEv) (A : Nat → Prop) (hO : mOwn mLP E A) (S : mSt) (i : Nat) (hi : i = 2) (xs : List Int8) (hxs : bHas S i xs) (x : Int32) (hle : xs.length + 4 ≤ mLn i) : Met l yX0_putInt (Cond.code yX0_putInt cX0_putInt 2 none :: mv_ws) (mRm 1 21) (mPc mLP E A S [.ref (mAdC E 2 i), .int x]) (mQ mLP E A (fun S' => bHas S' i (xs ++ w4 x) ∧ mSame (bX i) S S') none) 0 0 A := by
  refine Met.ofW (cc := cX0_putInt) (maxL := 2) (ret := none) (by decide) rfl ?_
  intro p e s m args below meth c s₁ B hml hv
  obtain ⟨rfl, hG, hH⟩ := hv
  have hx := B.exec
  have hb := B.bytes
  have hr := B.returns
  have hlocks := B.notSynchronized
  have Cx : CallFix p m c cX0_putInt 2 s ([.ref (mAdC E 2 i), .int x] : List Value).toArray (Cond.code yX0_putInt cX0_putInt 2 none :: mv_ws) RX0 := ⟨hx, hb, hml, findClass_of_methodNamed B.named, atoms_spec (ws := Cond.code yX0_putInt cX0_putInt 2 none :: mv_ws) B.pre⟩
  have hS : va_S A s.heap s.heap [] := va_S.rf
  have hl := lv_entry ([.ref (mAdC E 2 i), .int x]) (n := 2) (Nat.le_of_ble_eq_true rfl)
  rw [lg_entry_eq]
  generalize (lg_sl ([.ref (mAdC E 2 i), .int x]) ++ List.replicate (2 - (lg_sl ([.ref (mAdC E 2 i), .int x])).length) Slot.unset).toArray = ls at hl ⊢
  have hl : lv_has ls 2 [(0, .ref (mAdC E 2 i)), (1, .int x)] := hl
  refine lv_aload_n hx hb dX0_putInt_0 rfl (lv_at hl 0 rfl) ?_
  refine lv_iload_n hx hb dX0_putInt_1 rfl (lv_at hl 1 rfl) ?_
  refine lv_bipush (v := 24) hx hb dX0_putInt_2 (by decide) ?_
  refine lv_iushr hx hb dX0_putInt_4 rfl ?_
  refine mv_callV (Y := mLP) (C := RX0) (k := 2) (i := i) (rest := []) Cx hG hH hS (d_X0_put l E A hO S i hi xs hxs ((x.toUInt32 >>> ((24 : Int32).toUInt32 &&& Int32.toUInt32 31)).toInt32) (by (try simp only [List.length_append, List.length_singleton]); omega)) q_co_X0_put q_ml_X0_17 q_im_X0_put q_se_X0_put q_in_X0 (okP_2 hi) rfl rfl hd_X0_put ⟨Nat.le_of_ble_eq_true rfl, Nat.le_of_ble_eq_true rfl⟩ rfl hl.1 rfl (Nat.le_of_ble_eq_true rfl) ⟨Nat.le_of_ble_eq_true rfl, Nat.le_of_ble_eq_true rfl⟩ dX0_putInt_5 (fun S5 H locs hP5 hH hS => ?_)
  refine W.eq (g2 := F0 m 8 ls []) rfl ?_
  refine lv_aload_n hx hb dX0_putInt_8 rfl (lv_at hl 0 rfl) ?_
  refine lv_iload_n hx hb dX0_putInt_9 rfl (lv_at hl 1 rfl) ?_
  refine lv_bipush (v := 16) hx hb dX0_putInt_10 (by decide) ?_
  refine lv_iushr hx hb dX0_putInt_12 rfl ?_
  refine mv_callV (Y := mLP) (C := RX0) (k := 2) (i := i) (rest := []) Cx hG hH hS (d_X0_put l E A hO S5 i hi (xs ++ [((x.toUInt32 >>> ((24 : Int32).toUInt32 &&& Int32.toUInt32 31)).toInt32).toInt8]) hP5.1 ((x.toUInt32 >>> ((16 : Int32).toUInt32 &&& Int32.toUInt32 31)).toInt32) (by (try simp only [List.length_append, List.length_singleton]); omega)) q_co_X0_put q_ml_X0_17 q_im_X0_put q_se_X0_put q_in_X0 (okP_2 hi) rfl rfl hd_X0_put ⟨Nat.le_of_ble_eq_true rfl, Nat.le_of_ble_eq_true rfl⟩ rfl hl.1 rfl (Nat.le_of_ble_eq_true rfl) ⟨Nat.le_of_ble_eq_true rfl, Nat.le_of_ble_eq_true rfl⟩ dX0_putInt_13 (fun S13 H locs hP13 hH hS => ?_)
  refine W.eq (g2 := F0 m 16 ls []) rfl ?_
  refine lv_aload_n hx hb dX0_putInt_16 rfl (lv_at hl 0 rfl) ?_
  refine lv_iload_n hx hb dX0_putInt_17 rfl (lv_at hl 1 rfl) ?_
  refine lv_bipush (v := 8) hx hb dX0_putInt_18 (by decide) ?_
  refine lv_iushr hx hb dX0_putInt_20 rfl ?_
  refine mv_callV (Y := mLP) (C := RX0) (k := 2) (i := i) (rest := []) Cx hG hH hS (d_X0_put l E A hO S13 i hi ((xs ++ [((x.toUInt32 >>> ((24 : Int32).toUInt32 &&& Int32.toUInt32 31)).toInt32).toInt8]) ++ [((x.toUInt32 >>> ((16 : Int32).toUInt32 &&& Int32.toUInt32 31)).toInt32).toInt8]) hP13.1 ((x.toUInt32 >>> ((8 : Int32).toUInt32 &&& Int32.toUInt32 31)).toInt32) (by (try simp only [List.length_append, List.length_singleton]); omega)) q_co_X0_put q_ml_X0_17 q_im_X0_put q_se_X0_put q_in_X0 (okP_2 hi) rfl rfl hd_X0_put ⟨Nat.le_of_ble_eq_true rfl, Nat.le_of_ble_eq_true rfl⟩ rfl hl.1 rfl (Nat.le_of_ble_eq_true rfl) ⟨Nat.le_of_ble_eq_true rfl, Nat.le_of_ble_eq_true rfl⟩ dX0_putInt_21 (fun S21 H locs hP21 hH hS => ?_)
  refine W.eq (g2 := F0 m 24 ls []) rfl ?_
  refine lv_aload_n hx hb dX0_putInt_24 rfl (lv_at hl 0 rfl) ?_
  refine lv_iload_n hx hb dX0_putInt_25 rfl (lv_at hl 1 rfl) ?_
  refine mv_callV (Y := mLP) (C := RX0) (k := 2) (i := i) (rest := []) Cx hG hH hS (d_X0_put l E A hO S21 i hi (((xs ++ [((x.toUInt32 >>> ((24 : Int32).toUInt32 &&& Int32.toUInt32 31)).toInt32).toInt8]) ++ [((x.toUInt32 >>> ((16 : Int32).toUInt32 &&& Int32.toUInt32 31)).toInt32).toInt8]) ++ [((x.toUInt32 >>> ((8 : Int32).toUInt32 &&& Int32.toUInt32 31)).toInt32).toInt8]) hP21.1 x (by (try simp only [List.length_append, List.length_singleton]); omega)) q_co_X0_put q_ml_X0_17 q_im_X0_put q_se_X0_put q_in_X0 (okP_2 hi) rfl rfl hd_X0_put ⟨Nat.le_of_ble_eq_true rfl, Nat.le_of_ble_eq_true rfl⟩ rfl hl.1 rfl (Nat.le_of_ble_eq_true rfl) ⟨Nat.le_of_ble_eq_true rfl, Nat.le_of_ble_eq_true rfl⟩ dX0_putInt_26 (fun S26 H locs hP26 hH hS => ?_)
  refine W.eq (g2 := F0 m 29 ls []) rfl ?_
  exact mv_retv Cx hr hH hS (⟨by have h := hP26.1; simpa [w4] using h, ((hP5.2.tr hP13.2).tr hP21.2).tr hP26.2⟩) dX0_putInt_29 hlocks

theorem d_X0_intAt (l : Launch) (E : mEv) (A : Nat → Prop) (hO : mOwn mLP E A) (S : mSt) (i : Nat) (hi : i = 2) (a : Nat) (ha : a + 4 ≤ mLn i) : Met l yX0_intAt (Cond.code yX0_intAt cX0_intAt 2 (some .int) :: mv_ws) (mRm 0 0) (mPc mLP E A S [.ref (mAdC E 2 i), .int (nI a)]) (mQ mLP E A (fun S' => S' = S) (some (.int (mW4 (S.2.1 3 i) a)))) 0 0 A := by
  refine Met.ofW (cc := cX0_intAt) (maxL := 2) (ret := (some .int)) (by decide) rfl ?_
  intro p e s m args below meth c s₁ B hml hv
  obtain ⟨rfl, hG, hH⟩ := hv
  have hx := B.exec
  have hb := B.bytes
  have hr := B.returns
  have hlocks := B.notSynchronized
  have Cx : CallFix p m c cX0_intAt 2 s ([.ref (mAdC E 2 i), .int (nI a)] : List Value).toArray (Cond.code yX0_intAt cX0_intAt 2 (some .int) :: mv_ws) RX0 := ⟨hx, hb, hml, findClass_of_methodNamed B.named, atoms_spec (ws := Cond.code yX0_intAt cX0_intAt 2 (some .int) :: mv_ws) B.pre⟩
  have hS : va_S A s.heap s.heap [] := va_S.rf
  have hl := lv_entry ([.ref (mAdC E 2 i), .int (nI a)]) (n := 2) (Nat.le_of_ble_eq_true rfl)
  rw [lg_entry_eq]
  generalize (lg_sl ([.ref (mAdC E 2 i), .int (nI a)]) ++ List.replicate (2 - (lg_sl ([.ref (mAdC E 2 i), .int (nI a)])).length) Slot.unset).toArray = ls at hl ⊢
  have hl : lv_has ls 2 [(0, .ref (mAdC E 2 i)), (1, .int (nI a))] := hl
  refine lv_iload_n hx hb dX0_intAt_0 rfl (lv_at hl 1 rfl) ?_
  refine lv_if_lt (tgt := 15) hx hb dX0_intAt_1 (by decide) (fun h1 => ?_) (fun h1 => ?_)
  · skip
    exact absurd h1 (nI_pos (by have := mLn_lt i; omega))
  · skip
    refine lv_iload_n hx hb dX0_intAt_4 rfl (lv_at hl 1 rfl) ?_
    refine lv_aload_n hx hb dX0_intAt_5 rfl (lv_at hl 0 rfl) ?_
    refine gp_X0_held Cx hG hH hi q_fl_X0_7 dX0_intAt_6 ?_
    refine mv_blen Cx hG hH (isP_3 hi) dX0_intAt_9 ?_
    refine lv_iconst (v := 4) hx hb dX0_intAt_10 (by decide) ?_
    refine lv_isub hx hb dX0_intAt_11 ?_
    refine mv_eqi (x' := nI (mLn i - 4)) (pk_sub (a := mLn i) (b := 4) (by omega)) ?_
    refine lv_icmp_le (tgt := 17) hx hb dX0_intAt_12 (by decide) (fun h12 => ?_) (fun h12 => ?_)
    · skip
      refine lv_aload_n hx hb dX0_intAt_17 rfl (lv_at hl 0 rfl) ?_
      refine gp_X0_held Cx hG hH hi q_fl_X0_7 dX0_intAt_18 ?_
      refine lv_iload_n hx hb dX0_intAt_21 rfl (lv_at hl 1 rfl) ?_
      refine mv_bal Cx hG hH (isP_3 hi) a (rfl) (by omega) dX0_intAt_22 ?_
      refine lv_bipush (v := 24) hx hb dX0_intAt_23 (by decide) ?_
      refine lv_ishl hx hb dX0_intAt_25 ?_
      refine lv_aload_n hx hb dX0_intAt_26 rfl (lv_at hl 0 rfl) ?_
      refine gp_X0_held Cx hG hH hi q_fl_X0_7 dX0_intAt_27 ?_
      refine lv_iload_n hx hb dX0_intAt_30 rfl (lv_at hl 1 rfl) ?_
      refine lv_iconst (v := 1) hx hb dX0_intAt_31 (by decide) ?_
      refine lv_iadd hx hb dX0_intAt_32 ?_
      refine mv_bal Cx hG hH (isP_3 hi) (a + 1) (nI_add a 1) (by omega) dX0_intAt_33 ?_
      refine lv_sipush (v := 255) hx hb dX0_intAt_34 (by decide) ?_
      refine lv_iand hx hb dX0_intAt_37 ?_
      refine lv_bipush (v := 16) hx hb dX0_intAt_38 (by decide) ?_
      refine lv_ishl hx hb dX0_intAt_40 ?_
      refine lv_ior hx hb dX0_intAt_41 ?_
      refine lv_aload_n hx hb dX0_intAt_42 rfl (lv_at hl 0 rfl) ?_
      refine gp_X0_held Cx hG hH hi q_fl_X0_7 dX0_intAt_43 ?_
      refine lv_iload_n hx hb dX0_intAt_46 rfl (lv_at hl 1 rfl) ?_
      refine lv_iconst (v := 2) hx hb dX0_intAt_47 (by decide) ?_
      refine lv_iadd hx hb dX0_intAt_48 ?_
      refine mv_bal Cx hG hH (isP_3 hi) (a + 2) (nI_add a 2) (by omega) dX0_intAt_49 ?_
      refine lv_sipush (v := 255) hx hb dX0_intAt_50 (by decide) ?_
      refine lv_iand hx hb dX0_intAt_53 ?_
      refine lv_bipush (v := 8) hx hb dX0_intAt_54 (by decide) ?_
      refine lv_ishl hx hb dX0_intAt_56 ?_
      refine lv_ior hx hb dX0_intAt_57 ?_
      refine lv_aload_n hx hb dX0_intAt_58 rfl (lv_at hl 0 rfl) ?_
      refine gp_X0_held Cx hG hH hi q_fl_X0_7 dX0_intAt_59 ?_
      refine lv_iload_n hx hb dX0_intAt_62 rfl (lv_at hl 1 rfl) ?_
      refine lv_iconst (v := 3) hx hb dX0_intAt_63 (by decide) ?_
      refine lv_iadd hx hb dX0_intAt_64 ?_
      refine mv_bal Cx hG hH (isP_3 hi) (a + 3) (nI_add a 3) (by omega) dX0_intAt_65 ?_
      refine lv_sipush (v := 255) hx hb dX0_intAt_66 (by decide) ?_
      refine lv_iand hx hb dX0_intAt_69 ?_
      refine lv_ior hx hb dX0_intAt_70 ?_
      exact mv_reti Cx hr hH hS (rfl) (rfl) dX0_intAt_71 hlocks
    · skip
      exact absurd (nI_le (by omega) (by have := mLn_lt i; omega)) h12

set_option maxHeartbeats 4000000 in
set_option maxRecDepth 100000 in
theorem d_X1_begin (l : Launch) (E : mEv) (A : Nat → Prop) (hO : mOwn mLP E A) (S : mSt)  : Met l yX1_begin (Cond.code yX1_begin cX1_begin 1 (some (.object "MeasuredVault$Bytes")) :: mv_ws) (mRm 0 0) (mPc mLP E A S [.ref (mAdC E 1 0)]) (mQ mLP E A (fun S' => bHas S' 2 [] ∧ mSame (bX 2) S S') (some (.ref (mAdC E 2 2)))) 0 0 A := by
  refine Met.ofW (cc := cX1_begin) (maxL := 1) (ret := (some (.object "MeasuredVault$Bytes"))) (by decide) rfl ?_
  intro p e s m args below meth c s₁ B hml hv
  obtain ⟨rfl, hG, hH⟩ := hv
  have hx := B.exec
  have hb := B.bytes
  have hr := B.returns
  have hlocks := B.notSynchronized
  have Cx : CallFix p m c cX1_begin 1 s ([.ref (mAdC E 1 0)] : List Value).toArray (Cond.code yX1_begin cX1_begin 1 (some (.object "MeasuredVault$Bytes")) :: mv_ws) RX1 := ⟨hx, hb, hml, findClass_of_methodNamed B.named, atoms_spec (ws := Cond.code yX1_begin cX1_begin 1 (some (.object "MeasuredVault$Bytes")) :: mv_ws) B.pre⟩
  have hS : va_S A s.heap s.heap [] := va_S.rf
  have hl := lv_entry ([.ref (mAdC E 1 0)]) (n := 1) (Nat.le_of_ble_eq_true rfl)
  rw [lg_entry_eq]
  generalize (lg_sl ([.ref (mAdC E 1 0)]) ++ List.replicate (1 - (lg_sl ([.ref (mAdC E 1 0)])).length) Slot.unset).toArray = ls at hl ⊢
  have hl : lv_has ls 1 [(0, .ref (mAdC E 1 0))] := hl
  refine lv_aload_n hx hb dX1_begin_0 rfl (lv_at hl 0 rfl) ?_
  refine gp_X1_message Cx hG hH q_fl_X1_16 dX1_begin_1 ?_
  refine lv_iconst (v := 0) hx hb dX1_begin_4 (by decide) ?_
  refine pp_X0_size Cx hG hO hH hS (by decide) q_fl_X1_31 dX1_begin_5 (fun H locs hH hS => ?_)
  refine lv_aload_n hx hb dX1_begin_8 rfl (lv_at hl 0 rfl) ?_
  refine gp_X1_message Cx hG hH q_fl_X1_16 dX1_begin_9 ?_
  exact mv_reta Cx hr (Or.inl ⟨_, rfl⟩) hH hS (Or.inr ⟨_, rfl⟩) (rfl) (⟨bHas.nil, mSame.M ⟨Or.inl rfl, rfl⟩⟩) dX1_begin_12 hlocks

set_option maxHeartbeats 4000000 in
set_option maxRecDepth 100000 in
theorem d_X1_padMessage (l : Launch) (E : mEv) (A : Nat → Prop) (hO : mOwn mLP E A) (S : mSt) (xs : List Int8) (hxs : bHas S 2 xs) (hle : xs.length ≤ 503) : Met l yX1_padMessage (Cond.code yX1_padMessage cX1_padMessage 4 none :: mv_ws) (mRm 1 22) (mPc mLP E A S [.ref (mAdC E 1 0)]) (mQ mLP E A (fun S' => bHas S' 2 (padL xs) ∧ mSame (bX 2) S S') none) 0 0 A := by
  refine Met.ofW (cc := cX1_padMessage) (maxL := 4) (ret := none) (by decide) rfl ?_
  intro p e s m args below meth c s₁ B hml hv
  obtain ⟨rfl, hG, hH⟩ := hv
  have hx := B.exec
  have hb := B.bytes
  have hr := B.returns
  have hlocks := B.notSynchronized
  have Cx : CallFix p m c cX1_padMessage 4 s ([.ref (mAdC E 1 0)] : List Value).toArray (Cond.code yX1_padMessage cX1_padMessage 4 none :: mv_ws) RX1 := ⟨hx, hb, hml, findClass_of_methodNamed B.named, atoms_spec (ws := Cond.code yX1_padMessage cX1_padMessage 4 none :: mv_ws) B.pre⟩
  have hS : va_S A s.heap s.heap [] := va_S.rf
  have hl := lv_entry ([.ref (mAdC E 1 0)]) (n := 4) (Nat.le_of_ble_eq_true rfl)
  rw [lg_entry_eq]
  generalize (lg_sl ([.ref (mAdC E 1 0)]) ++ List.replicate (4 - (lg_sl ([.ref (mAdC E 1 0)])).length) Slot.unset).toArray = ls at hl ⊢
  have hl : lv_has ls 4 [(0, .ref (mAdC E 1 0))] := hl
  refine lv_aload_n hx hb dX1_padMessage_0 rfl (lv_at hl 0 rfl) ?_
  refine gp_X1_message Cx hG hH q_fl_X1_16 dX1_padMessage_1 ?_
  refine gp_X0_size Cx hG hH (by decide) q_fl_X1_31 dX1_padMessage_4 ?_
  refine mv_eqi (x' := nI xs.length) (hxs.1) ?_
  refine lv_bipush (v := 8) hx hb dX1_padMessage_7 (by decide) ?_
  refine lv_imul hx hb dX1_padMessage_9 ?_
  refine lv_istore_n (lv' := [(1, .int ((nI xs.length) * 8)), (0, .ref (mAdC E 1 0))]) hx hb dX1_padMessage_10 rfl hl (by decide) rfl (fun ls hl => ?_)
  refine lv_aload_n hx hb dX1_padMessage_11 rfl (lv_at hl 1 rfl) ?_
  refine gp_X1_message Cx hG hH q_fl_X1_16 dX1_padMessage_12 ?_
  refine lv_sipush (v := 128) hx hb dX1_padMessage_15 (by decide) ?_
  refine mv_callV (Y := mLP) (C := RX0) (k := 2) (i := 2) (rest := []) Cx hG hH hS (d_X0_put l E A hO S 2 (by decide) xs hxs 128 (by rw [mLn_2]; omega)) q_co_X0_put q_ml_X1_64 q_im_X0_put q_se_X0_put q_in_X0 (okP_2 (by decide)) rfl rfl hd_X0_put ⟨Nat.le_of_ble_eq_true rfl, Nat.le_of_ble_eq_true rfl⟩ rfl hl.1 rfl (Nat.le_of_ble_eq_true rfl) ⟨Nat.le_of_ble_eq_true rfl, Nat.le_of_ble_eq_true rfl⟩ dX1_padMessage_18 (fun S18 H locs hP18 hH hS => ?_)
  refine W.eq (g2 := F0 m 21 ls []) rfl ?_
  refine lv_bipush (v := 56) hx hb dX1_padMessage_21 (by decide) ?_
  refine lv_aload_n hx hb dX1_padMessage_23 rfl (lv_at hl 1 rfl) ?_
  refine gp_X1_message Cx hG hH q_fl_X1_16 dX1_padMessage_24 ?_
  refine gp_X0_size Cx hG hH (by decide) q_fl_X1_31 dX1_padMessage_27 ?_
  refine mv_eqi (x' := nI (xs.length + 1)) (by have h := hP18.1.1; simpa using h) ?_
  refine lv_isub hx hb dX1_padMessage_30 ?_
  refine lv_bipush (v := 64) hx hb dX1_padMessage_31 (by decide) ?_
  refine mv_callS (Y := mLP) (rest := []) Cx hG hH hS (d_J9_floorMod_7cf53 l E A hO S18 (56 - (nI (xs.length + 1))) 64 (by decide)) q_co_J9_floorMod_7cf53 q_ml_X1_67 q_st_J9_floorMod_7cf53 q_in_J9 hd_J9_floorMod_7cf53 ⟨Nat.le_of_ble_eq_true rfl, Nat.le_of_ble_eq_true rfl⟩ rfl hl.1 rfl (Nat.le_of_ble_eq_true rfl) ⟨Nat.le_of_ble_eq_true rfl, Nat.le_of_ble_eq_true rfl⟩ dX1_padMessage_33 (fun S33 H locs hP33 hH hS => ?_)
  refine W.eq (g2 := F0 m 36 ls [.int (mFm (56 - (nI (xs.length + 1))) 64)]) rfl ?_
  have hH := mv_S hP33 hH
  refine mv_eqi (x' := nI ((568 - (xs.length + 1)) % 64)) (fm64 _ (by omega)) ?_
  refine lv_bipush (v := 6) hx hb dX1_padMessage_36 (by decide) ?_
  refine lv_iadd hx hb dX1_padMessage_38 ?_
  refine mv_eqi (x' := nI ((568 - (xs.length + 1)) % 64 + 6)) (nI_add _ 6) ?_
  refine lv_istore_n (lv' := [(2, .int (nI ((568 - (xs.length + 1)) % 64 + 6))), (1, .int ((nI xs.length) * 8)), (0, .ref (mAdC E 1 0))]) hx hb dX1_padMessage_39 rfl hl (by decide) rfl (fun ls hl => ?_)
  refine lv_iconst (v := 0) hx hb dX1_padMessage_40 (by decide) ?_
  refine mv_eqi (x' := nI 0) (rfl) ?_
  refine lv_istore_n (lv' := [(3, .int (nI 0)), (2, .int (nI ((568 - (xs.length + 1)) % 64 + 6))), (1, .int ((nI xs.length) * 8)), (0, .ref (mAdC E 1 0))]) hx hb dX1_padMessage_41 rfl hl (by decide) rfl (fun ls hl => ?_)
  have lp : ∀ (n j : Nat) (S1 : mSt) (H : Heap) (locs : List Loc) (ls : Array Slot) , ((568 - (xs.length + 1)) % 64 + 6) - j < n → j ≤ ((568 - (xs.length + 1)) % 64 + 6) → (bHas S1 2 ((xs ++ [(128 : Int32).toInt8]) ++ List.replicate j ((0 : Int32).toInt8)) ∧ mSame (bX 2) S S1) → mHold mLP E S1 H → va_S A s.heap H locs → lv_has ls 4 [(0, .ref (mAdC E 1 0)), (1, .int (nI xs.length * 8)), (2, .int (nI ((568 - (xs.length + 1)) % 64 + 6))), (3, .int (nI j))] → W p l e (headSpec (Cond.code yX1_padMessage cX1_padMessage 4 none :: mv_ws) (mRm 1 22)).room s m ([.ref (mAdC E 1 0)] : List Value).toArray below meth c H locs 0 0 (MQ below (mQ mLP E A (fun S' => bHas S' 2 (padL xs) ∧ mSame (bX 2) S S') none) ([.ref (mAdC E 1 0)] : List Value).toArray s 0 0 A) (F0 m 42 ls []) := by
    intro n
    induction n with
    | zero => intro j S1 H locs ls  hn hj hinv hH hS hl; omega
    | succ n ih =>
      intro j S1 H locs ls  hn hj hinv hH hS hl
      refine lv_iload_n hx hb dX1_padMessage_42 rfl (lv_at hl 3 rfl) ?_
      refine lv_iload_n hx hb dX1_padMessage_43 rfl (lv_at hl 2 rfl) ?_
      refine lv_icmp_ge (tgt := 61) hx hb dX1_padMessage_44 (by decide) (fun h44 => ?_) (fun h44 => ?_)
      · skip
        have hjz : j = ((568 - (xs.length + 1)) % 64 + 6) := by have := ge_of (a := ((568 - (xs.length + 1)) % 64 + 6)) (by omega) (by omega) h44; omega
        refine lv_aload_n hx hb dX1_padMessage_61 rfl (lv_at hl 0 rfl) ?_
        refine gp_X1_message Cx hG hH q_fl_X1_16 dX1_padMessage_62 ?_
        refine lv_iload_n hx hb dX1_padMessage_65 rfl (lv_at hl 1 rfl) ?_
        refine lv_bipush (v := 8) hx hb dX1_padMessage_66 (by decide) ?_
        refine lv_iushr hx hb dX1_padMessage_68 rfl ?_
        refine mv_callV (Y := mLP) (C := RX0) (k := 2) (i := 2) (rest := []) Cx hG hH hS (d_X0_put l E A hO S1 2 (by decide) ((xs ++ [(128 : Int32).toInt8]) ++ List.replicate j ((0 : Int32).toInt8)) hinv.1 (((nI xs.length * 8).toUInt32 >>> ((8 : Int32).toUInt32 &&& Int32.toUInt32 31)).toInt32) (by simp only [List.length_append, List.length_replicate, List.length_singleton, mLn_2]; omega)) q_co_X0_put q_ml_X1_64 q_im_X0_put q_se_X0_put q_in_X0 (okP_2 (by decide)) rfl rfl hd_X0_put ⟨Nat.le_of_ble_eq_true rfl, Nat.le_of_ble_eq_true rfl⟩ rfl hl.1 rfl (Nat.le_of_ble_eq_true rfl) ⟨Nat.le_of_ble_eq_true rfl, Nat.le_of_ble_eq_true rfl⟩ dX1_padMessage_69 (fun S69 H locs hP69 hH hS => ?_)
        refine W.eq (g2 := F0 m 72 ls []) rfl ?_
        refine lv_aload_n hx hb dX1_padMessage_72 rfl (lv_at hl 0 rfl) ?_
        refine gp_X1_message Cx hG hH q_fl_X1_16 dX1_padMessage_73 ?_
        refine lv_iload_n hx hb dX1_padMessage_76 rfl (lv_at hl 1 rfl) ?_
        refine mv_callV (Y := mLP) (C := RX0) (k := 2) (i := 2) (rest := []) Cx hG hH hS (d_X0_put l E A hO S69 2 (by decide) _ hP69.1 (nI xs.length * 8) (by simp only [List.length_append, List.length_replicate, List.length_singleton, mLn_2]; omega)) q_co_X0_put q_ml_X1_64 q_im_X0_put q_se_X0_put q_in_X0 (okP_2 (by decide)) rfl rfl hd_X0_put ⟨Nat.le_of_ble_eq_true rfl, Nat.le_of_ble_eq_true rfl⟩ rfl hl.1 rfl (Nat.le_of_ble_eq_true rfl) ⟨Nat.le_of_ble_eq_true rfl, Nat.le_of_ble_eq_true rfl⟩ dX1_padMessage_77 (fun S77 H locs hP77 hH hS => ?_)
        refine W.eq (g2 := F0 m 80 ls []) rfl ?_
        exact mv_retv Cx hr hH hS (⟨by have h := hP77.1; unfold padL; rw [hjz] at h; exact h, (hinv.2.tr hP69.2).tr hP77.2⟩) dX1_padMessage_80 hlocks
      · skip
        have hjz : j < ((568 - (xs.length + 1)) % 64 + 6) := lt_of (a := ((568 - (xs.length + 1)) % 64 + 6)) (by omega) (by omega) h44
        refine lv_aload_n hx hb dX1_padMessage_47 rfl (lv_at hl 0 rfl) ?_
        refine gp_X1_message Cx hG hH q_fl_X1_16 dX1_padMessage_48 ?_
        refine lv_iconst (v := 0) hx hb dX1_padMessage_51 (by decide) ?_
        refine mv_callV (Y := mLP) (C := RX0) (k := 2) (i := 2) (rest := []) Cx hG hH hS (d_X0_put l E A hO S1 2 (by decide) ((xs ++ [(128 : Int32).toInt8]) ++ List.replicate j ((0 : Int32).toInt8)) hinv.1 0 (by simp only [List.length_append, List.length_replicate, List.length_singleton, mLn_2]; omega)) q_co_X0_put q_ml_X1_64 q_im_X0_put q_se_X0_put q_in_X0 (okP_2 (by decide)) rfl rfl hd_X0_put ⟨Nat.le_of_ble_eq_true rfl, Nat.le_of_ble_eq_true rfl⟩ rfl hl.1 rfl (Nat.le_of_ble_eq_true rfl) ⟨Nat.le_of_ble_eq_true rfl, Nat.le_of_ble_eq_true rfl⟩ dX1_padMessage_52 (fun S52 H locs hP52 hH hS => ?_)
        refine W.eq (g2 := F0 m 55 ls []) rfl ?_
        refine lv_iinc (v := nI (j + 1)) (lv' := [(3, .int (nI (j + 1))), (0, .ref (mAdC E 1 0)), (1, .int (nI xs.length * 8)), (2, .int (nI ((568 - (xs.length + 1)) % 64 + 6)))]) hx hb dX1_padMessage_55 hl (k := 3) rfl (i2_1 j) (by decide) rfl (fun ls hl => ?_)
        refine lv_goto (tgt := 42) hx hb dX1_padMessage_58 (by decide) ?_
        exact ih (j + 1) S52 _ _ ls  (by omega) (by omega) (⟨by rw [List.replicate_succ', ← List.append_assoc]; exact hP52.1, hinv.2.tr hP52.2⟩) hH hS (lv_sub hl [1, 2, 3, 0] rfl)
  exact lp (((568 - (xs.length + 1)) % 64 + 6) - 0 + 1) 0 S18 _ _ ls  (by omega) (by omega) (⟨by simpa using hP18.1, hP18.2⟩) hH hS (lv_sub hl [3, 2, 1, 0] rfl)

set_option maxHeartbeats 4000000 in
set_option maxRecDepth 100000 in
theorem d_X1_spreadBlock (l : Launch) (E : mEv) (A : Nat → Prop) (hO : mOwn mLP E A) (S : mSt) (a : Nat) (ha : a + 64 ≤ 512) : Met l yX1_spreadBlock (Cond.code yX1_spreadBlock cX1_spreadBlock 7 none :: mv_ws) (mRm 1 21) (mPc mLP E A S [.ref (mAdC E 1 0), .int (nI a)]) (mQ mLP E A (fun S' => (∀ q, q < 16 + 48 → S'.1 5 0 q = schN (fun q => mW4 (S.2.1 3 2) (a + 4 * q)) 48 q) ∧ mSame (fun k _ => k = 5) S S') none) 0 0 A := by
  refine Met.ofW (cc := cX1_spreadBlock) (maxL := 7) (ret := none) (by decide) rfl ?_
  intro p e s m args below meth c s₁ B hml hv
  obtain ⟨rfl, hG, hH⟩ := hv
  have hx := B.exec
  have hb := B.bytes
  have hr := B.returns
  have hlocks := B.notSynchronized
  have Cx : CallFix p m c cX1_spreadBlock 7 s ([.ref (mAdC E 1 0), .int (nI a)] : List Value).toArray (Cond.code yX1_spreadBlock cX1_spreadBlock 7 none :: mv_ws) RX1 := ⟨hx, hb, hml, findClass_of_methodNamed B.named, atoms_spec (ws := Cond.code yX1_spreadBlock cX1_spreadBlock 7 none :: mv_ws) B.pre⟩
  have hS : va_S A s.heap s.heap [] := va_S.rf
  have hl := lv_entry ([.ref (mAdC E 1 0), .int (nI a)]) (n := 7) (Nat.le_of_ble_eq_true rfl)
  rw [lg_entry_eq]
  generalize (lg_sl ([.ref (mAdC E 1 0), .int (nI a)]) ++ List.replicate (7 - (lg_sl ([.ref (mAdC E 1 0), .int (nI a)])).length) Slot.unset).toArray = ls at hl ⊢
  have hl : lv_has ls 7 [(0, .ref (mAdC E 1 0)), (1, .int (nI a))] := hl
  refine lv_iconst (v := 0) hx hb dX1_spreadBlock_0 (by decide) ?_
  refine mv_eqi (x' := nI 0) (rfl) ?_
  refine lv_istore_n (lv' := [(2, .int (nI 0)), (0, .ref (mAdC E 1 0)), (1, .int (nI a))]) hx hb dX1_spreadBlock_1 rfl hl (by decide) rfl (fun ls hl => ?_)
  have lp : ∀ (n j : Nat) (S1 : mSt) (H : Heap) (locs : List Loc) (ls : Array Slot) , 16 - j < n → j ≤ 16 → ((∀ q, q < j → S1.1 5 0 q = (fun q => mW4 (S.2.1 3 2) (a + 4 * q)) q) ∧ mSame (fun k _ => k = 5) S S1) → mHold mLP E S1 H → va_S A s.heap H locs → lv_has ls 7 [(0, .ref (mAdC E 1 0)), (1, .int (nI a)), (2, .int (nI j))] → W p l e (headSpec (Cond.code yX1_spreadBlock cX1_spreadBlock 7 none :: mv_ws) (mRm 1 21)).room s m ([.ref (mAdC E 1 0), .int (nI a)] : List Value).toArray below meth c H locs 0 0 (MQ below (mQ mLP E A (fun S' => (∀ q, q < 16 + 48 → S'.1 5 0 q = schN (fun q => mW4 (S.2.1 3 2) (a + 4 * q)) 48 q) ∧ mSame (fun k _ => k = 5) S S') none) ([.ref (mAdC E 1 0), .int (nI a)] : List Value).toArray s 0 0 A) (F0 m 2 ls []) := by
    intro n
    induction n with
    | zero => intro j S1 H locs ls  hn hj hinv hH hS hl; omega
    | succ n ih =>
      intro j S1 H locs ls  hn hj hinv hH hS hl
      refine lv_iload_n hx hb dX1_spreadBlock_2 rfl (lv_at hl 2 rfl) ?_
      refine lv_bipush (v := 16) hx hb dX1_spreadBlock_3 (by decide) ?_
      refine lv_icmp_ge (tgt := 32) hx hb dX1_spreadBlock_5 (by decide) (fun h5 => ?_) (fun h5 => ?_)
      · skip
        have hj16 : j = 16 := by have := ge_of (a := 16) (by decide) (by omega) h5; omega
        refine lv_bipush (v := 16) hx hb dX1_spreadBlock_32 (by decide) ?_
        refine mv_eqi (x' := nI (16 + 0)) (rfl) ?_
        refine lv_istore_n (lv' := [(2, .int (nI (16 + 0))), (0, .ref (mAdC E 1 0)), (1, .int (nI a))]) hx hb dX1_spreadBlock_34 rfl hl (by decide) rfl (fun ls hl => ?_)
        have lp2 : ∀ (n t : Nat) (S2 : mSt) (H : Heap) (locs : List Loc) (ls : Array Slot) , 48 - t < n → t ≤ 48 → ((∀ q, q < 16 + t → S2.1 5 0 q = schN (fun q => mW4 (S.2.1 3 2) (a + 4 * q)) t q) ∧ mSame (fun k _ => k = 5) S S2) → mHold mLP E S2 H → va_S A s.heap H locs → lv_has ls 7 [(0, .ref (mAdC E 1 0)), (1, .int (nI a)), (2, .int (nI (16 + t)))] → W p l e (headSpec (Cond.code yX1_spreadBlock cX1_spreadBlock 7 none :: mv_ws) (mRm 1 21)).room s m ([.ref (mAdC E 1 0), .int (nI a)] : List Value).toArray below meth c H locs 0 0 (MQ below (mQ mLP E A (fun S' => (∀ q, q < 16 + 48 → S'.1 5 0 q = schN (fun q => mW4 (S.2.1 3 2) (a + 4 * q)) 48 q) ∧ mSame (fun k _ => k = 5) S S') none) ([.ref (mAdC E 1 0), .int (nI a)] : List Value).toArray s 0 0 A) (F0 m 35 ls []) := by
          intro n
          induction n with
          | zero => intro t S2 H locs ls  hn2 ht hin2 hH hS hl; omega
          | succ n ih =>
            intro t S2 H locs ls  hn2 ht hin2 hH hS hl
            refine lv_iload_n hx hb dX1_spreadBlock_35 rfl (lv_at hl 2 rfl) ?_
            refine lv_bipush (v := 64) hx hb dX1_spreadBlock_36 (by decide) ?_
            refine lv_icmp_ge (tgt := 154) hx hb dX1_spreadBlock_38 (by decide) (fun h38 => ?_) (fun h38 => ?_)
            · skip
              have ht48 : t = 48 := by have := ge_of (a := 64) (by decide) (by omega) h38; omega
              exact mv_retv Cx hr hH hS (by subst ht48; exact hin2) dX1_spreadBlock_154 hlocks
            · skip
              have ht48 : t < 48 := by have := lt_of (a := 64) (by decide) (by omega) h38; omega
              refine lv_aload_n hx hb dX1_spreadBlock_41 rfl (lv_at hl 0 rfl) ?_
              refine gp_X1_words Cx hG hH q_fl_X1_24 dX1_spreadBlock_42 ?_
              refine lv_iload_n hx hb dX1_spreadBlock_45 rfl (lv_at hl 2 rfl) ?_
              refine lv_bipush (v := 15) hx hb dX1_spreadBlock_46 (by decide) ?_
              refine lv_isub hx hb dX1_spreadBlock_48 ?_
              refine mv_eqi (x' := nI (16 + t - 15)) (pk_sub (a := 16 + t) (b := 15) (by omega)) ?_
              refine mv_ial Cx hG hH isP_5 (16 + t - 15) (rfl) (by omega) dX1_spreadBlock_49 ?_
              refine lv_istore_n (lv' := [(3, .int (S2.1 5 0 (16 + t - 15))), (0, .ref (mAdC E 1 0)), (1, .int (nI a)), (2, .int (nI (16 + t)))]) hx hb dX1_spreadBlock_50 rfl hl (by decide) rfl (fun ls hl => ?_)
              refine lv_aload_n hx hb dX1_spreadBlock_51 rfl (lv_at hl 1 rfl) ?_
              refine gp_X1_words Cx hG hH q_fl_X1_24 dX1_spreadBlock_52 ?_
              refine lv_iload_n hx hb dX1_spreadBlock_55 rfl (lv_at hl 3 rfl) ?_
              refine lv_iconst (v := 2) hx hb dX1_spreadBlock_56 (by decide) ?_
              refine lv_isub hx hb dX1_spreadBlock_57 ?_
              refine mv_eqi (x' := nI (16 + t - 2)) (pk_sub (a := 16 + t) (b := 2) (by omega)) ?_
              refine mv_ial Cx hG hH isP_5 (16 + t - 2) (rfl) (by omega) dX1_spreadBlock_58 ?_
              refine lv_istore (lv' := [(4, .int (S2.1 5 0 (16 + t - 2))), (3, .int (S2.1 5 0 (16 + t - 15))), (0, .ref (mAdC E 1 0)), (1, .int (nI a)), (2, .int (nI (16 + t)))]) hx hb dX1_spreadBlock_59 hl (by decide) rfl (fun ls hl => ?_)
              refine lv_iload_n hx hb dX1_spreadBlock_61 rfl (lv_at hl 1 rfl) ?_
              refine lv_bipush (v := 7) hx hb dX1_spreadBlock_62 (by decide) ?_
              refine lv_iushr hx hb dX1_spreadBlock_64 rfl ?_
              refine lv_iload_n hx hb dX1_spreadBlock_65 rfl (lv_at hl 1 rfl) ?_
              refine lv_bipush (v := 25) hx hb dX1_spreadBlock_66 (by decide) ?_
              refine lv_ishl hx hb dX1_spreadBlock_68 ?_
              refine lv_ior hx hb dX1_spreadBlock_69 ?_
              refine lv_iload_n hx hb dX1_spreadBlock_70 rfl (lv_at hl 1 rfl) ?_
              refine lv_bipush (v := 18) hx hb dX1_spreadBlock_71 (by decide) ?_
              refine lv_iushr hx hb dX1_spreadBlock_73 rfl ?_
              refine lv_iload_n hx hb dX1_spreadBlock_74 rfl (lv_at hl 1 rfl) ?_
              refine lv_bipush (v := 14) hx hb dX1_spreadBlock_75 (by decide) ?_
              refine lv_ishl hx hb dX1_spreadBlock_77 ?_
              refine lv_ior hx hb dX1_spreadBlock_78 ?_
              refine lv_ixor hx hb dX1_spreadBlock_79 ?_
              refine lv_iload_n hx hb dX1_spreadBlock_80 rfl (lv_at hl 1 rfl) ?_
              refine lv_iconst (v := 3) hx hb dX1_spreadBlock_81 (by decide) ?_
              refine lv_iushr hx hb dX1_spreadBlock_82 rfl ?_
              refine lv_ixor hx hb dX1_spreadBlock_83 ?_
              refine lv_istore (lv' := [(5, .int ((((((S2.1 5 0 (16 + t - 15)).toUInt32 >>> ((7 : Int32).toUInt32 &&& Int32.toUInt32 31)).toInt32) ||| ((S2.1 5 0 (16 + t - 15)) <<< (25 &&& 31))) ^^^ ((((S2.1 5 0 (16 + t - 15)).toUInt32 >>> ((18 : Int32).toUInt32 &&& Int32.toUInt32 31)).toInt32) ||| ((S2.1 5 0 (16 + t - 15)) <<< (14 &&& 31)))) ^^^ (((S2.1 5 0 (16 + t - 15)).toUInt32 >>> ((3 : Int32).toUInt32 &&& Int32.toUInt32 31)).toInt32))), (4, .int (S2.1 5 0 (16 + t - 2))), (3, .int (S2.1 5 0 (16 + t - 15))), (0, .ref (mAdC E 1 0)), (1, .int (nI a)), (2, .int (nI (16 + t)))]) hx hb dX1_spreadBlock_84 hl (by decide) rfl (fun ls hl => ?_)
              refine lv_iload hx hb dX1_spreadBlock_86 (lv_at hl 1 rfl) ?_
              refine lv_bipush (v := 17) hx hb dX1_spreadBlock_88 (by decide) ?_
              refine lv_iushr hx hb dX1_spreadBlock_90 rfl ?_
              refine lv_iload hx hb dX1_spreadBlock_91 (lv_at hl 1 rfl) ?_
              refine lv_bipush (v := 15) hx hb dX1_spreadBlock_93 (by decide) ?_
              refine lv_ishl hx hb dX1_spreadBlock_95 ?_
              refine lv_ior hx hb dX1_spreadBlock_96 ?_
              refine lv_iload hx hb dX1_spreadBlock_97 (lv_at hl 1 rfl) ?_
              refine lv_bipush (v := 19) hx hb dX1_spreadBlock_99 (by decide) ?_
              refine lv_iushr hx hb dX1_spreadBlock_101 rfl ?_
              refine lv_iload hx hb dX1_spreadBlock_102 (lv_at hl 1 rfl) ?_
              refine lv_bipush (v := 13) hx hb dX1_spreadBlock_104 (by decide) ?_
              refine lv_ishl hx hb dX1_spreadBlock_106 ?_
              refine lv_ior hx hb dX1_spreadBlock_107 ?_
              refine lv_ixor hx hb dX1_spreadBlock_108 ?_
              refine lv_iload hx hb dX1_spreadBlock_109 (lv_at hl 1 rfl) ?_
              refine lv_bipush (v := 10) hx hb dX1_spreadBlock_111 (by decide) ?_
              refine lv_iushr hx hb dX1_spreadBlock_113 rfl ?_
              refine lv_ixor hx hb dX1_spreadBlock_114 ?_
              refine lv_istore (lv' := [(6, .int ((((((S2.1 5 0 (16 + t - 2)).toUInt32 >>> ((17 : Int32).toUInt32 &&& Int32.toUInt32 31)).toInt32) ||| ((S2.1 5 0 (16 + t - 2)) <<< (15 &&& 31))) ^^^ ((((S2.1 5 0 (16 + t - 2)).toUInt32 >>> ((19 : Int32).toUInt32 &&& Int32.toUInt32 31)).toInt32) ||| ((S2.1 5 0 (16 + t - 2)) <<< (13 &&& 31)))) ^^^ (((S2.1 5 0 (16 + t - 2)).toUInt32 >>> ((10 : Int32).toUInt32 &&& Int32.toUInt32 31)).toInt32))), (5, .int ((((((S2.1 5 0 (16 + t - 15)).toUInt32 >>> ((7 : Int32).toUInt32 &&& Int32.toUInt32 31)).toInt32) ||| ((S2.1 5 0 (16 + t - 15)) <<< (25 &&& 31))) ^^^ ((((S2.1 5 0 (16 + t - 15)).toUInt32 >>> ((18 : Int32).toUInt32 &&& Int32.toUInt32 31)).toInt32) ||| ((S2.1 5 0 (16 + t - 15)) <<< (14 &&& 31)))) ^^^ (((S2.1 5 0 (16 + t - 15)).toUInt32 >>> ((3 : Int32).toUInt32 &&& Int32.toUInt32 31)).toInt32))), (4, .int (S2.1 5 0 (16 + t - 2))), (3, .int (S2.1 5 0 (16 + t - 15))), (0, .ref (mAdC E 1 0)), (1, .int (nI a)), (2, .int (nI (16 + t)))]) hx hb dX1_spreadBlock_115 hl (by decide) rfl (fun ls hl => ?_)
              refine lv_aload_n hx hb dX1_spreadBlock_117 rfl (lv_at hl 4 rfl) ?_
              refine gp_X1_words Cx hG hH q_fl_X1_24 dX1_spreadBlock_118 ?_
              refine lv_iload_n hx hb dX1_spreadBlock_121 rfl (lv_at hl 6 rfl) ?_
              refine lv_aload_n hx hb dX1_spreadBlock_122 rfl (lv_at hl 4 rfl) ?_
              refine gp_X1_words Cx hG hH q_fl_X1_24 dX1_spreadBlock_123 ?_
              refine lv_iload_n hx hb dX1_spreadBlock_126 rfl (lv_at hl 6 rfl) ?_
              refine lv_bipush (v := 16) hx hb dX1_spreadBlock_127 (by decide) ?_
              refine lv_isub hx hb dX1_spreadBlock_129 ?_
              refine mv_eqi (x' := nI (16 + t - 16)) (pk_sub (a := 16 + t) (b := 16) (by omega)) ?_
              refine mv_ial Cx hG hH isP_5 (16 + t - 16) (rfl) (by omega) dX1_spreadBlock_130 ?_
              refine lv_iload hx hb dX1_spreadBlock_131 (lv_at hl 1 rfl) ?_
              refine lv_iadd hx hb dX1_spreadBlock_133 ?_
              refine lv_aload_n hx hb dX1_spreadBlock_134 rfl (lv_at hl 4 rfl) ?_
              refine gp_X1_words Cx hG hH q_fl_X1_24 dX1_spreadBlock_135 ?_
              refine lv_iload_n hx hb dX1_spreadBlock_138 rfl (lv_at hl 6 rfl) ?_
              refine lv_bipush (v := 7) hx hb dX1_spreadBlock_139 (by decide) ?_
              refine lv_isub hx hb dX1_spreadBlock_141 ?_
              refine mv_eqi (x' := nI (16 + t - 7)) (pk_sub (a := 16 + t) (b := 7) (by omega)) ?_
              refine mv_ial Cx hG hH isP_5 (16 + t - 7) (rfl) (by omega) dX1_spreadBlock_142 ?_
              refine lv_iadd hx hb dX1_spreadBlock_143 ?_
              refine lv_iload hx hb dX1_spreadBlock_144 (lv_at hl 0 rfl) ?_
              refine lv_iadd hx hb dX1_spreadBlock_146 ?_
              refine mv_ias Cx hG hO hH hS isP_5 (16 + t) (rfl) (by omega) dX1_spreadBlock_147 (fun H locs hH hS => ?_)
              refine lv_iinc (v := nI (16 + (t + 1))) (lv' := [(2, .int (nI (16 + (t + 1)))), (6, .int ((((((S2.1 5 0 (16 + t - 2)).toUInt32 >>> ((17 : Int32).toUInt32 &&& Int32.toUInt32 31)).toInt32) ||| ((S2.1 5 0 (16 + t - 2)) <<< (15 &&& 31))) ^^^ ((((S2.1 5 0 (16 + t - 2)).toUInt32 >>> ((19 : Int32).toUInt32 &&& Int32.toUInt32 31)).toInt32) ||| ((S2.1 5 0 (16 + t - 2)) <<< (13 &&& 31)))) ^^^ (((S2.1 5 0 (16 + t - 2)).toUInt32 >>> ((10 : Int32).toUInt32 &&& Int32.toUInt32 31)).toInt32))), (5, .int ((((((S2.1 5 0 (16 + t - 15)).toUInt32 >>> ((7 : Int32).toUInt32 &&& Int32.toUInt32 31)).toInt32) ||| ((S2.1 5 0 (16 + t - 15)) <<< (25 &&& 31))) ^^^ ((((S2.1 5 0 (16 + t - 15)).toUInt32 >>> ((18 : Int32).toUInt32 &&& Int32.toUInt32 31)).toInt32) ||| ((S2.1 5 0 (16 + t - 15)) <<< (14 &&& 31)))) ^^^ (((S2.1 5 0 (16 + t - 15)).toUInt32 >>> ((3 : Int32).toUInt32 &&& Int32.toUInt32 31)).toInt32))), (4, .int (S2.1 5 0 (16 + t - 2))), (3, .int (S2.1 5 0 (16 + t - 15))), (0, .ref (mAdC E 1 0)), (1, .int (nI a))]) hx hb dX1_spreadBlock_148 hl (k := 6) rfl (i2_1 (16 + t)) (by decide) rfl (fun ls hl => ?_)
              refine lv_goto (tgt := 35) hx hb dX1_spreadBlock_151 (by decide) ?_
              exact ih (t + 1) (mM S2 5 0 (16 + t) ((((S2.1 5 0 (16 + t - 16)) + ((((((S2.1 5 0 (16 + t - 15)).toUInt32 >>> ((7 : Int32).toUInt32 &&& Int32.toUInt32 31)).toInt32) ||| ((S2.1 5 0 (16 + t - 15)) <<< (25 &&& 31))) ^^^ ((((S2.1 5 0 (16 + t - 15)).toUInt32 >>> ((18 : Int32).toUInt32 &&& Int32.toUInt32 31)).toInt32) ||| ((S2.1 5 0 (16 + t - 15)) <<< (14 &&& 31)))) ^^^ (((S2.1 5 0 (16 + t - 15)).toUInt32 >>> ((3 : Int32).toUInt32 &&& Int32.toUInt32 31)).toInt32))) + (S2.1 5 0 (16 + t - 7))) + ((((((S2.1 5 0 (16 + t - 2)).toUInt32 >>> ((17 : Int32).toUInt32 &&& Int32.toUInt32 31)).toInt32) ||| ((S2.1 5 0 (16 + t - 2)) <<< (15 &&& 31))) ^^^ ((((S2.1 5 0 (16 + t - 2)).toUInt32 >>> ((19 : Int32).toUInt32 &&& Int32.toUInt32 31)).toInt32) ||| ((S2.1 5 0 (16 + t - 2)) <<< (13 &&& 31)))) ^^^ (((S2.1 5 0 (16 + t - 2)).toUInt32 >>> ((10 : Int32).toUInt32 &&& Int32.toUInt32 31)).toInt32)))) _ _ ls  (by omega) (by omega) (by
                              refine ⟨fun q hq => ?_, hin2.2.tr (mSame.M rfl)⟩
                              show _ = va_up (schN (fun q => mW4 (S.2.1 3 2) (a + 4 * q)) t) (16 + t) (schV (schN (fun q => mW4 (S.2.1 3 2) (a + 4 * q)) t) (16 + t)) q
                              by_cases e : q = 16 + t
                              · subst e
                                rw [va_up_self]
                                unfold schV
                                rw [← hin2.1 (16 + t - 16) (by omega), ← hin2.1 (16 + t - 15) (by omega), ← hin2.1 (16 + t - 7) (by omega), ← hin2.1 (16 + t - 2) (by omega)]
                                simp [mM, m3]
                              · rw [va_up_ne _ _ e]
                                simp only [mM, m3, e, and_false, if_false]
                                exact hin2.1 q (by omega)) hH hS (lv_sub hl [5, 6, 0] rfl)
        exact lp2 (48 - 0 + 1) 0 S1 _ _ ls  (by omega) (by omega) (by subst hj16; exact hinv) hH hS (lv_sub hl [1, 2, 0] rfl)
      · skip
        have hj16 : j < 16 := lt_of (a := 16) (by decide) (by omega) h5
        refine lv_aload_n hx hb dX1_spreadBlock_8 rfl (lv_at hl 0 rfl) ?_
        refine gp_X1_words Cx hG hH q_fl_X1_24 dX1_spreadBlock_9 ?_
        refine lv_iload_n hx hb dX1_spreadBlock_12 rfl (lv_at hl 2 rfl) ?_
        refine lv_aload_n hx hb dX1_spreadBlock_13 rfl (lv_at hl 0 rfl) ?_
        refine gp_X1_message Cx hG hH q_fl_X1_16 dX1_spreadBlock_14 ?_
        refine lv_iload_n hx hb dX1_spreadBlock_17 rfl (lv_at hl 1 rfl) ?_
        refine lv_iconst (v := 4) hx hb dX1_spreadBlock_18 (by decide) ?_
        refine lv_iload_n hx hb dX1_spreadBlock_19 rfl (lv_at hl 2 rfl) ?_
        refine lv_imul hx hb dX1_spreadBlock_20 ?_
        refine lv_iadd hx hb dX1_spreadBlock_21 ?_
        refine mv_eqi (x' := nI (a + 4 * j)) (by rw [show (4 : Int32) = nI 4 from rfl, pk_mul, nI_add]) ?_
        refine mv_callV (Y := mLP) (C := RX0) (k := 2) (i := 2) (rest := [.int (nI j), .ref (mAdC E 5 0)]) Cx hG hH hS (d_X0_intAt l E A hO S1 2 (by decide) (a + 4 * j) (by rw [mLn_2]; omega)) q_co_X0_intAt q_ml_X1_73 q_im_X0_intAt q_se_X0_intAt q_in_X0 (okP_2 (by decide)) rfl rfl hd_X0_intAt ⟨Nat.le_of_ble_eq_true rfl, Nat.le_of_ble_eq_true rfl⟩ rfl hl.1 rfl (Nat.le_of_ble_eq_true rfl) ⟨Nat.le_of_ble_eq_true rfl, Nat.le_of_ble_eq_true rfl⟩ dX1_spreadBlock_22 (fun S22 H locs hP22 hH hS => ?_)
        refine W.eq (g2 := F0 m 25 ls [.int (mW4 (S1.2.1 3 2) (a + 4 * j)), .int (nI j), .ref (mAdC E 5 0)]) rfl ?_
        have hH := mv_S hP22 hH
        refine mv_ias Cx hG hO hH hS isP_5 j (rfl) (by omega) dX1_spreadBlock_25 (fun H locs hH hS => ?_)
        refine lv_iinc (v := nI (j + 1)) (lv' := [(2, .int (nI (j + 1))), (0, .ref (mAdC E 1 0)), (1, .int (nI a))]) hx hb dX1_spreadBlock_26 hl (k := 2) rfl (i2_1 j) (by decide) rfl (fun ls hl => ?_)
        refine lv_goto (tgt := 2) hx hb dX1_spreadBlock_29 (by decide) ?_
        exact ih (j + 1) (mM S1 5 0 j (mW4 (S1.2.1 3 2) (a + 4 * j))) _ _ ls  (by omega) (by omega) (⟨mM_fill hinv.1 (by rw [show S1.2.1 3 2 = S.2.1 3 2 from funext (hinv.2 3 2 (by decide)).2.1]), hinv.2.tr (mSame.M rfl)⟩) hH hS (lv_sub hl [1, 2, 0] rfl)
  exact lp (16 - 0 + 1) 0 S _ _ ls  (by omega) (by omega) (⟨fun q h => absurd h (Nat.not_lt_zero _), mSame.rf⟩) hH hS (lv_sub hl [1, 2, 0] rfl)

set_option maxHeartbeats 4000000 in
set_option maxRecDepth 100000 in
theorem d_X1_mixBlock (l : Launch) (E : mEv) (A : Nat → Prop) (hO : mOwn mLP E A) (S : mSt)  : Met l yX1_mixBlock (Cond.code yX1_mixBlock cX1_mixBlock 14 none :: mv_ws) (mRm 0 0) (mPc mLP E A S [.ref (mAdC E 1 0)]) (mQ mLP E A (fun S' => (∀ q, q < 8 → S'.1 4 0 q = S.1 4 0 q + rndN (fun q => S.1 5 0 q) (fun q => S.1 4 0 q) 64 q) ∧ mSame (fun k _ => k = 4) S S') none) 0 0 A := by
  refine Met.ofW (cc := cX1_mixBlock) (maxL := 14) (ret := none) (by decide) rfl ?_
  intro p e s m args below meth c s₁ B hml hv
  obtain ⟨rfl, hG, hH⟩ := hv
  have hx := B.exec
  have hb := B.bytes
  have hr := B.returns
  have hlocks := B.notSynchronized
  have Cx : CallFix p m c cX1_mixBlock 14 s ([.ref (mAdC E 1 0)] : List Value).toArray (Cond.code yX1_mixBlock cX1_mixBlock 14 none :: mv_ws) RX1 := ⟨hx, hb, hml, findClass_of_methodNamed B.named, atoms_spec (ws := Cond.code yX1_mixBlock cX1_mixBlock 14 none :: mv_ws) B.pre⟩
  have hS : va_S A s.heap s.heap [] := va_S.rf
  obtain ⟨tR, hZR, hTR⟩ := hG.2.2.2.1
  have hl := lv_entry ([.ref (mAdC E 1 0)]) (n := 14) (Nat.le_of_ble_eq_true rfl)
  rw [lg_entry_eq]
  generalize (lg_sl ([.ref (mAdC E 1 0)]) ++ List.replicate (14 - (lg_sl ([.ref (mAdC E 1 0)])).length) Slot.unset).toArray = ls at hl ⊢
  have hl : lv_has ls 14 [(0, .ref (mAdC E 1 0))] := hl
  refine lv_aload_n hx hb dX1_mixBlock_0 rfl (lv_at hl 0 rfl) ?_
  refine gp_X1_sum Cx hG hH q_fl_X1_20 dX1_mixBlock_1 ?_
  refine lv_iconst (v := 0) hx hb dX1_mixBlock_4 (by decide) ?_
  refine mv_ial Cx hG hH isP_4 0 (rfl) (by decide) dX1_mixBlock_5 ?_
  refine lv_istore_n (lv' := [(1, .int (S.1 4 0 0)), (0, .ref (mAdC E 1 0))]) hx hb dX1_mixBlock_6 rfl hl (by decide) rfl (fun ls hl => ?_)
  refine lv_aload_n hx hb dX1_mixBlock_7 rfl (lv_at hl 1 rfl) ?_
  refine gp_X1_sum Cx hG hH q_fl_X1_20 dX1_mixBlock_8 ?_
  refine lv_iconst (v := 1) hx hb dX1_mixBlock_11 (by decide) ?_
  refine mv_ial Cx hG hH isP_4 1 (rfl) (by decide) dX1_mixBlock_12 ?_
  refine lv_istore_n (lv' := [(2, .int (S.1 4 0 1)), (1, .int (S.1 4 0 0)), (0, .ref (mAdC E 1 0))]) hx hb dX1_mixBlock_13 rfl hl (by decide) rfl (fun ls hl => ?_)
  refine lv_aload_n hx hb dX1_mixBlock_14 rfl (lv_at hl 2 rfl) ?_
  refine gp_X1_sum Cx hG hH q_fl_X1_20 dX1_mixBlock_15 ?_
  refine lv_iconst (v := 2) hx hb dX1_mixBlock_18 (by decide) ?_
  refine mv_ial Cx hG hH isP_4 2 (rfl) (by decide) dX1_mixBlock_19 ?_
  refine lv_istore_n (lv' := [(3, .int (S.1 4 0 2)), (2, .int (S.1 4 0 1)), (1, .int (S.1 4 0 0)), (0, .ref (mAdC E 1 0))]) hx hb dX1_mixBlock_20 rfl hl (by decide) rfl (fun ls hl => ?_)
  refine lv_aload_n hx hb dX1_mixBlock_21 rfl (lv_at hl 3 rfl) ?_
  refine gp_X1_sum Cx hG hH q_fl_X1_20 dX1_mixBlock_22 ?_
  refine lv_iconst (v := 3) hx hb dX1_mixBlock_25 (by decide) ?_
  refine mv_ial Cx hG hH isP_4 3 (rfl) (by decide) dX1_mixBlock_26 ?_
  refine lv_istore (lv' := [(4, .int (S.1 4 0 3)), (3, .int (S.1 4 0 2)), (2, .int (S.1 4 0 1)), (1, .int (S.1 4 0 0)), (0, .ref (mAdC E 1 0))]) hx hb dX1_mixBlock_27 hl (by decide) rfl (fun ls hl => ?_)
  refine lv_aload_n hx hb dX1_mixBlock_29 rfl (lv_at hl 4 rfl) ?_
  refine gp_X1_sum Cx hG hH q_fl_X1_20 dX1_mixBlock_30 ?_
  refine lv_iconst (v := 4) hx hb dX1_mixBlock_33 (by decide) ?_
  refine mv_ial Cx hG hH isP_4 4 (rfl) (by decide) dX1_mixBlock_34 ?_
  refine lv_istore (lv' := [(5, .int (S.1 4 0 4)), (4, .int (S.1 4 0 3)), (3, .int (S.1 4 0 2)), (2, .int (S.1 4 0 1)), (1, .int (S.1 4 0 0)), (0, .ref (mAdC E 1 0))]) hx hb dX1_mixBlock_35 hl (by decide) rfl (fun ls hl => ?_)
  refine lv_aload_n hx hb dX1_mixBlock_37 rfl (lv_at hl 5 rfl) ?_
  refine gp_X1_sum Cx hG hH q_fl_X1_20 dX1_mixBlock_38 ?_
  refine lv_iconst (v := 5) hx hb dX1_mixBlock_41 (by decide) ?_
  refine mv_ial Cx hG hH isP_4 5 (rfl) (by decide) dX1_mixBlock_42 ?_
  refine lv_istore (lv' := [(6, .int (S.1 4 0 5)), (5, .int (S.1 4 0 4)), (4, .int (S.1 4 0 3)), (3, .int (S.1 4 0 2)), (2, .int (S.1 4 0 1)), (1, .int (S.1 4 0 0)), (0, .ref (mAdC E 1 0))]) hx hb dX1_mixBlock_43 hl (by decide) rfl (fun ls hl => ?_)
  refine lv_aload_n hx hb dX1_mixBlock_45 rfl (lv_at hl 6 rfl) ?_
  refine gp_X1_sum Cx hG hH q_fl_X1_20 dX1_mixBlock_46 ?_
  refine lv_bipush (v := 6) hx hb dX1_mixBlock_49 (by decide) ?_
  refine mv_ial Cx hG hH isP_4 6 (rfl) (by decide) dX1_mixBlock_51 ?_
  refine lv_istore (lv' := [(7, .int (S.1 4 0 6)), (6, .int (S.1 4 0 5)), (5, .int (S.1 4 0 4)), (4, .int (S.1 4 0 3)), (3, .int (S.1 4 0 2)), (2, .int (S.1 4 0 1)), (1, .int (S.1 4 0 0)), (0, .ref (mAdC E 1 0))]) hx hb dX1_mixBlock_52 hl (by decide) rfl (fun ls hl => ?_)
  refine lv_aload_n hx hb dX1_mixBlock_54 rfl (lv_at hl 7 rfl) ?_
  refine gp_X1_sum Cx hG hH q_fl_X1_20 dX1_mixBlock_55 ?_
  refine lv_bipush (v := 7) hx hb dX1_mixBlock_58 (by decide) ?_
  refine mv_ial Cx hG hH isP_4 7 (rfl) (by decide) dX1_mixBlock_60 ?_
  refine lv_istore (lv' := [(8, .int (S.1 4 0 7)), (7, .int (S.1 4 0 6)), (6, .int (S.1 4 0 5)), (5, .int (S.1 4 0 4)), (4, .int (S.1 4 0 3)), (3, .int (S.1 4 0 2)), (2, .int (S.1 4 0 1)), (1, .int (S.1 4 0 0)), (0, .ref (mAdC E 1 0))]) hx hb dX1_mixBlock_61 hl (by decide) rfl (fun ls hl => ?_)
  refine lv_iconst (v := 0) hx hb dX1_mixBlock_63 (by decide) ?_
  refine mv_eqi (x' := nI 0) (rfl) ?_
  refine lv_istore (lv' := [(9, .int (nI 0)), (8, .int (S.1 4 0 7)), (7, .int (S.1 4 0 6)), (6, .int (S.1 4 0 5)), (5, .int (S.1 4 0 4)), (4, .int (S.1 4 0 3)), (3, .int (S.1 4 0 2)), (2, .int (S.1 4 0 1)), (1, .int (S.1 4 0 0)), (0, .ref (mAdC E 1 0))]) hx hb dX1_mixBlock_64 hl (by decide) rfl (fun ls hl => ?_)
  have lp : ∀ (n j : Nat) (S1 : mSt) (H : Heap) (locs : List Loc) (ls : Array Slot) , 64 - j < n → j ≤ 64 → (S1 = S) → mHold mLP E S1 H → va_S A s.heap H locs → lv_has ls 14 [(0, .ref (mAdC E 1 0)), (1, .int (rndN (fun q => S.1 5 0 q) (fun q => S.1 4 0 q) j 0)), (2, .int (rndN (fun q => S.1 5 0 q) (fun q => S.1 4 0 q) j 1)), (3, .int (rndN (fun q => S.1 5 0 q) (fun q => S.1 4 0 q) j 2)), (4, .int (rndN (fun q => S.1 5 0 q) (fun q => S.1 4 0 q) j 3)), (5, .int (rndN (fun q => S.1 5 0 q) (fun q => S.1 4 0 q) j 4)), (6, .int (rndN (fun q => S.1 5 0 q) (fun q => S.1 4 0 q) j 5)), (7, .int (rndN (fun q => S.1 5 0 q) (fun q => S.1 4 0 q) j 6)), (8, .int (rndN (fun q => S.1 5 0 q) (fun q => S.1 4 0 q) j 7)), (9, .int (nI j))] → W p l e (headSpec (Cond.code yX1_mixBlock cX1_mixBlock 14 none :: mv_ws) (mRm 0 0)).room s m ([.ref (mAdC E 1 0)] : List Value).toArray below meth c H locs 0 0 (MQ below (mQ mLP E A (fun S' => (∀ q, q < 8 → S'.1 4 0 q = S.1 4 0 q + rndN (fun q => S.1 5 0 q) (fun q => S.1 4 0 q) 64 q) ∧ mSame (fun k _ => k = 4) S S') none) ([.ref (mAdC E 1 0)] : List Value).toArray s 0 0 A) (F0 m 66 ls []) := by
    intro n
    induction n with
    | zero => intro j S1 H locs ls  hn hj hinv hH hS hl; omega
    | succ n ih =>
      intro j S1 H locs ls  hn hj hinv hH hS hl
      have hH := mv_S hinv hH
      refine lv_iload hx hb dX1_mixBlock_66 (lv_at hl 9 rfl) ?_
      refine lv_bipush (v := 64) hx hb dX1_mixBlock_68 (by decide) ?_
      refine lv_icmp_ge (tgt := 230) hx hb dX1_mixBlock_70 (by decide) (fun h70 => ?_) (fun h70 => ?_)
      · skip
        have hj64 : j = 64 := by have := ge_of (a := 64) (by decide) (by omega) h70; omega
        subst hj64
        refine lv_aload_n hx hb dX1_mixBlock_230 rfl (lv_at hl 0 rfl) ?_
        refine gp_X1_sum Cx hG hH q_fl_X1_20 dX1_mixBlock_231 ?_
        refine lv_iconst (v := 0) hx hb dX1_mixBlock_234 (by decide) ?_
        refine lv_dup2_11 hx hb dX1_mixBlock_235 rfl rfl ?_
        refine mv_ial Cx hG hH isP_4 0 (rfl) (by decide) dX1_mixBlock_236 ?_
        refine mv_eqi (x' := S.1 4 0 0) (by simp [mM, m3]) ?_
        refine lv_iload_n hx hb dX1_mixBlock_237 rfl (lv_at hl 1 rfl) ?_
        refine lv_iadd hx hb dX1_mixBlock_238 ?_
        refine mv_ias Cx hG hO hH hS isP_4 0 (rfl) (by decide) dX1_mixBlock_239 (fun H locs hH hS => ?_)
        refine lv_aload_n hx hb dX1_mixBlock_240 rfl (lv_at hl 0 rfl) ?_
        refine gp_X1_sum Cx hG hH q_fl_X1_20 dX1_mixBlock_241 ?_
        refine lv_iconst (v := 1) hx hb dX1_mixBlock_244 (by decide) ?_
        refine lv_dup2_11 hx hb dX1_mixBlock_245 rfl rfl ?_
        refine mv_ial Cx hG hH isP_4 1 (rfl) (by decide) dX1_mixBlock_246 ?_
        refine mv_eqi (x' := S.1 4 0 1) (by simp [mM, m3]) ?_
        refine lv_iload_n hx hb dX1_mixBlock_247 rfl (lv_at hl 2 rfl) ?_
        refine lv_iadd hx hb dX1_mixBlock_248 ?_
        refine mv_ias Cx hG hO hH hS isP_4 1 (rfl) (by decide) dX1_mixBlock_249 (fun H locs hH hS => ?_)
        refine lv_aload_n hx hb dX1_mixBlock_250 rfl (lv_at hl 0 rfl) ?_
        refine gp_X1_sum Cx hG hH q_fl_X1_20 dX1_mixBlock_251 ?_
        refine lv_iconst (v := 2) hx hb dX1_mixBlock_254 (by decide) ?_
        refine lv_dup2_11 hx hb dX1_mixBlock_255 rfl rfl ?_
        refine mv_ial Cx hG hH isP_4 2 (rfl) (by decide) dX1_mixBlock_256 ?_
        refine mv_eqi (x' := S.1 4 0 2) (by simp [mM, m3]) ?_
        refine lv_iload_n hx hb dX1_mixBlock_257 rfl (lv_at hl 3 rfl) ?_
        refine lv_iadd hx hb dX1_mixBlock_258 ?_
        refine mv_ias Cx hG hO hH hS isP_4 2 (rfl) (by decide) dX1_mixBlock_259 (fun H locs hH hS => ?_)
        refine lv_aload_n hx hb dX1_mixBlock_260 rfl (lv_at hl 0 rfl) ?_
        refine gp_X1_sum Cx hG hH q_fl_X1_20 dX1_mixBlock_261 ?_
        refine lv_iconst (v := 3) hx hb dX1_mixBlock_264 (by decide) ?_
        refine lv_dup2_11 hx hb dX1_mixBlock_265 rfl rfl ?_
        refine mv_ial Cx hG hH isP_4 3 (rfl) (by decide) dX1_mixBlock_266 ?_
        refine mv_eqi (x' := S.1 4 0 3) (by simp [mM, m3]) ?_
        refine lv_iload hx hb dX1_mixBlock_267 (lv_at hl 4 rfl) ?_
        refine lv_iadd hx hb dX1_mixBlock_269 ?_
        refine mv_ias Cx hG hO hH hS isP_4 3 (rfl) (by decide) dX1_mixBlock_270 (fun H locs hH hS => ?_)
        refine lv_aload_n hx hb dX1_mixBlock_271 rfl (lv_at hl 0 rfl) ?_
        refine gp_X1_sum Cx hG hH q_fl_X1_20 dX1_mixBlock_272 ?_
        refine lv_iconst (v := 4) hx hb dX1_mixBlock_275 (by decide) ?_
        refine lv_dup2_11 hx hb dX1_mixBlock_276 rfl rfl ?_
        refine mv_ial Cx hG hH isP_4 4 (rfl) (by decide) dX1_mixBlock_277 ?_
        refine mv_eqi (x' := S.1 4 0 4) (by simp [mM, m3]) ?_
        refine lv_iload hx hb dX1_mixBlock_278 (lv_at hl 5 rfl) ?_
        refine lv_iadd hx hb dX1_mixBlock_280 ?_
        refine mv_ias Cx hG hO hH hS isP_4 4 (rfl) (by decide) dX1_mixBlock_281 (fun H locs hH hS => ?_)
        refine lv_aload_n hx hb dX1_mixBlock_282 rfl (lv_at hl 0 rfl) ?_
        refine gp_X1_sum Cx hG hH q_fl_X1_20 dX1_mixBlock_283 ?_
        refine lv_iconst (v := 5) hx hb dX1_mixBlock_286 (by decide) ?_
        refine lv_dup2_11 hx hb dX1_mixBlock_287 rfl rfl ?_
        refine mv_ial Cx hG hH isP_4 5 (rfl) (by decide) dX1_mixBlock_288 ?_
        refine mv_eqi (x' := S.1 4 0 5) (by simp [mM, m3]) ?_
        refine lv_iload hx hb dX1_mixBlock_289 (lv_at hl 6 rfl) ?_
        refine lv_iadd hx hb dX1_mixBlock_291 ?_
        refine mv_ias Cx hG hO hH hS isP_4 5 (rfl) (by decide) dX1_mixBlock_292 (fun H locs hH hS => ?_)
        refine lv_aload_n hx hb dX1_mixBlock_293 rfl (lv_at hl 0 rfl) ?_
        refine gp_X1_sum Cx hG hH q_fl_X1_20 dX1_mixBlock_294 ?_
        refine lv_bipush (v := 6) hx hb dX1_mixBlock_297 (by decide) ?_
        refine lv_dup2_11 hx hb dX1_mixBlock_299 rfl rfl ?_
        refine mv_ial Cx hG hH isP_4 6 (rfl) (by decide) dX1_mixBlock_300 ?_
        refine mv_eqi (x' := S.1 4 0 6) (by simp [mM, m3]) ?_
        refine lv_iload hx hb dX1_mixBlock_301 (lv_at hl 7 rfl) ?_
        refine lv_iadd hx hb dX1_mixBlock_303 ?_
        refine mv_ias Cx hG hO hH hS isP_4 6 (rfl) (by decide) dX1_mixBlock_304 (fun H locs hH hS => ?_)
        refine lv_aload_n hx hb dX1_mixBlock_305 rfl (lv_at hl 0 rfl) ?_
        refine gp_X1_sum Cx hG hH q_fl_X1_20 dX1_mixBlock_306 ?_
        refine lv_bipush (v := 7) hx hb dX1_mixBlock_309 (by decide) ?_
        refine lv_dup2_11 hx hb dX1_mixBlock_311 rfl rfl ?_
        refine mv_ial Cx hG hH isP_4 7 (rfl) (by decide) dX1_mixBlock_312 ?_
        refine mv_eqi (x' := S.1 4 0 7) (by simp [mM, m3]) ?_
        refine lv_iload hx hb dX1_mixBlock_313 (lv_at hl 8 rfl) ?_
        refine lv_iadd hx hb dX1_mixBlock_315 ?_
        refine mv_ias Cx hG hO hH hS isP_4 7 (rfl) (by decide) dX1_mixBlock_316 (fun H locs hH hS => ?_)
        exact mv_retv Cx hr hH hS (⟨fun q hq => by rcases (show q = 0 ∨ q = 1 ∨ q = 2 ∨ q = 3 ∨ q = 4 ∨ q = 5 ∨ q = 6 ∨ q = 7 by omega) with rfl | rfl | rfl | rfl | rfl | rfl | rfl | rfl <;> simp [mM, m3], (((((((mSame.M (X := fun k _ => k = 4) rfl).tr (mSame.M rfl)).tr (mSame.M rfl)).tr (mSame.M rfl)).tr (mSame.M rfl)).tr (mSame.M rfl)).tr (mSame.M rfl)).tr (mSame.M rfl)⟩) dX1_mixBlock_317 hlocks
      · skip
        have hj64 : j < 64 := lt_of (a := 64) (by decide) (by omega) h70
        refine lv_iload hx hb dX1_mixBlock_73 (lv_at hl 5 rfl) ?_
        refine lv_bipush (v := 6) hx hb dX1_mixBlock_75 (by decide) ?_
        refine lv_iushr hx hb dX1_mixBlock_77 rfl ?_
        refine lv_iload hx hb dX1_mixBlock_78 (lv_at hl 5 rfl) ?_
        refine lv_bipush (v := 26) hx hb dX1_mixBlock_80 (by decide) ?_
        refine lv_ishl hx hb dX1_mixBlock_82 ?_
        refine lv_ior hx hb dX1_mixBlock_83 ?_
        refine lv_iload hx hb dX1_mixBlock_84 (lv_at hl 5 rfl) ?_
        refine lv_bipush (v := 11) hx hb dX1_mixBlock_86 (by decide) ?_
        refine lv_iushr hx hb dX1_mixBlock_88 rfl ?_
        refine lv_iload hx hb dX1_mixBlock_89 (lv_at hl 5 rfl) ?_
        refine lv_bipush (v := 21) hx hb dX1_mixBlock_91 (by decide) ?_
        refine lv_ishl hx hb dX1_mixBlock_93 ?_
        refine lv_ior hx hb dX1_mixBlock_94 ?_
        refine lv_ixor hx hb dX1_mixBlock_95 ?_
        refine lv_iload hx hb dX1_mixBlock_96 (lv_at hl 5 rfl) ?_
        refine lv_bipush (v := 25) hx hb dX1_mixBlock_98 (by decide) ?_
        refine lv_iushr hx hb dX1_mixBlock_100 rfl ?_
        refine lv_iload hx hb dX1_mixBlock_101 (lv_at hl 5 rfl) ?_
        refine lv_bipush (v := 7) hx hb dX1_mixBlock_103 (by decide) ?_
        refine lv_ishl hx hb dX1_mixBlock_105 ?_
        refine lv_ior hx hb dX1_mixBlock_106 ?_
        refine lv_ixor hx hb dX1_mixBlock_107 ?_
        refine lv_istore (lv' := [(10, .int ((((((rndN (fun q => S.1 5 0 q) (fun q => S.1 4 0 q) j 4).toUInt32 >>> ((6 : Int32).toUInt32 &&& Int32.toUInt32 31)).toInt32) ||| ((rndN (fun q => S.1 5 0 q) (fun q => S.1 4 0 q) j 4) <<< (26 &&& 31))) ^^^ ((((rndN (fun q => S.1 5 0 q) (fun q => S.1 4 0 q) j 4).toUInt32 >>> ((11 : Int32).toUInt32 &&& Int32.toUInt32 31)).toInt32) ||| ((rndN (fun q => S.1 5 0 q) (fun q => S.1 4 0 q) j 4) <<< (21 &&& 31)))) ^^^ ((((rndN (fun q => S.1 5 0 q) (fun q => S.1 4 0 q) j 4).toUInt32 >>> ((25 : Int32).toUInt32 &&& Int32.toUInt32 31)).toInt32) ||| ((rndN (fun q => S.1 5 0 q) (fun q => S.1 4 0 q) j 4) <<< (7 &&& 31))))), (0, .ref (mAdC E 1 0)), (1, .int (rndN (fun q => S.1 5 0 q) (fun q => S.1 4 0 q) j 0)), (2, .int (rndN (fun q => S.1 5 0 q) (fun q => S.1 4 0 q) j 1)), (3, .int (rndN (fun q => S.1 5 0 q) (fun q => S.1 4 0 q) j 2)), (4, .int (rndN (fun q => S.1 5 0 q) (fun q => S.1 4 0 q) j 3)), (5, .int (rndN (fun q => S.1 5 0 q) (fun q => S.1 4 0 q) j 4)), (6, .int (rndN (fun q => S.1 5 0 q) (fun q => S.1 4 0 q) j 5)), (7, .int (rndN (fun q => S.1 5 0 q) (fun q => S.1 4 0 q) j 6)), (8, .int (rndN (fun q => S.1 5 0 q) (fun q => S.1 4 0 q) j 7)), (9, .int (nI j))]) hx hb dX1_mixBlock_108 hl (by decide) rfl (fun ls hl => ?_)
        refine lv_iload hx hb dX1_mixBlock_110 (lv_at hl 9 rfl) ?_
        refine lv_iload hx hb dX1_mixBlock_112 (lv_at hl 0 rfl) ?_
        refine lv_iadd hx hb dX1_mixBlock_114 ?_
        refine lv_iload hx hb dX1_mixBlock_115 (lv_at hl 6 rfl) ?_
        refine lv_iload hx hb dX1_mixBlock_117 (lv_at hl 7 rfl) ?_
        refine lv_iand hx hb dX1_mixBlock_119 ?_
        refine lv_iload hx hb dX1_mixBlock_120 (lv_at hl 6 rfl) ?_
        refine lv_iconst (v := (-1 : Int32)) hx hb dX1_mixBlock_122 (by decide) ?_
        refine lv_ixor hx hb dX1_mixBlock_123 ?_
        refine lv_iload hx hb dX1_mixBlock_124 (lv_at hl 8 rfl) ?_
        refine lv_iand hx hb dX1_mixBlock_126 ?_
        refine lv_ixor hx hb dX1_mixBlock_127 ?_
        refine lv_iadd hx hb dX1_mixBlock_128 ?_
        refine mv_sta Cx hS hZR q_fl_X1_77 dX1_mixBlock_129 ?_
        refine lv_iload hx hb dX1_mixBlock_132 (lv_at hl 10 rfl) ?_
        refine mv_stl Cx hS hTR (by decide) j (rfl) (hj64) dX1_mixBlock_134 ?_
        refine lv_iadd hx hb dX1_mixBlock_135 ?_
        refine lv_aload_n hx hb dX1_mixBlock_136 rfl (lv_at hl 1 rfl) ?_
        refine gp_X1_words Cx hG hH q_fl_X1_24 dX1_mixBlock_137 ?_
        refine lv_iload hx hb dX1_mixBlock_140 (lv_at hl 10 rfl) ?_
        refine mv_ial Cx hG hH isP_5 j (rfl) (hj64) dX1_mixBlock_142 ?_
        refine lv_iadd hx hb dX1_mixBlock_143 ?_
        refine lv_istore (lv' := [(11, .int (((((rndN (fun q => S.1 5 0 q) (fun q => S.1 4 0 q) j 7) + ((((((rndN (fun q => S.1 5 0 q) (fun q => S.1 4 0 q) j 4).toUInt32 >>> ((6 : Int32).toUInt32 &&& Int32.toUInt32 31)).toInt32) ||| ((rndN (fun q => S.1 5 0 q) (fun q => S.1 4 0 q) j 4) <<< (26 &&& 31))) ^^^ ((((rndN (fun q => S.1 5 0 q) (fun q => S.1 4 0 q) j 4).toUInt32 >>> ((11 : Int32).toUInt32 &&& Int32.toUInt32 31)).toInt32) ||| ((rndN (fun q => S.1 5 0 q) (fun q => S.1 4 0 q) j 4) <<< (21 &&& 31)))) ^^^ ((((rndN (fun q => S.1 5 0 q) (fun q => S.1 4 0 q) j 4).toUInt32 >>> ((25 : Int32).toUInt32 &&& Int32.toUInt32 31)).toInt32) ||| ((rndN (fun q => S.1 5 0 q) (fun q => S.1 4 0 q) j 4) <<< (7 &&& 31))))) + (((rndN (fun q => S.1 5 0 q) (fun q => S.1 4 0 q) j 4) &&& (rndN (fun q => S.1 5 0 q) (fun q => S.1 4 0 q) j 5)) ^^^ (((rndN (fun q => S.1 5 0 q) (fun q => S.1 4 0 q) j 4) ^^^ (-1 : Int32)) &&& (rndN (fun q => S.1 5 0 q) (fun q => S.1 4 0 q) j 6)))) + (mK j)) + (S.1 5 0 j))), (10, .int ((((((rndN (fun q => S.1 5 0 q) (fun q => S.1 4 0 q) j 4).toUInt32 >>> ((6 : Int32).toUInt32 &&& Int32.toUInt32 31)).toInt32) ||| ((rndN (fun q => S.1 5 0 q) (fun q => S.1 4 0 q) j 4) <<< (26 &&& 31))) ^^^ ((((rndN (fun q => S.1 5 0 q) (fun q => S.1 4 0 q) j 4).toUInt32 >>> ((11 : Int32).toUInt32 &&& Int32.toUInt32 31)).toInt32) ||| ((rndN (fun q => S.1 5 0 q) (fun q => S.1 4 0 q) j 4) <<< (21 &&& 31)))) ^^^ ((((rndN (fun q => S.1 5 0 q) (fun q => S.1 4 0 q) j 4).toUInt32 >>> ((25 : Int32).toUInt32 &&& Int32.toUInt32 31)).toInt32) ||| ((rndN (fun q => S.1 5 0 q) (fun q => S.1 4 0 q) j 4) <<< (7 &&& 31))))), (0, .ref (mAdC E 1 0)), (1, .int (rndN (fun q => S.1 5 0 q) (fun q => S.1 4 0 q) j 0)), (2, .int (rndN (fun q => S.1 5 0 q) (fun q => S.1 4 0 q) j 1)), (3, .int (rndN (fun q => S.1 5 0 q) (fun q => S.1 4 0 q) j 2)), (4, .int (rndN (fun q => S.1 5 0 q) (fun q => S.1 4 0 q) j 3)), (5, .int (rndN (fun q => S.1 5 0 q) (fun q => S.1 4 0 q) j 4)), (6, .int (rndN (fun q => S.1 5 0 q) (fun q => S.1 4 0 q) j 5)), (7, .int (rndN (fun q => S.1 5 0 q) (fun q => S.1 4 0 q) j 6)), (8, .int (rndN (fun q => S.1 5 0 q) (fun q => S.1 4 0 q) j 7)), (9, .int (nI j))]) hx hb dX1_mixBlock_144 hl (by decide) rfl (fun ls hl => ?_)
        refine lv_iload_n hx hb dX1_mixBlock_146 rfl (lv_at hl 3 rfl) ?_
        refine lv_iconst (v := 2) hx hb dX1_mixBlock_147 (by decide) ?_
        refine lv_iushr hx hb dX1_mixBlock_148 rfl ?_
        refine lv_iload_n hx hb dX1_mixBlock_149 rfl (lv_at hl 3 rfl) ?_
        refine lv_bipush (v := 30) hx hb dX1_mixBlock_150 (by decide) ?_
        refine lv_ishl hx hb dX1_mixBlock_152 ?_
        refine lv_ior hx hb dX1_mixBlock_153 ?_
        refine lv_iload_n hx hb dX1_mixBlock_154 rfl (lv_at hl 3 rfl) ?_
        refine lv_bipush (v := 13) hx hb dX1_mixBlock_155 (by decide) ?_
        refine lv_iushr hx hb dX1_mixBlock_157 rfl ?_
        refine lv_iload_n hx hb dX1_mixBlock_158 rfl (lv_at hl 3 rfl) ?_
        refine lv_bipush (v := 19) hx hb dX1_mixBlock_159 (by decide) ?_
        refine lv_ishl hx hb dX1_mixBlock_161 ?_
        refine lv_ior hx hb dX1_mixBlock_162 ?_
        refine lv_ixor hx hb dX1_mixBlock_163 ?_
        refine lv_iload_n hx hb dX1_mixBlock_164 rfl (lv_at hl 3 rfl) ?_
        refine lv_bipush (v := 22) hx hb dX1_mixBlock_165 (by decide) ?_
        refine lv_iushr hx hb dX1_mixBlock_167 rfl ?_
        refine lv_iload_n hx hb dX1_mixBlock_168 rfl (lv_at hl 3 rfl) ?_
        refine lv_bipush (v := 10) hx hb dX1_mixBlock_169 (by decide) ?_
        refine lv_ishl hx hb dX1_mixBlock_171 ?_
        refine lv_ior hx hb dX1_mixBlock_172 ?_
        refine lv_ixor hx hb dX1_mixBlock_173 ?_
        refine lv_istore (lv' := [(12, .int ((((((rndN (fun q => S.1 5 0 q) (fun q => S.1 4 0 q) j 0).toUInt32 >>> ((2 : Int32).toUInt32 &&& Int32.toUInt32 31)).toInt32) ||| ((rndN (fun q => S.1 5 0 q) (fun q => S.1 4 0 q) j 0) <<< (30 &&& 31))) ^^^ ((((rndN (fun q => S.1 5 0 q) (fun q => S.1 4 0 q) j 0).toUInt32 >>> ((13 : Int32).toUInt32 &&& Int32.toUInt32 31)).toInt32) ||| ((rndN (fun q => S.1 5 0 q) (fun q => S.1 4 0 q) j 0) <<< (19 &&& 31)))) ^^^ ((((rndN (fun q => S.1 5 0 q) (fun q => S.1 4 0 q) j 0).toUInt32 >>> ((22 : Int32).toUInt32 &&& Int32.toUInt32 31)).toInt32) ||| ((rndN (fun q => S.1 5 0 q) (fun q => S.1 4 0 q) j 0) <<< (10 &&& 31))))), (11, .int (((((rndN (fun q => S.1 5 0 q) (fun q => S.1 4 0 q) j 7) + ((((((rndN (fun q => S.1 5 0 q) (fun q => S.1 4 0 q) j 4).toUInt32 >>> ((6 : Int32).toUInt32 &&& Int32.toUInt32 31)).toInt32) ||| ((rndN (fun q => S.1 5 0 q) (fun q => S.1 4 0 q) j 4) <<< (26 &&& 31))) ^^^ ((((rndN (fun q => S.1 5 0 q) (fun q => S.1 4 0 q) j 4).toUInt32 >>> ((11 : Int32).toUInt32 &&& Int32.toUInt32 31)).toInt32) ||| ((rndN (fun q => S.1 5 0 q) (fun q => S.1 4 0 q) j 4) <<< (21 &&& 31)))) ^^^ ((((rndN (fun q => S.1 5 0 q) (fun q => S.1 4 0 q) j 4).toUInt32 >>> ((25 : Int32).toUInt32 &&& Int32.toUInt32 31)).toInt32) ||| ((rndN (fun q => S.1 5 0 q) (fun q => S.1 4 0 q) j 4) <<< (7 &&& 31))))) + (((rndN (fun q => S.1 5 0 q) (fun q => S.1 4 0 q) j 4) &&& (rndN (fun q => S.1 5 0 q) (fun q => S.1 4 0 q) j 5)) ^^^ (((rndN (fun q => S.1 5 0 q) (fun q => S.1 4 0 q) j 4) ^^^ (-1 : Int32)) &&& (rndN (fun q => S.1 5 0 q) (fun q => S.1 4 0 q) j 6)))) + (mK j)) + (S.1 5 0 j))), (10, .int ((((((rndN (fun q => S.1 5 0 q) (fun q => S.1 4 0 q) j 4).toUInt32 >>> ((6 : Int32).toUInt32 &&& Int32.toUInt32 31)).toInt32) ||| ((rndN (fun q => S.1 5 0 q) (fun q => S.1 4 0 q) j 4) <<< (26 &&& 31))) ^^^ ((((rndN (fun q => S.1 5 0 q) (fun q => S.1 4 0 q) j 4).toUInt32 >>> ((11 : Int32).toUInt32 &&& Int32.toUInt32 31)).toInt32) ||| ((rndN (fun q => S.1 5 0 q) (fun q => S.1 4 0 q) j 4) <<< (21 &&& 31)))) ^^^ ((((rndN (fun q => S.1 5 0 q) (fun q => S.1 4 0 q) j 4).toUInt32 >>> ((25 : Int32).toUInt32 &&& Int32.toUInt32 31)).toInt32) ||| ((rndN (fun q => S.1 5 0 q) (fun q => S.1 4 0 q) j 4) <<< (7 &&& 31))))), (0, .ref (mAdC E 1 0)), (1, .int (rndN (fun q => S.1 5 0 q) (fun q => S.1 4 0 q) j 0)), (2, .int (rndN (fun q => S.1 5 0 q) (fun q => S.1 4 0 q) j 1)), (3, .int (rndN (fun q => S.1 5 0 q) (fun q => S.1 4 0 q) j 2)), (4, .int (rndN (fun q => S.1 5 0 q) (fun q => S.1 4 0 q) j 3)), (5, .int (rndN (fun q => S.1 5 0 q) (fun q => S.1 4 0 q) j 4)), (6, .int (rndN (fun q => S.1 5 0 q) (fun q => S.1 4 0 q) j 5)), (7, .int (rndN (fun q => S.1 5 0 q) (fun q => S.1 4 0 q) j 6)), (8, .int (rndN (fun q => S.1 5 0 q) (fun q => S.1 4 0 q) j 7)), (9, .int (nI j))]) hx hb dX1_mixBlock_174 hl (by decide) rfl (fun ls hl => ?_)
        refine lv_iload hx hb dX1_mixBlock_176 (lv_at hl 0 rfl) ?_
        refine lv_iload_n hx hb dX1_mixBlock_178 rfl (lv_at hl 4 rfl) ?_
        refine lv_iload_n hx hb dX1_mixBlock_179 rfl (lv_at hl 5 rfl) ?_
        refine lv_iand hx hb dX1_mixBlock_180 ?_
        refine lv_iload_n hx hb dX1_mixBlock_181 rfl (lv_at hl 4 rfl) ?_
        refine lv_iload_n hx hb dX1_mixBlock_182 rfl (lv_at hl 6 rfl) ?_
        refine lv_iand hx hb dX1_mixBlock_183 ?_
        refine lv_ixor hx hb dX1_mixBlock_184 ?_
        refine lv_iload_n hx hb dX1_mixBlock_185 rfl (lv_at hl 5 rfl) ?_
        refine lv_iload_n hx hb dX1_mixBlock_186 rfl (lv_at hl 6 rfl) ?_
        refine lv_iand hx hb dX1_mixBlock_187 ?_
        refine lv_ixor hx hb dX1_mixBlock_188 ?_
        refine lv_iadd hx hb dX1_mixBlock_189 ?_
        refine lv_istore (lv' := [(13, .int (((((((rndN (fun q => S.1 5 0 q) (fun q => S.1 4 0 q) j 0).toUInt32 >>> ((2 : Int32).toUInt32 &&& Int32.toUInt32 31)).toInt32) ||| ((rndN (fun q => S.1 5 0 q) (fun q => S.1 4 0 q) j 0) <<< (30 &&& 31))) ^^^ ((((rndN (fun q => S.1 5 0 q) (fun q => S.1 4 0 q) j 0).toUInt32 >>> ((13 : Int32).toUInt32 &&& Int32.toUInt32 31)).toInt32) ||| ((rndN (fun q => S.1 5 0 q) (fun q => S.1 4 0 q) j 0) <<< (19 &&& 31)))) ^^^ ((((rndN (fun q => S.1 5 0 q) (fun q => S.1 4 0 q) j 0).toUInt32 >>> ((22 : Int32).toUInt32 &&& Int32.toUInt32 31)).toInt32) ||| ((rndN (fun q => S.1 5 0 q) (fun q => S.1 4 0 q) j 0) <<< (10 &&& 31)))) + ((((rndN (fun q => S.1 5 0 q) (fun q => S.1 4 0 q) j 0) &&& (rndN (fun q => S.1 5 0 q) (fun q => S.1 4 0 q) j 1)) ^^^ ((rndN (fun q => S.1 5 0 q) (fun q => S.1 4 0 q) j 0) &&& (rndN (fun q => S.1 5 0 q) (fun q => S.1 4 0 q) j 2))) ^^^ ((rndN (fun q => S.1 5 0 q) (fun q => S.1 4 0 q) j 1) &&& (rndN (fun q => S.1 5 0 q) (fun q => S.1 4 0 q) j 2))))), (12, .int ((((((rndN (fun q => S.1 5 0 q) (fun q => S.1 4 0 q) j 0).toUInt32 >>> ((2 : Int32).toUInt32 &&& Int32.toUInt32 31)).toInt32) ||| ((rndN (fun q => S.1 5 0 q) (fun q => S.1 4 0 q) j 0) <<< (30 &&& 31))) ^^^ ((((rndN (fun q => S.1 5 0 q) (fun q => S.1 4 0 q) j 0).toUInt32 >>> ((13 : Int32).toUInt32 &&& Int32.toUInt32 31)).toInt32) ||| ((rndN (fun q => S.1 5 0 q) (fun q => S.1 4 0 q) j 0) <<< (19 &&& 31)))) ^^^ ((((rndN (fun q => S.1 5 0 q) (fun q => S.1 4 0 q) j 0).toUInt32 >>> ((22 : Int32).toUInt32 &&& Int32.toUInt32 31)).toInt32) ||| ((rndN (fun q => S.1 5 0 q) (fun q => S.1 4 0 q) j 0) <<< (10 &&& 31))))), (11, .int (((((rndN (fun q => S.1 5 0 q) (fun q => S.1 4 0 q) j 7) + ((((((rndN (fun q => S.1 5 0 q) (fun q => S.1 4 0 q) j 4).toUInt32 >>> ((6 : Int32).toUInt32 &&& Int32.toUInt32 31)).toInt32) ||| ((rndN (fun q => S.1 5 0 q) (fun q => S.1 4 0 q) j 4) <<< (26 &&& 31))) ^^^ ((((rndN (fun q => S.1 5 0 q) (fun q => S.1 4 0 q) j 4).toUInt32 >>> ((11 : Int32).toUInt32 &&& Int32.toUInt32 31)).toInt32) ||| ((rndN (fun q => S.1 5 0 q) (fun q => S.1 4 0 q) j 4) <<< (21 &&& 31)))) ^^^ ((((rndN (fun q => S.1 5 0 q) (fun q => S.1 4 0 q) j 4).toUInt32 >>> ((25 : Int32).toUInt32 &&& Int32.toUInt32 31)).toInt32) ||| ((rndN (fun q => S.1 5 0 q) (fun q => S.1 4 0 q) j 4) <<< (7 &&& 31))))) + (((rndN (fun q => S.1 5 0 q) (fun q => S.1 4 0 q) j 4) &&& (rndN (fun q => S.1 5 0 q) (fun q => S.1 4 0 q) j 5)) ^^^ (((rndN (fun q => S.1 5 0 q) (fun q => S.1 4 0 q) j 4) ^^^ (-1 : Int32)) &&& (rndN (fun q => S.1 5 0 q) (fun q => S.1 4 0 q) j 6)))) + (mK j)) + (S.1 5 0 j))), (10, .int ((((((rndN (fun q => S.1 5 0 q) (fun q => S.1 4 0 q) j 4).toUInt32 >>> ((6 : Int32).toUInt32 &&& Int32.toUInt32 31)).toInt32) ||| ((rndN (fun q => S.1 5 0 q) (fun q => S.1 4 0 q) j 4) <<< (26 &&& 31))) ^^^ ((((rndN (fun q => S.1 5 0 q) (fun q => S.1 4 0 q) j 4).toUInt32 >>> ((11 : Int32).toUInt32 &&& Int32.toUInt32 31)).toInt32) ||| ((rndN (fun q => S.1 5 0 q) (fun q => S.1 4 0 q) j 4) <<< (21 &&& 31)))) ^^^ ((((rndN (fun q => S.1 5 0 q) (fun q => S.1 4 0 q) j 4).toUInt32 >>> ((25 : Int32).toUInt32 &&& Int32.toUInt32 31)).toInt32) ||| ((rndN (fun q => S.1 5 0 q) (fun q => S.1 4 0 q) j 4) <<< (7 &&& 31))))), (0, .ref (mAdC E 1 0)), (1, .int (rndN (fun q => S.1 5 0 q) (fun q => S.1 4 0 q) j 0)), (2, .int (rndN (fun q => S.1 5 0 q) (fun q => S.1 4 0 q) j 1)), (3, .int (rndN (fun q => S.1 5 0 q) (fun q => S.1 4 0 q) j 2)), (4, .int (rndN (fun q => S.1 5 0 q) (fun q => S.1 4 0 q) j 3)), (5, .int (rndN (fun q => S.1 5 0 q) (fun q => S.1 4 0 q) j 4)), (6, .int (rndN (fun q => S.1 5 0 q) (fun q => S.1 4 0 q) j 5)), (7, .int (rndN (fun q => S.1 5 0 q) (fun q => S.1 4 0 q) j 6)), (8, .int (rndN (fun q => S.1 5 0 q) (fun q => S.1 4 0 q) j 7)), (9, .int (nI j))]) hx hb dX1_mixBlock_190 hl (by decide) rfl (fun ls hl => ?_)
        refine lv_iload hx hb dX1_mixBlock_192 (lv_at hl 11 rfl) ?_
        refine lv_istore (lv' := [(8, .int (rndN (fun q => S.1 5 0 q) (fun q => S.1 4 0 q) j 6)), (13, .int (((((((rndN (fun q => S.1 5 0 q) (fun q => S.1 4 0 q) j 0).toUInt32 >>> ((2 : Int32).toUInt32 &&& Int32.toUInt32 31)).toInt32) ||| ((rndN (fun q => S.1 5 0 q) (fun q => S.1 4 0 q) j 0) <<< (30 &&& 31))) ^^^ ((((rndN (fun q => S.1 5 0 q) (fun q => S.1 4 0 q) j 0).toUInt32 >>> ((13 : Int32).toUInt32 &&& Int32.toUInt32 31)).toInt32) ||| ((rndN (fun q => S.1 5 0 q) (fun q => S.1 4 0 q) j 0) <<< (19 &&& 31)))) ^^^ ((((rndN (fun q => S.1 5 0 q) (fun q => S.1 4 0 q) j 0).toUInt32 >>> ((22 : Int32).toUInt32 &&& Int32.toUInt32 31)).toInt32) ||| ((rndN (fun q => S.1 5 0 q) (fun q => S.1 4 0 q) j 0) <<< (10 &&& 31)))) + ((((rndN (fun q => S.1 5 0 q) (fun q => S.1 4 0 q) j 0) &&& (rndN (fun q => S.1 5 0 q) (fun q => S.1 4 0 q) j 1)) ^^^ ((rndN (fun q => S.1 5 0 q) (fun q => S.1 4 0 q) j 0) &&& (rndN (fun q => S.1 5 0 q) (fun q => S.1 4 0 q) j 2))) ^^^ ((rndN (fun q => S.1 5 0 q) (fun q => S.1 4 0 q) j 1) &&& (rndN (fun q => S.1 5 0 q) (fun q => S.1 4 0 q) j 2))))), (12, .int ((((((rndN (fun q => S.1 5 0 q) (fun q => S.1 4 0 q) j 0).toUInt32 >>> ((2 : Int32).toUInt32 &&& Int32.toUInt32 31)).toInt32) ||| ((rndN (fun q => S.1 5 0 q) (fun q => S.1 4 0 q) j 0) <<< (30 &&& 31))) ^^^ ((((rndN (fun q => S.1 5 0 q) (fun q => S.1 4 0 q) j 0).toUInt32 >>> ((13 : Int32).toUInt32 &&& Int32.toUInt32 31)).toInt32) ||| ((rndN (fun q => S.1 5 0 q) (fun q => S.1 4 0 q) j 0) <<< (19 &&& 31)))) ^^^ ((((rndN (fun q => S.1 5 0 q) (fun q => S.1 4 0 q) j 0).toUInt32 >>> ((22 : Int32).toUInt32 &&& Int32.toUInt32 31)).toInt32) ||| ((rndN (fun q => S.1 5 0 q) (fun q => S.1 4 0 q) j 0) <<< (10 &&& 31))))), (11, .int (((((rndN (fun q => S.1 5 0 q) (fun q => S.1 4 0 q) j 7) + ((((((rndN (fun q => S.1 5 0 q) (fun q => S.1 4 0 q) j 4).toUInt32 >>> ((6 : Int32).toUInt32 &&& Int32.toUInt32 31)).toInt32) ||| ((rndN (fun q => S.1 5 0 q) (fun q => S.1 4 0 q) j 4) <<< (26 &&& 31))) ^^^ ((((rndN (fun q => S.1 5 0 q) (fun q => S.1 4 0 q) j 4).toUInt32 >>> ((11 : Int32).toUInt32 &&& Int32.toUInt32 31)).toInt32) ||| ((rndN (fun q => S.1 5 0 q) (fun q => S.1 4 0 q) j 4) <<< (21 &&& 31)))) ^^^ ((((rndN (fun q => S.1 5 0 q) (fun q => S.1 4 0 q) j 4).toUInt32 >>> ((25 : Int32).toUInt32 &&& Int32.toUInt32 31)).toInt32) ||| ((rndN (fun q => S.1 5 0 q) (fun q => S.1 4 0 q) j 4) <<< (7 &&& 31))))) + (((rndN (fun q => S.1 5 0 q) (fun q => S.1 4 0 q) j 4) &&& (rndN (fun q => S.1 5 0 q) (fun q => S.1 4 0 q) j 5)) ^^^ (((rndN (fun q => S.1 5 0 q) (fun q => S.1 4 0 q) j 4) ^^^ (-1 : Int32)) &&& (rndN (fun q => S.1 5 0 q) (fun q => S.1 4 0 q) j 6)))) + (mK j)) + (S.1 5 0 j))), (10, .int ((((((rndN (fun q => S.1 5 0 q) (fun q => S.1 4 0 q) j 4).toUInt32 >>> ((6 : Int32).toUInt32 &&& Int32.toUInt32 31)).toInt32) ||| ((rndN (fun q => S.1 5 0 q) (fun q => S.1 4 0 q) j 4) <<< (26 &&& 31))) ^^^ ((((rndN (fun q => S.1 5 0 q) (fun q => S.1 4 0 q) j 4).toUInt32 >>> ((11 : Int32).toUInt32 &&& Int32.toUInt32 31)).toInt32) ||| ((rndN (fun q => S.1 5 0 q) (fun q => S.1 4 0 q) j 4) <<< (21 &&& 31)))) ^^^ ((((rndN (fun q => S.1 5 0 q) (fun q => S.1 4 0 q) j 4).toUInt32 >>> ((25 : Int32).toUInt32 &&& Int32.toUInt32 31)).toInt32) ||| ((rndN (fun q => S.1 5 0 q) (fun q => S.1 4 0 q) j 4) <<< (7 &&& 31))))), (0, .ref (mAdC E 1 0)), (1, .int (rndN (fun q => S.1 5 0 q) (fun q => S.1 4 0 q) j 0)), (2, .int (rndN (fun q => S.1 5 0 q) (fun q => S.1 4 0 q) j 1)), (3, .int (rndN (fun q => S.1 5 0 q) (fun q => S.1 4 0 q) j 2)), (4, .int (rndN (fun q => S.1 5 0 q) (fun q => S.1 4 0 q) j 3)), (5, .int (rndN (fun q => S.1 5 0 q) (fun q => S.1 4 0 q) j 4)), (6, .int (rndN (fun q => S.1 5 0 q) (fun q => S.1 4 0 q) j 5)), (7, .int (rndN (fun q => S.1 5 0 q) (fun q => S.1 4 0 q) j 6)), (9, .int (nI j))]) hx hb dX1_mixBlock_194 hl (by decide) rfl (fun ls hl => ?_)
        refine lv_iload hx hb dX1_mixBlock_196 (lv_at hl 11 rfl) ?_
        refine lv_istore (lv' := [(7, .int (rndN (fun q => S.1 5 0 q) (fun q => S.1 4 0 q) j 5)), (8, .int (rndN (fun q => S.1 5 0 q) (fun q => S.1 4 0 q) j 6)), (13, .int (((((((rndN (fun q => S.1 5 0 q) (fun q => S.1 4 0 q) j 0).toUInt32 >>> ((2 : Int32).toUInt32 &&& Int32.toUInt32 31)).toInt32) ||| ((rndN (fun q => S.1 5 0 q) (fun q => S.1 4 0 q) j 0) <<< (30 &&& 31))) ^^^ ((((rndN (fun q => S.1 5 0 q) (fun q => S.1 4 0 q) j 0).toUInt32 >>> ((13 : Int32).toUInt32 &&& Int32.toUInt32 31)).toInt32) ||| ((rndN (fun q => S.1 5 0 q) (fun q => S.1 4 0 q) j 0) <<< (19 &&& 31)))) ^^^ ((((rndN (fun q => S.1 5 0 q) (fun q => S.1 4 0 q) j 0).toUInt32 >>> ((22 : Int32).toUInt32 &&& Int32.toUInt32 31)).toInt32) ||| ((rndN (fun q => S.1 5 0 q) (fun q => S.1 4 0 q) j 0) <<< (10 &&& 31)))) + ((((rndN (fun q => S.1 5 0 q) (fun q => S.1 4 0 q) j 0) &&& (rndN (fun q => S.1 5 0 q) (fun q => S.1 4 0 q) j 1)) ^^^ ((rndN (fun q => S.1 5 0 q) (fun q => S.1 4 0 q) j 0) &&& (rndN (fun q => S.1 5 0 q) (fun q => S.1 4 0 q) j 2))) ^^^ ((rndN (fun q => S.1 5 0 q) (fun q => S.1 4 0 q) j 1) &&& (rndN (fun q => S.1 5 0 q) (fun q => S.1 4 0 q) j 2))))), (12, .int ((((((rndN (fun q => S.1 5 0 q) (fun q => S.1 4 0 q) j 0).toUInt32 >>> ((2 : Int32).toUInt32 &&& Int32.toUInt32 31)).toInt32) ||| ((rndN (fun q => S.1 5 0 q) (fun q => S.1 4 0 q) j 0) <<< (30 &&& 31))) ^^^ ((((rndN (fun q => S.1 5 0 q) (fun q => S.1 4 0 q) j 0).toUInt32 >>> ((13 : Int32).toUInt32 &&& Int32.toUInt32 31)).toInt32) ||| ((rndN (fun q => S.1 5 0 q) (fun q => S.1 4 0 q) j 0) <<< (19 &&& 31)))) ^^^ ((((rndN (fun q => S.1 5 0 q) (fun q => S.1 4 0 q) j 0).toUInt32 >>> ((22 : Int32).toUInt32 &&& Int32.toUInt32 31)).toInt32) ||| ((rndN (fun q => S.1 5 0 q) (fun q => S.1 4 0 q) j 0) <<< (10 &&& 31))))), (11, .int (((((rndN (fun q => S.1 5 0 q) (fun q => S.1 4 0 q) j 7) + ((((((rndN (fun q => S.1 5 0 q) (fun q => S.1 4 0 q) j 4).toUInt32 >>> ((6 : Int32).toUInt32 &&& Int32.toUInt32 31)).toInt32) ||| ((rndN (fun q => S.1 5 0 q) (fun q => S.1 4 0 q) j 4) <<< (26 &&& 31))) ^^^ ((((rndN (fun q => S.1 5 0 q) (fun q => S.1 4 0 q) j 4).toUInt32 >>> ((11 : Int32).toUInt32 &&& Int32.toUInt32 31)).toInt32) ||| ((rndN (fun q => S.1 5 0 q) (fun q => S.1 4 0 q) j 4) <<< (21 &&& 31)))) ^^^ ((((rndN (fun q => S.1 5 0 q) (fun q => S.1 4 0 q) j 4).toUInt32 >>> ((25 : Int32).toUInt32 &&& Int32.toUInt32 31)).toInt32) ||| ((rndN (fun q => S.1 5 0 q) (fun q => S.1 4 0 q) j 4) <<< (7 &&& 31))))) + (((rndN (fun q => S.1 5 0 q) (fun q => S.1 4 0 q) j 4) &&& (rndN (fun q => S.1 5 0 q) (fun q => S.1 4 0 q) j 5)) ^^^ (((rndN (fun q => S.1 5 0 q) (fun q => S.1 4 0 q) j 4) ^^^ (-1 : Int32)) &&& (rndN (fun q => S.1 5 0 q) (fun q => S.1 4 0 q) j 6)))) + (mK j)) + (S.1 5 0 j))), (10, .int ((((((rndN (fun q => S.1 5 0 q) (fun q => S.1 4 0 q) j 4).toUInt32 >>> ((6 : Int32).toUInt32 &&& Int32.toUInt32 31)).toInt32) ||| ((rndN (fun q => S.1 5 0 q) (fun q => S.1 4 0 q) j 4) <<< (26 &&& 31))) ^^^ ((((rndN (fun q => S.1 5 0 q) (fun q => S.1 4 0 q) j 4).toUInt32 >>> ((11 : Int32).toUInt32 &&& Int32.toUInt32 31)).toInt32) ||| ((rndN (fun q => S.1 5 0 q) (fun q => S.1 4 0 q) j 4) <<< (21 &&& 31)))) ^^^ ((((rndN (fun q => S.1 5 0 q) (fun q => S.1 4 0 q) j 4).toUInt32 >>> ((25 : Int32).toUInt32 &&& Int32.toUInt32 31)).toInt32) ||| ((rndN (fun q => S.1 5 0 q) (fun q => S.1 4 0 q) j 4) <<< (7 &&& 31))))), (0, .ref (mAdC E 1 0)), (1, .int (rndN (fun q => S.1 5 0 q) (fun q => S.1 4 0 q) j 0)), (2, .int (rndN (fun q => S.1 5 0 q) (fun q => S.1 4 0 q) j 1)), (3, .int (rndN (fun q => S.1 5 0 q) (fun q => S.1 4 0 q) j 2)), (4, .int (rndN (fun q => S.1 5 0 q) (fun q => S.1 4 0 q) j 3)), (5, .int (rndN (fun q => S.1 5 0 q) (fun q => S.1 4 0 q) j 4)), (6, .int (rndN (fun q => S.1 5 0 q) (fun q => S.1 4 0 q) j 5)), (9, .int (nI j))]) hx hb dX1_mixBlock_198 hl (by decide) rfl (fun ls hl => ?_)
        refine lv_iload hx hb dX1_mixBlock_200 (lv_at hl 11 rfl) ?_
        refine lv_istore (lv' := [(6, .int (rndN (fun q => S.1 5 0 q) (fun q => S.1 4 0 q) j 4)), (7, .int (rndN (fun q => S.1 5 0 q) (fun q => S.1 4 0 q) j 5)), (8, .int (rndN (fun q => S.1 5 0 q) (fun q => S.1 4 0 q) j 6)), (13, .int (((((((rndN (fun q => S.1 5 0 q) (fun q => S.1 4 0 q) j 0).toUInt32 >>> ((2 : Int32).toUInt32 &&& Int32.toUInt32 31)).toInt32) ||| ((rndN (fun q => S.1 5 0 q) (fun q => S.1 4 0 q) j 0) <<< (30 &&& 31))) ^^^ ((((rndN (fun q => S.1 5 0 q) (fun q => S.1 4 0 q) j 0).toUInt32 >>> ((13 : Int32).toUInt32 &&& Int32.toUInt32 31)).toInt32) ||| ((rndN (fun q => S.1 5 0 q) (fun q => S.1 4 0 q) j 0) <<< (19 &&& 31)))) ^^^ ((((rndN (fun q => S.1 5 0 q) (fun q => S.1 4 0 q) j 0).toUInt32 >>> ((22 : Int32).toUInt32 &&& Int32.toUInt32 31)).toInt32) ||| ((rndN (fun q => S.1 5 0 q) (fun q => S.1 4 0 q) j 0) <<< (10 &&& 31)))) + ((((rndN (fun q => S.1 5 0 q) (fun q => S.1 4 0 q) j 0) &&& (rndN (fun q => S.1 5 0 q) (fun q => S.1 4 0 q) j 1)) ^^^ ((rndN (fun q => S.1 5 0 q) (fun q => S.1 4 0 q) j 0) &&& (rndN (fun q => S.1 5 0 q) (fun q => S.1 4 0 q) j 2))) ^^^ ((rndN (fun q => S.1 5 0 q) (fun q => S.1 4 0 q) j 1) &&& (rndN (fun q => S.1 5 0 q) (fun q => S.1 4 0 q) j 2))))), (12, .int ((((((rndN (fun q => S.1 5 0 q) (fun q => S.1 4 0 q) j 0).toUInt32 >>> ((2 : Int32).toUInt32 &&& Int32.toUInt32 31)).toInt32) ||| ((rndN (fun q => S.1 5 0 q) (fun q => S.1 4 0 q) j 0) <<< (30 &&& 31))) ^^^ ((((rndN (fun q => S.1 5 0 q) (fun q => S.1 4 0 q) j 0).toUInt32 >>> ((13 : Int32).toUInt32 &&& Int32.toUInt32 31)).toInt32) ||| ((rndN (fun q => S.1 5 0 q) (fun q => S.1 4 0 q) j 0) <<< (19 &&& 31)))) ^^^ ((((rndN (fun q => S.1 5 0 q) (fun q => S.1 4 0 q) j 0).toUInt32 >>> ((22 : Int32).toUInt32 &&& Int32.toUInt32 31)).toInt32) ||| ((rndN (fun q => S.1 5 0 q) (fun q => S.1 4 0 q) j 0) <<< (10 &&& 31))))), (11, .int (((((rndN (fun q => S.1 5 0 q) (fun q => S.1 4 0 q) j 7) + ((((((rndN (fun q => S.1 5 0 q) (fun q => S.1 4 0 q) j 4).toUInt32 >>> ((6 : Int32).toUInt32 &&& Int32.toUInt32 31)).toInt32) ||| ((rndN (fun q => S.1 5 0 q) (fun q => S.1 4 0 q) j 4) <<< (26 &&& 31))) ^^^ ((((rndN (fun q => S.1 5 0 q) (fun q => S.1 4 0 q) j 4).toUInt32 >>> ((11 : Int32).toUInt32 &&& Int32.toUInt32 31)).toInt32) ||| ((rndN (fun q => S.1 5 0 q) (fun q => S.1 4 0 q) j 4) <<< (21 &&& 31)))) ^^^ ((((rndN (fun q => S.1 5 0 q) (fun q => S.1 4 0 q) j 4).toUInt32 >>> ((25 : Int32).toUInt32 &&& Int32.toUInt32 31)).toInt32) ||| ((rndN (fun q => S.1 5 0 q) (fun q => S.1 4 0 q) j 4) <<< (7 &&& 31))))) + (((rndN (fun q => S.1 5 0 q) (fun q => S.1 4 0 q) j 4) &&& (rndN (fun q => S.1 5 0 q) (fun q => S.1 4 0 q) j 5)) ^^^ (((rndN (fun q => S.1 5 0 q) (fun q => S.1 4 0 q) j 4) ^^^ (-1 : Int32)) &&& (rndN (fun q => S.1 5 0 q) (fun q => S.1 4 0 q) j 6)))) + (mK j)) + (S.1 5 0 j))), (10, .int ((((((rndN (fun q => S.1 5 0 q) (fun q => S.1 4 0 q) j 4).toUInt32 >>> ((6 : Int32).toUInt32 &&& Int32.toUInt32 31)).toInt32) ||| ((rndN (fun q => S.1 5 0 q) (fun q => S.1 4 0 q) j 4) <<< (26 &&& 31))) ^^^ ((((rndN (fun q => S.1 5 0 q) (fun q => S.1 4 0 q) j 4).toUInt32 >>> ((11 : Int32).toUInt32 &&& Int32.toUInt32 31)).toInt32) ||| ((rndN (fun q => S.1 5 0 q) (fun q => S.1 4 0 q) j 4) <<< (21 &&& 31)))) ^^^ ((((rndN (fun q => S.1 5 0 q) (fun q => S.1 4 0 q) j 4).toUInt32 >>> ((25 : Int32).toUInt32 &&& Int32.toUInt32 31)).toInt32) ||| ((rndN (fun q => S.1 5 0 q) (fun q => S.1 4 0 q) j 4) <<< (7 &&& 31))))), (0, .ref (mAdC E 1 0)), (1, .int (rndN (fun q => S.1 5 0 q) (fun q => S.1 4 0 q) j 0)), (2, .int (rndN (fun q => S.1 5 0 q) (fun q => S.1 4 0 q) j 1)), (3, .int (rndN (fun q => S.1 5 0 q) (fun q => S.1 4 0 q) j 2)), (4, .int (rndN (fun q => S.1 5 0 q) (fun q => S.1 4 0 q) j 3)), (5, .int (rndN (fun q => S.1 5 0 q) (fun q => S.1 4 0 q) j 4)), (9, .int (nI j))]) hx hb dX1_mixBlock_202 hl (by decide) rfl (fun ls hl => ?_)
        refine lv_iload hx hb dX1_mixBlock_204 (lv_at hl 11 rfl) ?_
        refine lv_iload hx hb dX1_mixBlock_206 (lv_at hl 5 rfl) ?_
        refine lv_iadd hx hb dX1_mixBlock_208 ?_
        refine lv_istore (lv' := [(5, .int ((rndN (fun q => S.1 5 0 q) (fun q => S.1 4 0 q) j 3) + (((((rndN (fun q => S.1 5 0 q) (fun q => S.1 4 0 q) j 7) + ((((((rndN (fun q => S.1 5 0 q) (fun q => S.1 4 0 q) j 4).toUInt32 >>> ((6 : Int32).toUInt32 &&& Int32.toUInt32 31)).toInt32) ||| ((rndN (fun q => S.1 5 0 q) (fun q => S.1 4 0 q) j 4) <<< (26 &&& 31))) ^^^ ((((rndN (fun q => S.1 5 0 q) (fun q => S.1 4 0 q) j 4).toUInt32 >>> ((11 : Int32).toUInt32 &&& Int32.toUInt32 31)).toInt32) ||| ((rndN (fun q => S.1 5 0 q) (fun q => S.1 4 0 q) j 4) <<< (21 &&& 31)))) ^^^ ((((rndN (fun q => S.1 5 0 q) (fun q => S.1 4 0 q) j 4).toUInt32 >>> ((25 : Int32).toUInt32 &&& Int32.toUInt32 31)).toInt32) ||| ((rndN (fun q => S.1 5 0 q) (fun q => S.1 4 0 q) j 4) <<< (7 &&& 31))))) + (((rndN (fun q => S.1 5 0 q) (fun q => S.1 4 0 q) j 4) &&& (rndN (fun q => S.1 5 0 q) (fun q => S.1 4 0 q) j 5)) ^^^ (((rndN (fun q => S.1 5 0 q) (fun q => S.1 4 0 q) j 4) ^^^ (-1 : Int32)) &&& (rndN (fun q => S.1 5 0 q) (fun q => S.1 4 0 q) j 6)))) + (mK j)) + (S.1 5 0 j)))), (6, .int (rndN (fun q => S.1 5 0 q) (fun q => S.1 4 0 q) j 4)), (7, .int (rndN (fun q => S.1 5 0 q) (fun q => S.1 4 0 q) j 5)), (8, .int (rndN (fun q => S.1 5 0 q) (fun q => S.1 4 0 q) j 6)), (13, .int (((((((rndN (fun q => S.1 5 0 q) (fun q => S.1 4 0 q) j 0).toUInt32 >>> ((2 : Int32).toUInt32 &&& Int32.toUInt32 31)).toInt32) ||| ((rndN (fun q => S.1 5 0 q) (fun q => S.1 4 0 q) j 0) <<< (30 &&& 31))) ^^^ ((((rndN (fun q => S.1 5 0 q) (fun q => S.1 4 0 q) j 0).toUInt32 >>> ((13 : Int32).toUInt32 &&& Int32.toUInt32 31)).toInt32) ||| ((rndN (fun q => S.1 5 0 q) (fun q => S.1 4 0 q) j 0) <<< (19 &&& 31)))) ^^^ ((((rndN (fun q => S.1 5 0 q) (fun q => S.1 4 0 q) j 0).toUInt32 >>> ((22 : Int32).toUInt32 &&& Int32.toUInt32 31)).toInt32) ||| ((rndN (fun q => S.1 5 0 q) (fun q => S.1 4 0 q) j 0) <<< (10 &&& 31)))) + ((((rndN (fun q => S.1 5 0 q) (fun q => S.1 4 0 q) j 0) &&& (rndN (fun q => S.1 5 0 q) (fun q => S.1 4 0 q) j 1)) ^^^ ((rndN (fun q => S.1 5 0 q) (fun q => S.1 4 0 q) j 0) &&& (rndN (fun q => S.1 5 0 q) (fun q => S.1 4 0 q) j 2))) ^^^ ((rndN (fun q => S.1 5 0 q) (fun q => S.1 4 0 q) j 1) &&& (rndN (fun q => S.1 5 0 q) (fun q => S.1 4 0 q) j 2))))), (12, .int ((((((rndN (fun q => S.1 5 0 q) (fun q => S.1 4 0 q) j 0).toUInt32 >>> ((2 : Int32).toUInt32 &&& Int32.toUInt32 31)).toInt32) ||| ((rndN (fun q => S.1 5 0 q) (fun q => S.1 4 0 q) j 0) <<< (30 &&& 31))) ^^^ ((((rndN (fun q => S.1 5 0 q) (fun q => S.1 4 0 q) j 0).toUInt32 >>> ((13 : Int32).toUInt32 &&& Int32.toUInt32 31)).toInt32) ||| ((rndN (fun q => S.1 5 0 q) (fun q => S.1 4 0 q) j 0) <<< (19 &&& 31)))) ^^^ ((((rndN (fun q => S.1 5 0 q) (fun q => S.1 4 0 q) j 0).toUInt32 >>> ((22 : Int32).toUInt32 &&& Int32.toUInt32 31)).toInt32) ||| ((rndN (fun q => S.1 5 0 q) (fun q => S.1 4 0 q) j 0) <<< (10 &&& 31))))), (11, .int (((((rndN (fun q => S.1 5 0 q) (fun q => S.1 4 0 q) j 7) + ((((((rndN (fun q => S.1 5 0 q) (fun q => S.1 4 0 q) j 4).toUInt32 >>> ((6 : Int32).toUInt32 &&& Int32.toUInt32 31)).toInt32) ||| ((rndN (fun q => S.1 5 0 q) (fun q => S.1 4 0 q) j 4) <<< (26 &&& 31))) ^^^ ((((rndN (fun q => S.1 5 0 q) (fun q => S.1 4 0 q) j 4).toUInt32 >>> ((11 : Int32).toUInt32 &&& Int32.toUInt32 31)).toInt32) ||| ((rndN (fun q => S.1 5 0 q) (fun q => S.1 4 0 q) j 4) <<< (21 &&& 31)))) ^^^ ((((rndN (fun q => S.1 5 0 q) (fun q => S.1 4 0 q) j 4).toUInt32 >>> ((25 : Int32).toUInt32 &&& Int32.toUInt32 31)).toInt32) ||| ((rndN (fun q => S.1 5 0 q) (fun q => S.1 4 0 q) j 4) <<< (7 &&& 31))))) + (((rndN (fun q => S.1 5 0 q) (fun q => S.1 4 0 q) j 4) &&& (rndN (fun q => S.1 5 0 q) (fun q => S.1 4 0 q) j 5)) ^^^ (((rndN (fun q => S.1 5 0 q) (fun q => S.1 4 0 q) j 4) ^^^ (-1 : Int32)) &&& (rndN (fun q => S.1 5 0 q) (fun q => S.1 4 0 q) j 6)))) + (mK j)) + (S.1 5 0 j))), (10, .int ((((((rndN (fun q => S.1 5 0 q) (fun q => S.1 4 0 q) j 4).toUInt32 >>> ((6 : Int32).toUInt32 &&& Int32.toUInt32 31)).toInt32) ||| ((rndN (fun q => S.1 5 0 q) (fun q => S.1 4 0 q) j 4) <<< (26 &&& 31))) ^^^ ((((rndN (fun q => S.1 5 0 q) (fun q => S.1 4 0 q) j 4).toUInt32 >>> ((11 : Int32).toUInt32 &&& Int32.toUInt32 31)).toInt32) ||| ((rndN (fun q => S.1 5 0 q) (fun q => S.1 4 0 q) j 4) <<< (21 &&& 31)))) ^^^ ((((rndN (fun q => S.1 5 0 q) (fun q => S.1 4 0 q) j 4).toUInt32 >>> ((25 : Int32).toUInt32 &&& Int32.toUInt32 31)).toInt32) ||| ((rndN (fun q => S.1 5 0 q) (fun q => S.1 4 0 q) j 4) <<< (7 &&& 31))))), (0, .ref (mAdC E 1 0)), (1, .int (rndN (fun q => S.1 5 0 q) (fun q => S.1 4 0 q) j 0)), (2, .int (rndN (fun q => S.1 5 0 q) (fun q => S.1 4 0 q) j 1)), (3, .int (rndN (fun q => S.1 5 0 q) (fun q => S.1 4 0 q) j 2)), (4, .int (rndN (fun q => S.1 5 0 q) (fun q => S.1 4 0 q) j 3)), (9, .int (nI j))]) hx hb dX1_mixBlock_209 hl (by decide) rfl (fun ls hl => ?_)
        refine lv_iload_n hx hb dX1_mixBlock_211 rfl (lv_at hl 11 rfl) ?_
        refine lv_istore (lv' := [(4, .int (rndN (fun q => S.1 5 0 q) (fun q => S.1 4 0 q) j 2)), (5, .int ((rndN (fun q => S.1 5 0 q) (fun q => S.1 4 0 q) j 3) + (((((rndN (fun q => S.1 5 0 q) (fun q => S.1 4 0 q) j 7) + ((((((rndN (fun q => S.1 5 0 q) (fun q => S.1 4 0 q) j 4).toUInt32 >>> ((6 : Int32).toUInt32 &&& Int32.toUInt32 31)).toInt32) ||| ((rndN (fun q => S.1 5 0 q) (fun q => S.1 4 0 q) j 4) <<< (26 &&& 31))) ^^^ ((((rndN (fun q => S.1 5 0 q) (fun q => S.1 4 0 q) j 4).toUInt32 >>> ((11 : Int32).toUInt32 &&& Int32.toUInt32 31)).toInt32) ||| ((rndN (fun q => S.1 5 0 q) (fun q => S.1 4 0 q) j 4) <<< (21 &&& 31)))) ^^^ ((((rndN (fun q => S.1 5 0 q) (fun q => S.1 4 0 q) j 4).toUInt32 >>> ((25 : Int32).toUInt32 &&& Int32.toUInt32 31)).toInt32) ||| ((rndN (fun q => S.1 5 0 q) (fun q => S.1 4 0 q) j 4) <<< (7 &&& 31))))) + (((rndN (fun q => S.1 5 0 q) (fun q => S.1 4 0 q) j 4) &&& (rndN (fun q => S.1 5 0 q) (fun q => S.1 4 0 q) j 5)) ^^^ (((rndN (fun q => S.1 5 0 q) (fun q => S.1 4 0 q) j 4) ^^^ (-1 : Int32)) &&& (rndN (fun q => S.1 5 0 q) (fun q => S.1 4 0 q) j 6)))) + (mK j)) + (S.1 5 0 j)))), (6, .int (rndN (fun q => S.1 5 0 q) (fun q => S.1 4 0 q) j 4)), (7, .int (rndN (fun q => S.1 5 0 q) (fun q => S.1 4 0 q) j 5)), (8, .int (rndN (fun q => S.1 5 0 q) (fun q => S.1 4 0 q) j 6)), (13, .int (((((((rndN (fun q => S.1 5 0 q) (fun q => S.1 4 0 q) j 0).toUInt32 >>> ((2 : Int32).toUInt32 &&& Int32.toUInt32 31)).toInt32) ||| ((rndN (fun q => S.1 5 0 q) (fun q => S.1 4 0 q) j 0) <<< (30 &&& 31))) ^^^ ((((rndN (fun q => S.1 5 0 q) (fun q => S.1 4 0 q) j 0).toUInt32 >>> ((13 : Int32).toUInt32 &&& Int32.toUInt32 31)).toInt32) ||| ((rndN (fun q => S.1 5 0 q) (fun q => S.1 4 0 q) j 0) <<< (19 &&& 31)))) ^^^ ((((rndN (fun q => S.1 5 0 q) (fun q => S.1 4 0 q) j 0).toUInt32 >>> ((22 : Int32).toUInt32 &&& Int32.toUInt32 31)).toInt32) ||| ((rndN (fun q => S.1 5 0 q) (fun q => S.1 4 0 q) j 0) <<< (10 &&& 31)))) + ((((rndN (fun q => S.1 5 0 q) (fun q => S.1 4 0 q) j 0) &&& (rndN (fun q => S.1 5 0 q) (fun q => S.1 4 0 q) j 1)) ^^^ ((rndN (fun q => S.1 5 0 q) (fun q => S.1 4 0 q) j 0) &&& (rndN (fun q => S.1 5 0 q) (fun q => S.1 4 0 q) j 2))) ^^^ ((rndN (fun q => S.1 5 0 q) (fun q => S.1 4 0 q) j 1) &&& (rndN (fun q => S.1 5 0 q) (fun q => S.1 4 0 q) j 2))))), (12, .int ((((((rndN (fun q => S.1 5 0 q) (fun q => S.1 4 0 q) j 0).toUInt32 >>> ((2 : Int32).toUInt32 &&& Int32.toUInt32 31)).toInt32) ||| ((rndN (fun q => S.1 5 0 q) (fun q => S.1 4 0 q) j 0) <<< (30 &&& 31))) ^^^ ((((rndN (fun q => S.1 5 0 q) (fun q => S.1 4 0 q) j 0).toUInt32 >>> ((13 : Int32).toUInt32 &&& Int32.toUInt32 31)).toInt32) ||| ((rndN (fun q => S.1 5 0 q) (fun q => S.1 4 0 q) j 0) <<< (19 &&& 31)))) ^^^ ((((rndN (fun q => S.1 5 0 q) (fun q => S.1 4 0 q) j 0).toUInt32 >>> ((22 : Int32).toUInt32 &&& Int32.toUInt32 31)).toInt32) ||| ((rndN (fun q => S.1 5 0 q) (fun q => S.1 4 0 q) j 0) <<< (10 &&& 31))))), (11, .int (((((rndN (fun q => S.1 5 0 q) (fun q => S.1 4 0 q) j 7) + ((((((rndN (fun q => S.1 5 0 q) (fun q => S.1 4 0 q) j 4).toUInt32 >>> ((6 : Int32).toUInt32 &&& Int32.toUInt32 31)).toInt32) ||| ((rndN (fun q => S.1 5 0 q) (fun q => S.1 4 0 q) j 4) <<< (26 &&& 31))) ^^^ ((((rndN (fun q => S.1 5 0 q) (fun q => S.1 4 0 q) j 4).toUInt32 >>> ((11 : Int32).toUInt32 &&& Int32.toUInt32 31)).toInt32) ||| ((rndN (fun q => S.1 5 0 q) (fun q => S.1 4 0 q) j 4) <<< (21 &&& 31)))) ^^^ ((((rndN (fun q => S.1 5 0 q) (fun q => S.1 4 0 q) j 4).toUInt32 >>> ((25 : Int32).toUInt32 &&& Int32.toUInt32 31)).toInt32) ||| ((rndN (fun q => S.1 5 0 q) (fun q => S.1 4 0 q) j 4) <<< (7 &&& 31))))) + (((rndN (fun q => S.1 5 0 q) (fun q => S.1 4 0 q) j 4) &&& (rndN (fun q => S.1 5 0 q) (fun q => S.1 4 0 q) j 5)) ^^^ (((rndN (fun q => S.1 5 0 q) (fun q => S.1 4 0 q) j 4) ^^^ (-1 : Int32)) &&& (rndN (fun q => S.1 5 0 q) (fun q => S.1 4 0 q) j 6)))) + (mK j)) + (S.1 5 0 j))), (10, .int ((((((rndN (fun q => S.1 5 0 q) (fun q => S.1 4 0 q) j 4).toUInt32 >>> ((6 : Int32).toUInt32 &&& Int32.toUInt32 31)).toInt32) ||| ((rndN (fun q => S.1 5 0 q) (fun q => S.1 4 0 q) j 4) <<< (26 &&& 31))) ^^^ ((((rndN (fun q => S.1 5 0 q) (fun q => S.1 4 0 q) j 4).toUInt32 >>> ((11 : Int32).toUInt32 &&& Int32.toUInt32 31)).toInt32) ||| ((rndN (fun q => S.1 5 0 q) (fun q => S.1 4 0 q) j 4) <<< (21 &&& 31)))) ^^^ ((((rndN (fun q => S.1 5 0 q) (fun q => S.1 4 0 q) j 4).toUInt32 >>> ((25 : Int32).toUInt32 &&& Int32.toUInt32 31)).toInt32) ||| ((rndN (fun q => S.1 5 0 q) (fun q => S.1 4 0 q) j 4) <<< (7 &&& 31))))), (0, .ref (mAdC E 1 0)), (1, .int (rndN (fun q => S.1 5 0 q) (fun q => S.1 4 0 q) j 0)), (2, .int (rndN (fun q => S.1 5 0 q) (fun q => S.1 4 0 q) j 1)), (3, .int (rndN (fun q => S.1 5 0 q) (fun q => S.1 4 0 q) j 2)), (9, .int (nI j))]) hx hb dX1_mixBlock_212 hl (by decide) rfl (fun ls hl => ?_)
        refine lv_iload_n hx hb dX1_mixBlock_214 rfl (lv_at hl 11 rfl) ?_
        refine lv_istore_n (lv' := [(3, .int (rndN (fun q => S.1 5 0 q) (fun q => S.1 4 0 q) j 1)), (4, .int (rndN (fun q => S.1 5 0 q) (fun q => S.1 4 0 q) j 2)), (5, .int ((rndN (fun q => S.1 5 0 q) (fun q => S.1 4 0 q) j 3) + (((((rndN (fun q => S.1 5 0 q) (fun q => S.1 4 0 q) j 7) + ((((((rndN (fun q => S.1 5 0 q) (fun q => S.1 4 0 q) j 4).toUInt32 >>> ((6 : Int32).toUInt32 &&& Int32.toUInt32 31)).toInt32) ||| ((rndN (fun q => S.1 5 0 q) (fun q => S.1 4 0 q) j 4) <<< (26 &&& 31))) ^^^ ((((rndN (fun q => S.1 5 0 q) (fun q => S.1 4 0 q) j 4).toUInt32 >>> ((11 : Int32).toUInt32 &&& Int32.toUInt32 31)).toInt32) ||| ((rndN (fun q => S.1 5 0 q) (fun q => S.1 4 0 q) j 4) <<< (21 &&& 31)))) ^^^ ((((rndN (fun q => S.1 5 0 q) (fun q => S.1 4 0 q) j 4).toUInt32 >>> ((25 : Int32).toUInt32 &&& Int32.toUInt32 31)).toInt32) ||| ((rndN (fun q => S.1 5 0 q) (fun q => S.1 4 0 q) j 4) <<< (7 &&& 31))))) + (((rndN (fun q => S.1 5 0 q) (fun q => S.1 4 0 q) j 4) &&& (rndN (fun q => S.1 5 0 q) (fun q => S.1 4 0 q) j 5)) ^^^ (((rndN (fun q => S.1 5 0 q) (fun q => S.1 4 0 q) j 4) ^^^ (-1 : Int32)) &&& (rndN (fun q => S.1 5 0 q) (fun q => S.1 4 0 q) j 6)))) + (mK j)) + (S.1 5 0 j)))), (6, .int (rndN (fun q => S.1 5 0 q) (fun q => S.1 4 0 q) j 4)), (7, .int (rndN (fun q => S.1 5 0 q) (fun q => S.1 4 0 q) j 5)), (8, .int (rndN (fun q => S.1 5 0 q) (fun q => S.1 4 0 q) j 6)), (13, .int (((((((rndN (fun q => S.1 5 0 q) (fun q => S.1 4 0 q) j 0).toUInt32 >>> ((2 : Int32).toUInt32 &&& Int32.toUInt32 31)).toInt32) ||| ((rndN (fun q => S.1 5 0 q) (fun q => S.1 4 0 q) j 0) <<< (30 &&& 31))) ^^^ ((((rndN (fun q => S.1 5 0 q) (fun q => S.1 4 0 q) j 0).toUInt32 >>> ((13 : Int32).toUInt32 &&& Int32.toUInt32 31)).toInt32) ||| ((rndN (fun q => S.1 5 0 q) (fun q => S.1 4 0 q) j 0) <<< (19 &&& 31)))) ^^^ ((((rndN (fun q => S.1 5 0 q) (fun q => S.1 4 0 q) j 0).toUInt32 >>> ((22 : Int32).toUInt32 &&& Int32.toUInt32 31)).toInt32) ||| ((rndN (fun q => S.1 5 0 q) (fun q => S.1 4 0 q) j 0) <<< (10 &&& 31)))) + ((((rndN (fun q => S.1 5 0 q) (fun q => S.1 4 0 q) j 0) &&& (rndN (fun q => S.1 5 0 q) (fun q => S.1 4 0 q) j 1)) ^^^ ((rndN (fun q => S.1 5 0 q) (fun q => S.1 4 0 q) j 0) &&& (rndN (fun q => S.1 5 0 q) (fun q => S.1 4 0 q) j 2))) ^^^ ((rndN (fun q => S.1 5 0 q) (fun q => S.1 4 0 q) j 1) &&& (rndN (fun q => S.1 5 0 q) (fun q => S.1 4 0 q) j 2))))), (12, .int ((((((rndN (fun q => S.1 5 0 q) (fun q => S.1 4 0 q) j 0).toUInt32 >>> ((2 : Int32).toUInt32 &&& Int32.toUInt32 31)).toInt32) ||| ((rndN (fun q => S.1 5 0 q) (fun q => S.1 4 0 q) j 0) <<< (30 &&& 31))) ^^^ ((((rndN (fun q => S.1 5 0 q) (fun q => S.1 4 0 q) j 0).toUInt32 >>> ((13 : Int32).toUInt32 &&& Int32.toUInt32 31)).toInt32) ||| ((rndN (fun q => S.1 5 0 q) (fun q => S.1 4 0 q) j 0) <<< (19 &&& 31)))) ^^^ ((((rndN (fun q => S.1 5 0 q) (fun q => S.1 4 0 q) j 0).toUInt32 >>> ((22 : Int32).toUInt32 &&& Int32.toUInt32 31)).toInt32) ||| ((rndN (fun q => S.1 5 0 q) (fun q => S.1 4 0 q) j 0) <<< (10 &&& 31))))), (11, .int (((((rndN (fun q => S.1 5 0 q) (fun q => S.1 4 0 q) j 7) + ((((((rndN (fun q => S.1 5 0 q) (fun q => S.1 4 0 q) j 4).toUInt32 >>> ((6 : Int32).toUInt32 &&& Int32.toUInt32 31)).toInt32) ||| ((rndN (fun q => S.1 5 0 q) (fun q => S.1 4 0 q) j 4) <<< (26 &&& 31))) ^^^ ((((rndN (fun q => S.1 5 0 q) (fun q => S.1 4 0 q) j 4).toUInt32 >>> ((11 : Int32).toUInt32 &&& Int32.toUInt32 31)).toInt32) ||| ((rndN (fun q => S.1 5 0 q) (fun q => S.1 4 0 q) j 4) <<< (21 &&& 31)))) ^^^ ((((rndN (fun q => S.1 5 0 q) (fun q => S.1 4 0 q) j 4).toUInt32 >>> ((25 : Int32).toUInt32 &&& Int32.toUInt32 31)).toInt32) ||| ((rndN (fun q => S.1 5 0 q) (fun q => S.1 4 0 q) j 4) <<< (7 &&& 31))))) + (((rndN (fun q => S.1 5 0 q) (fun q => S.1 4 0 q) j 4) &&& (rndN (fun q => S.1 5 0 q) (fun q => S.1 4 0 q) j 5)) ^^^ (((rndN (fun q => S.1 5 0 q) (fun q => S.1 4 0 q) j 4) ^^^ (-1 : Int32)) &&& (rndN (fun q => S.1 5 0 q) (fun q => S.1 4 0 q) j 6)))) + (mK j)) + (S.1 5 0 j))), (10, .int ((((((rndN (fun q => S.1 5 0 q) (fun q => S.1 4 0 q) j 4).toUInt32 >>> ((6 : Int32).toUInt32 &&& Int32.toUInt32 31)).toInt32) ||| ((rndN (fun q => S.1 5 0 q) (fun q => S.1 4 0 q) j 4) <<< (26 &&& 31))) ^^^ ((((rndN (fun q => S.1 5 0 q) (fun q => S.1 4 0 q) j 4).toUInt32 >>> ((11 : Int32).toUInt32 &&& Int32.toUInt32 31)).toInt32) ||| ((rndN (fun q => S.1 5 0 q) (fun q => S.1 4 0 q) j 4) <<< (21 &&& 31)))) ^^^ ((((rndN (fun q => S.1 5 0 q) (fun q => S.1 4 0 q) j 4).toUInt32 >>> ((25 : Int32).toUInt32 &&& Int32.toUInt32 31)).toInt32) ||| ((rndN (fun q => S.1 5 0 q) (fun q => S.1 4 0 q) j 4) <<< (7 &&& 31))))), (0, .ref (mAdC E 1 0)), (1, .int (rndN (fun q => S.1 5 0 q) (fun q => S.1 4 0 q) j 0)), (2, .int (rndN (fun q => S.1 5 0 q) (fun q => S.1 4 0 q) j 1)), (9, .int (nI j))]) hx hb dX1_mixBlock_215 rfl hl (by decide) rfl (fun ls hl => ?_)
        refine lv_iload_n hx hb dX1_mixBlock_216 rfl (lv_at hl 11 rfl) ?_
        refine lv_istore_n (lv' := [(2, .int (rndN (fun q => S.1 5 0 q) (fun q => S.1 4 0 q) j 0)), (3, .int (rndN (fun q => S.1 5 0 q) (fun q => S.1 4 0 q) j 1)), (4, .int (rndN (fun q => S.1 5 0 q) (fun q => S.1 4 0 q) j 2)), (5, .int ((rndN (fun q => S.1 5 0 q) (fun q => S.1 4 0 q) j 3) + (((((rndN (fun q => S.1 5 0 q) (fun q => S.1 4 0 q) j 7) + ((((((rndN (fun q => S.1 5 0 q) (fun q => S.1 4 0 q) j 4).toUInt32 >>> ((6 : Int32).toUInt32 &&& Int32.toUInt32 31)).toInt32) ||| ((rndN (fun q => S.1 5 0 q) (fun q => S.1 4 0 q) j 4) <<< (26 &&& 31))) ^^^ ((((rndN (fun q => S.1 5 0 q) (fun q => S.1 4 0 q) j 4).toUInt32 >>> ((11 : Int32).toUInt32 &&& Int32.toUInt32 31)).toInt32) ||| ((rndN (fun q => S.1 5 0 q) (fun q => S.1 4 0 q) j 4) <<< (21 &&& 31)))) ^^^ ((((rndN (fun q => S.1 5 0 q) (fun q => S.1 4 0 q) j 4).toUInt32 >>> ((25 : Int32).toUInt32 &&& Int32.toUInt32 31)).toInt32) ||| ((rndN (fun q => S.1 5 0 q) (fun q => S.1 4 0 q) j 4) <<< (7 &&& 31))))) + (((rndN (fun q => S.1 5 0 q) (fun q => S.1 4 0 q) j 4) &&& (rndN (fun q => S.1 5 0 q) (fun q => S.1 4 0 q) j 5)) ^^^ (((rndN (fun q => S.1 5 0 q) (fun q => S.1 4 0 q) j 4) ^^^ (-1 : Int32)) &&& (rndN (fun q => S.1 5 0 q) (fun q => S.1 4 0 q) j 6)))) + (mK j)) + (S.1 5 0 j)))), (6, .int (rndN (fun q => S.1 5 0 q) (fun q => S.1 4 0 q) j 4)), (7, .int (rndN (fun q => S.1 5 0 q) (fun q => S.1 4 0 q) j 5)), (8, .int (rndN (fun q => S.1 5 0 q) (fun q => S.1 4 0 q) j 6)), (13, .int (((((((rndN (fun q => S.1 5 0 q) (fun q => S.1 4 0 q) j 0).toUInt32 >>> ((2 : Int32).toUInt32 &&& Int32.toUInt32 31)).toInt32) ||| ((rndN (fun q => S.1 5 0 q) (fun q => S.1 4 0 q) j 0) <<< (30 &&& 31))) ^^^ ((((rndN (fun q => S.1 5 0 q) (fun q => S.1 4 0 q) j 0).toUInt32 >>> ((13 : Int32).toUInt32 &&& Int32.toUInt32 31)).toInt32) ||| ((rndN (fun q => S.1 5 0 q) (fun q => S.1 4 0 q) j 0) <<< (19 &&& 31)))) ^^^ ((((rndN (fun q => S.1 5 0 q) (fun q => S.1 4 0 q) j 0).toUInt32 >>> ((22 : Int32).toUInt32 &&& Int32.toUInt32 31)).toInt32) ||| ((rndN (fun q => S.1 5 0 q) (fun q => S.1 4 0 q) j 0) <<< (10 &&& 31)))) + ((((rndN (fun q => S.1 5 0 q) (fun q => S.1 4 0 q) j 0) &&& (rndN (fun q => S.1 5 0 q) (fun q => S.1 4 0 q) j 1)) ^^^ ((rndN (fun q => S.1 5 0 q) (fun q => S.1 4 0 q) j 0) &&& (rndN (fun q => S.1 5 0 q) (fun q => S.1 4 0 q) j 2))) ^^^ ((rndN (fun q => S.1 5 0 q) (fun q => S.1 4 0 q) j 1) &&& (rndN (fun q => S.1 5 0 q) (fun q => S.1 4 0 q) j 2))))), (12, .int ((((((rndN (fun q => S.1 5 0 q) (fun q => S.1 4 0 q) j 0).toUInt32 >>> ((2 : Int32).toUInt32 &&& Int32.toUInt32 31)).toInt32) ||| ((rndN (fun q => S.1 5 0 q) (fun q => S.1 4 0 q) j 0) <<< (30 &&& 31))) ^^^ ((((rndN (fun q => S.1 5 0 q) (fun q => S.1 4 0 q) j 0).toUInt32 >>> ((13 : Int32).toUInt32 &&& Int32.toUInt32 31)).toInt32) ||| ((rndN (fun q => S.1 5 0 q) (fun q => S.1 4 0 q) j 0) <<< (19 &&& 31)))) ^^^ ((((rndN (fun q => S.1 5 0 q) (fun q => S.1 4 0 q) j 0).toUInt32 >>> ((22 : Int32).toUInt32 &&& Int32.toUInt32 31)).toInt32) ||| ((rndN (fun q => S.1 5 0 q) (fun q => S.1 4 0 q) j 0) <<< (10 &&& 31))))), (11, .int (((((rndN (fun q => S.1 5 0 q) (fun q => S.1 4 0 q) j 7) + ((((((rndN (fun q => S.1 5 0 q) (fun q => S.1 4 0 q) j 4).toUInt32 >>> ((6 : Int32).toUInt32 &&& Int32.toUInt32 31)).toInt32) ||| ((rndN (fun q => S.1 5 0 q) (fun q => S.1 4 0 q) j 4) <<< (26 &&& 31))) ^^^ ((((rndN (fun q => S.1 5 0 q) (fun q => S.1 4 0 q) j 4).toUInt32 >>> ((11 : Int32).toUInt32 &&& Int32.toUInt32 31)).toInt32) ||| ((rndN (fun q => S.1 5 0 q) (fun q => S.1 4 0 q) j 4) <<< (21 &&& 31)))) ^^^ ((((rndN (fun q => S.1 5 0 q) (fun q => S.1 4 0 q) j 4).toUInt32 >>> ((25 : Int32).toUInt32 &&& Int32.toUInt32 31)).toInt32) ||| ((rndN (fun q => S.1 5 0 q) (fun q => S.1 4 0 q) j 4) <<< (7 &&& 31))))) + (((rndN (fun q => S.1 5 0 q) (fun q => S.1 4 0 q) j 4) &&& (rndN (fun q => S.1 5 0 q) (fun q => S.1 4 0 q) j 5)) ^^^ (((rndN (fun q => S.1 5 0 q) (fun q => S.1 4 0 q) j 4) ^^^ (-1 : Int32)) &&& (rndN (fun q => S.1 5 0 q) (fun q => S.1 4 0 q) j 6)))) + (mK j)) + (S.1 5 0 j))), (10, .int ((((((rndN (fun q => S.1 5 0 q) (fun q => S.1 4 0 q) j 4).toUInt32 >>> ((6 : Int32).toUInt32 &&& Int32.toUInt32 31)).toInt32) ||| ((rndN (fun q => S.1 5 0 q) (fun q => S.1 4 0 q) j 4) <<< (26 &&& 31))) ^^^ ((((rndN (fun q => S.1 5 0 q) (fun q => S.1 4 0 q) j 4).toUInt32 >>> ((11 : Int32).toUInt32 &&& Int32.toUInt32 31)).toInt32) ||| ((rndN (fun q => S.1 5 0 q) (fun q => S.1 4 0 q) j 4) <<< (21 &&& 31)))) ^^^ ((((rndN (fun q => S.1 5 0 q) (fun q => S.1 4 0 q) j 4).toUInt32 >>> ((25 : Int32).toUInt32 &&& Int32.toUInt32 31)).toInt32) ||| ((rndN (fun q => S.1 5 0 q) (fun q => S.1 4 0 q) j 4) <<< (7 &&& 31))))), (0, .ref (mAdC E 1 0)), (1, .int (rndN (fun q => S.1 5 0 q) (fun q => S.1 4 0 q) j 0)), (9, .int (nI j))]) hx hb dX1_mixBlock_217 rfl hl (by decide) rfl (fun ls hl => ?_)
        refine lv_iload hx hb dX1_mixBlock_218 (lv_at hl 9 rfl) ?_
        refine lv_iload hx hb dX1_mixBlock_220 (lv_at hl 7 rfl) ?_
        refine lv_iadd hx hb dX1_mixBlock_222 ?_
        refine lv_istore_n (lv' := [(1, .int ((((((rndN (fun q => S.1 5 0 q) (fun q => S.1 4 0 q) j 7) + ((((((rndN (fun q => S.1 5 0 q) (fun q => S.1 4 0 q) j 4).toUInt32 >>> ((6 : Int32).toUInt32 &&& Int32.toUInt32 31)).toInt32) ||| ((rndN (fun q => S.1 5 0 q) (fun q => S.1 4 0 q) j 4) <<< (26 &&& 31))) ^^^ ((((rndN (fun q => S.1 5 0 q) (fun q => S.1 4 0 q) j 4).toUInt32 >>> ((11 : Int32).toUInt32 &&& Int32.toUInt32 31)).toInt32) ||| ((rndN (fun q => S.1 5 0 q) (fun q => S.1 4 0 q) j 4) <<< (21 &&& 31)))) ^^^ ((((rndN (fun q => S.1 5 0 q) (fun q => S.1 4 0 q) j 4).toUInt32 >>> ((25 : Int32).toUInt32 &&& Int32.toUInt32 31)).toInt32) ||| ((rndN (fun q => S.1 5 0 q) (fun q => S.1 4 0 q) j 4) <<< (7 &&& 31))))) + (((rndN (fun q => S.1 5 0 q) (fun q => S.1 4 0 q) j 4) &&& (rndN (fun q => S.1 5 0 q) (fun q => S.1 4 0 q) j 5)) ^^^ (((rndN (fun q => S.1 5 0 q) (fun q => S.1 4 0 q) j 4) ^^^ (-1 : Int32)) &&& (rndN (fun q => S.1 5 0 q) (fun q => S.1 4 0 q) j 6)))) + (mK j)) + (S.1 5 0 j)) + (((((((rndN (fun q => S.1 5 0 q) (fun q => S.1 4 0 q) j 0).toUInt32 >>> ((2 : Int32).toUInt32 &&& Int32.toUInt32 31)).toInt32) ||| ((rndN (fun q => S.1 5 0 q) (fun q => S.1 4 0 q) j 0) <<< (30 &&& 31))) ^^^ ((((rndN (fun q => S.1 5 0 q) (fun q => S.1 4 0 q) j 0).toUInt32 >>> ((13 : Int32).toUInt32 &&& Int32.toUInt32 31)).toInt32) ||| ((rndN (fun q => S.1 5 0 q) (fun q => S.1 4 0 q) j 0) <<< (19 &&& 31)))) ^^^ ((((rndN (fun q => S.1 5 0 q) (fun q => S.1 4 0 q) j 0).toUInt32 >>> ((22 : Int32).toUInt32 &&& Int32.toUInt32 31)).toInt32) ||| ((rndN (fun q => S.1 5 0 q) (fun q => S.1 4 0 q) j 0) <<< (10 &&& 31)))) + ((((rndN (fun q => S.1 5 0 q) (fun q => S.1 4 0 q) j 0) &&& (rndN (fun q => S.1 5 0 q) (fun q => S.1 4 0 q) j 1)) ^^^ ((rndN (fun q => S.1 5 0 q) (fun q => S.1 4 0 q) j 0) &&& (rndN (fun q => S.1 5 0 q) (fun q => S.1 4 0 q) j 2))) ^^^ ((rndN (fun q => S.1 5 0 q) (fun q => S.1 4 0 q) j 1) &&& (rndN (fun q => S.1 5 0 q) (fun q => S.1 4 0 q) j 2)))))), (2, .int (rndN (fun q => S.1 5 0 q) (fun q => S.1 4 0 q) j 0)), (3, .int (rndN (fun q => S.1 5 0 q) (fun q => S.1 4 0 q) j 1)), (4, .int (rndN (fun q => S.1 5 0 q) (fun q => S.1 4 0 q) j 2)), (5, .int ((rndN (fun q => S.1 5 0 q) (fun q => S.1 4 0 q) j 3) + (((((rndN (fun q => S.1 5 0 q) (fun q => S.1 4 0 q) j 7) + ((((((rndN (fun q => S.1 5 0 q) (fun q => S.1 4 0 q) j 4).toUInt32 >>> ((6 : Int32).toUInt32 &&& Int32.toUInt32 31)).toInt32) ||| ((rndN (fun q => S.1 5 0 q) (fun q => S.1 4 0 q) j 4) <<< (26 &&& 31))) ^^^ ((((rndN (fun q => S.1 5 0 q) (fun q => S.1 4 0 q) j 4).toUInt32 >>> ((11 : Int32).toUInt32 &&& Int32.toUInt32 31)).toInt32) ||| ((rndN (fun q => S.1 5 0 q) (fun q => S.1 4 0 q) j 4) <<< (21 &&& 31)))) ^^^ ((((rndN (fun q => S.1 5 0 q) (fun q => S.1 4 0 q) j 4).toUInt32 >>> ((25 : Int32).toUInt32 &&& Int32.toUInt32 31)).toInt32) ||| ((rndN (fun q => S.1 5 0 q) (fun q => S.1 4 0 q) j 4) <<< (7 &&& 31))))) + (((rndN (fun q => S.1 5 0 q) (fun q => S.1 4 0 q) j 4) &&& (rndN (fun q => S.1 5 0 q) (fun q => S.1 4 0 q) j 5)) ^^^ (((rndN (fun q => S.1 5 0 q) (fun q => S.1 4 0 q) j 4) ^^^ (-1 : Int32)) &&& (rndN (fun q => S.1 5 0 q) (fun q => S.1 4 0 q) j 6)))) + (mK j)) + (S.1 5 0 j)))), (6, .int (rndN (fun q => S.1 5 0 q) (fun q => S.1 4 0 q) j 4)), (7, .int (rndN (fun q => S.1 5 0 q) (fun q => S.1 4 0 q) j 5)), (8, .int (rndN (fun q => S.1 5 0 q) (fun q => S.1 4 0 q) j 6)), (13, .int (((((((rndN (fun q => S.1 5 0 q) (fun q => S.1 4 0 q) j 0).toUInt32 >>> ((2 : Int32).toUInt32 &&& Int32.toUInt32 31)).toInt32) ||| ((rndN (fun q => S.1 5 0 q) (fun q => S.1 4 0 q) j 0) <<< (30 &&& 31))) ^^^ ((((rndN (fun q => S.1 5 0 q) (fun q => S.1 4 0 q) j 0).toUInt32 >>> ((13 : Int32).toUInt32 &&& Int32.toUInt32 31)).toInt32) ||| ((rndN (fun q => S.1 5 0 q) (fun q => S.1 4 0 q) j 0) <<< (19 &&& 31)))) ^^^ ((((rndN (fun q => S.1 5 0 q) (fun q => S.1 4 0 q) j 0).toUInt32 >>> ((22 : Int32).toUInt32 &&& Int32.toUInt32 31)).toInt32) ||| ((rndN (fun q => S.1 5 0 q) (fun q => S.1 4 0 q) j 0) <<< (10 &&& 31)))) + ((((rndN (fun q => S.1 5 0 q) (fun q => S.1 4 0 q) j 0) &&& (rndN (fun q => S.1 5 0 q) (fun q => S.1 4 0 q) j 1)) ^^^ ((rndN (fun q => S.1 5 0 q) (fun q => S.1 4 0 q) j 0) &&& (rndN (fun q => S.1 5 0 q) (fun q => S.1 4 0 q) j 2))) ^^^ ((rndN (fun q => S.1 5 0 q) (fun q => S.1 4 0 q) j 1) &&& (rndN (fun q => S.1 5 0 q) (fun q => S.1 4 0 q) j 2))))), (12, .int ((((((rndN (fun q => S.1 5 0 q) (fun q => S.1 4 0 q) j 0).toUInt32 >>> ((2 : Int32).toUInt32 &&& Int32.toUInt32 31)).toInt32) ||| ((rndN (fun q => S.1 5 0 q) (fun q => S.1 4 0 q) j 0) <<< (30 &&& 31))) ^^^ ((((rndN (fun q => S.1 5 0 q) (fun q => S.1 4 0 q) j 0).toUInt32 >>> ((13 : Int32).toUInt32 &&& Int32.toUInt32 31)).toInt32) ||| ((rndN (fun q => S.1 5 0 q) (fun q => S.1 4 0 q) j 0) <<< (19 &&& 31)))) ^^^ ((((rndN (fun q => S.1 5 0 q) (fun q => S.1 4 0 q) j 0).toUInt32 >>> ((22 : Int32).toUInt32 &&& Int32.toUInt32 31)).toInt32) ||| ((rndN (fun q => S.1 5 0 q) (fun q => S.1 4 0 q) j 0) <<< (10 &&& 31))))), (11, .int (((((rndN (fun q => S.1 5 0 q) (fun q => S.1 4 0 q) j 7) + ((((((rndN (fun q => S.1 5 0 q) (fun q => S.1 4 0 q) j 4).toUInt32 >>> ((6 : Int32).toUInt32 &&& Int32.toUInt32 31)).toInt32) ||| ((rndN (fun q => S.1 5 0 q) (fun q => S.1 4 0 q) j 4) <<< (26 &&& 31))) ^^^ ((((rndN (fun q => S.1 5 0 q) (fun q => S.1 4 0 q) j 4).toUInt32 >>> ((11 : Int32).toUInt32 &&& Int32.toUInt32 31)).toInt32) ||| ((rndN (fun q => S.1 5 0 q) (fun q => S.1 4 0 q) j 4) <<< (21 &&& 31)))) ^^^ ((((rndN (fun q => S.1 5 0 q) (fun q => S.1 4 0 q) j 4).toUInt32 >>> ((25 : Int32).toUInt32 &&& Int32.toUInt32 31)).toInt32) ||| ((rndN (fun q => S.1 5 0 q) (fun q => S.1 4 0 q) j 4) <<< (7 &&& 31))))) + (((rndN (fun q => S.1 5 0 q) (fun q => S.1 4 0 q) j 4) &&& (rndN (fun q => S.1 5 0 q) (fun q => S.1 4 0 q) j 5)) ^^^ (((rndN (fun q => S.1 5 0 q) (fun q => S.1 4 0 q) j 4) ^^^ (-1 : Int32)) &&& (rndN (fun q => S.1 5 0 q) (fun q => S.1 4 0 q) j 6)))) + (mK j)) + (S.1 5 0 j))), (10, .int ((((((rndN (fun q => S.1 5 0 q) (fun q => S.1 4 0 q) j 4).toUInt32 >>> ((6 : Int32).toUInt32 &&& Int32.toUInt32 31)).toInt32) ||| ((rndN (fun q => S.1 5 0 q) (fun q => S.1 4 0 q) j 4) <<< (26 &&& 31))) ^^^ ((((rndN (fun q => S.1 5 0 q) (fun q => S.1 4 0 q) j 4).toUInt32 >>> ((11 : Int32).toUInt32 &&& Int32.toUInt32 31)).toInt32) ||| ((rndN (fun q => S.1 5 0 q) (fun q => S.1 4 0 q) j 4) <<< (21 &&& 31)))) ^^^ ((((rndN (fun q => S.1 5 0 q) (fun q => S.1 4 0 q) j 4).toUInt32 >>> ((25 : Int32).toUInt32 &&& Int32.toUInt32 31)).toInt32) ||| ((rndN (fun q => S.1 5 0 q) (fun q => S.1 4 0 q) j 4) <<< (7 &&& 31))))), (0, .ref (mAdC E 1 0)), (9, .int (nI j))]) hx hb dX1_mixBlock_223 rfl hl (by decide) rfl (fun ls hl => ?_)
        refine lv_iinc (v := nI (j + 1)) (lv' := [(9, .int (nI (j + 1))), (1, .int ((((((rndN (fun q => S.1 5 0 q) (fun q => S.1 4 0 q) j 7) + ((((((rndN (fun q => S.1 5 0 q) (fun q => S.1 4 0 q) j 4).toUInt32 >>> ((6 : Int32).toUInt32 &&& Int32.toUInt32 31)).toInt32) ||| ((rndN (fun q => S.1 5 0 q) (fun q => S.1 4 0 q) j 4) <<< (26 &&& 31))) ^^^ ((((rndN (fun q => S.1 5 0 q) (fun q => S.1 4 0 q) j 4).toUInt32 >>> ((11 : Int32).toUInt32 &&& Int32.toUInt32 31)).toInt32) ||| ((rndN (fun q => S.1 5 0 q) (fun q => S.1 4 0 q) j 4) <<< (21 &&& 31)))) ^^^ ((((rndN (fun q => S.1 5 0 q) (fun q => S.1 4 0 q) j 4).toUInt32 >>> ((25 : Int32).toUInt32 &&& Int32.toUInt32 31)).toInt32) ||| ((rndN (fun q => S.1 5 0 q) (fun q => S.1 4 0 q) j 4) <<< (7 &&& 31))))) + (((rndN (fun q => S.1 5 0 q) (fun q => S.1 4 0 q) j 4) &&& (rndN (fun q => S.1 5 0 q) (fun q => S.1 4 0 q) j 5)) ^^^ (((rndN (fun q => S.1 5 0 q) (fun q => S.1 4 0 q) j 4) ^^^ (-1 : Int32)) &&& (rndN (fun q => S.1 5 0 q) (fun q => S.1 4 0 q) j 6)))) + (mK j)) + (S.1 5 0 j)) + (((((((rndN (fun q => S.1 5 0 q) (fun q => S.1 4 0 q) j 0).toUInt32 >>> ((2 : Int32).toUInt32 &&& Int32.toUInt32 31)).toInt32) ||| ((rndN (fun q => S.1 5 0 q) (fun q => S.1 4 0 q) j 0) <<< (30 &&& 31))) ^^^ ((((rndN (fun q => S.1 5 0 q) (fun q => S.1 4 0 q) j 0).toUInt32 >>> ((13 : Int32).toUInt32 &&& Int32.toUInt32 31)).toInt32) ||| ((rndN (fun q => S.1 5 0 q) (fun q => S.1 4 0 q) j 0) <<< (19 &&& 31)))) ^^^ ((((rndN (fun q => S.1 5 0 q) (fun q => S.1 4 0 q) j 0).toUInt32 >>> ((22 : Int32).toUInt32 &&& Int32.toUInt32 31)).toInt32) ||| ((rndN (fun q => S.1 5 0 q) (fun q => S.1 4 0 q) j 0) <<< (10 &&& 31)))) + ((((rndN (fun q => S.1 5 0 q) (fun q => S.1 4 0 q) j 0) &&& (rndN (fun q => S.1 5 0 q) (fun q => S.1 4 0 q) j 1)) ^^^ ((rndN (fun q => S.1 5 0 q) (fun q => S.1 4 0 q) j 0) &&& (rndN (fun q => S.1 5 0 q) (fun q => S.1 4 0 q) j 2))) ^^^ ((rndN (fun q => S.1 5 0 q) (fun q => S.1 4 0 q) j 1) &&& (rndN (fun q => S.1 5 0 q) (fun q => S.1 4 0 q) j 2)))))), (2, .int (rndN (fun q => S.1 5 0 q) (fun q => S.1 4 0 q) j 0)), (3, .int (rndN (fun q => S.1 5 0 q) (fun q => S.1 4 0 q) j 1)), (4, .int (rndN (fun q => S.1 5 0 q) (fun q => S.1 4 0 q) j 2)), (5, .int ((rndN (fun q => S.1 5 0 q) (fun q => S.1 4 0 q) j 3) + (((((rndN (fun q => S.1 5 0 q) (fun q => S.1 4 0 q) j 7) + ((((((rndN (fun q => S.1 5 0 q) (fun q => S.1 4 0 q) j 4).toUInt32 >>> ((6 : Int32).toUInt32 &&& Int32.toUInt32 31)).toInt32) ||| ((rndN (fun q => S.1 5 0 q) (fun q => S.1 4 0 q) j 4) <<< (26 &&& 31))) ^^^ ((((rndN (fun q => S.1 5 0 q) (fun q => S.1 4 0 q) j 4).toUInt32 >>> ((11 : Int32).toUInt32 &&& Int32.toUInt32 31)).toInt32) ||| ((rndN (fun q => S.1 5 0 q) (fun q => S.1 4 0 q) j 4) <<< (21 &&& 31)))) ^^^ ((((rndN (fun q => S.1 5 0 q) (fun q => S.1 4 0 q) j 4).toUInt32 >>> ((25 : Int32).toUInt32 &&& Int32.toUInt32 31)).toInt32) ||| ((rndN (fun q => S.1 5 0 q) (fun q => S.1 4 0 q) j 4) <<< (7 &&& 31))))) + (((rndN (fun q => S.1 5 0 q) (fun q => S.1 4 0 q) j 4) &&& (rndN (fun q => S.1 5 0 q) (fun q => S.1 4 0 q) j 5)) ^^^ (((rndN (fun q => S.1 5 0 q) (fun q => S.1 4 0 q) j 4) ^^^ (-1 : Int32)) &&& (rndN (fun q => S.1 5 0 q) (fun q => S.1 4 0 q) j 6)))) + (mK j)) + (S.1 5 0 j)))), (6, .int (rndN (fun q => S.1 5 0 q) (fun q => S.1 4 0 q) j 4)), (7, .int (rndN (fun q => S.1 5 0 q) (fun q => S.1 4 0 q) j 5)), (8, .int (rndN (fun q => S.1 5 0 q) (fun q => S.1 4 0 q) j 6)), (13, .int (((((((rndN (fun q => S.1 5 0 q) (fun q => S.1 4 0 q) j 0).toUInt32 >>> ((2 : Int32).toUInt32 &&& Int32.toUInt32 31)).toInt32) ||| ((rndN (fun q => S.1 5 0 q) (fun q => S.1 4 0 q) j 0) <<< (30 &&& 31))) ^^^ ((((rndN (fun q => S.1 5 0 q) (fun q => S.1 4 0 q) j 0).toUInt32 >>> ((13 : Int32).toUInt32 &&& Int32.toUInt32 31)).toInt32) ||| ((rndN (fun q => S.1 5 0 q) (fun q => S.1 4 0 q) j 0) <<< (19 &&& 31)))) ^^^ ((((rndN (fun q => S.1 5 0 q) (fun q => S.1 4 0 q) j 0).toUInt32 >>> ((22 : Int32).toUInt32 &&& Int32.toUInt32 31)).toInt32) ||| ((rndN (fun q => S.1 5 0 q) (fun q => S.1 4 0 q) j 0) <<< (10 &&& 31)))) + ((((rndN (fun q => S.1 5 0 q) (fun q => S.1 4 0 q) j 0) &&& (rndN (fun q => S.1 5 0 q) (fun q => S.1 4 0 q) j 1)) ^^^ ((rndN (fun q => S.1 5 0 q) (fun q => S.1 4 0 q) j 0) &&& (rndN (fun q => S.1 5 0 q) (fun q => S.1 4 0 q) j 2))) ^^^ ((rndN (fun q => S.1 5 0 q) (fun q => S.1 4 0 q) j 1) &&& (rndN (fun q => S.1 5 0 q) (fun q => S.1 4 0 q) j 2))))), (12, .int ((((((rndN (fun q => S.1 5 0 q) (fun q => S.1 4 0 q) j 0).toUInt32 >>> ((2 : Int32).toUInt32 &&& Int32.toUInt32 31)).toInt32) ||| ((rndN (fun q => S.1 5 0 q) (fun q => S.1 4 0 q) j 0) <<< (30 &&& 31))) ^^^ ((((rndN (fun q => S.1 5 0 q) (fun q => S.1 4 0 q) j 0).toUInt32 >>> ((13 : Int32).toUInt32 &&& Int32.toUInt32 31)).toInt32) ||| ((rndN (fun q => S.1 5 0 q) (fun q => S.1 4 0 q) j 0) <<< (19 &&& 31)))) ^^^ ((((rndN (fun q => S.1 5 0 q) (fun q => S.1 4 0 q) j 0).toUInt32 >>> ((22 : Int32).toUInt32 &&& Int32.toUInt32 31)).toInt32) ||| ((rndN (fun q => S.1 5 0 q) (fun q => S.1 4 0 q) j 0) <<< (10 &&& 31))))), (11, .int (((((rndN (fun q => S.1 5 0 q) (fun q => S.1 4 0 q) j 7) + ((((((rndN (fun q => S.1 5 0 q) (fun q => S.1 4 0 q) j 4).toUInt32 >>> ((6 : Int32).toUInt32 &&& Int32.toUInt32 31)).toInt32) ||| ((rndN (fun q => S.1 5 0 q) (fun q => S.1 4 0 q) j 4) <<< (26 &&& 31))) ^^^ ((((rndN (fun q => S.1 5 0 q) (fun q => S.1 4 0 q) j 4).toUInt32 >>> ((11 : Int32).toUInt32 &&& Int32.toUInt32 31)).toInt32) ||| ((rndN (fun q => S.1 5 0 q) (fun q => S.1 4 0 q) j 4) <<< (21 &&& 31)))) ^^^ ((((rndN (fun q => S.1 5 0 q) (fun q => S.1 4 0 q) j 4).toUInt32 >>> ((25 : Int32).toUInt32 &&& Int32.toUInt32 31)).toInt32) ||| ((rndN (fun q => S.1 5 0 q) (fun q => S.1 4 0 q) j 4) <<< (7 &&& 31))))) + (((rndN (fun q => S.1 5 0 q) (fun q => S.1 4 0 q) j 4) &&& (rndN (fun q => S.1 5 0 q) (fun q => S.1 4 0 q) j 5)) ^^^ (((rndN (fun q => S.1 5 0 q) (fun q => S.1 4 0 q) j 4) ^^^ (-1 : Int32)) &&& (rndN (fun q => S.1 5 0 q) (fun q => S.1 4 0 q) j 6)))) + (mK j)) + (S.1 5 0 j))), (10, .int ((((((rndN (fun q => S.1 5 0 q) (fun q => S.1 4 0 q) j 4).toUInt32 >>> ((6 : Int32).toUInt32 &&& Int32.toUInt32 31)).toInt32) ||| ((rndN (fun q => S.1 5 0 q) (fun q => S.1 4 0 q) j 4) <<< (26 &&& 31))) ^^^ ((((rndN (fun q => S.1 5 0 q) (fun q => S.1 4 0 q) j 4).toUInt32 >>> ((11 : Int32).toUInt32 &&& Int32.toUInt32 31)).toInt32) ||| ((rndN (fun q => S.1 5 0 q) (fun q => S.1 4 0 q) j 4) <<< (21 &&& 31)))) ^^^ ((((rndN (fun q => S.1 5 0 q) (fun q => S.1 4 0 q) j 4).toUInt32 >>> ((25 : Int32).toUInt32 &&& Int32.toUInt32 31)).toInt32) ||| ((rndN (fun q => S.1 5 0 q) (fun q => S.1 4 0 q) j 4) <<< (7 &&& 31))))), (0, .ref (mAdC E 1 0))]) hx hb dX1_mixBlock_224 hl (k := 13) rfl (i2_1 j) (by decide) rfl (fun ls hl => ?_)
        refine lv_goto (tgt := 66) hx hb dX1_mixBlock_227 (by decide) ?_
        exact ih (j + 1) S _ _ ls  (by omega) (by omega) (rfl) hH hS (lv_sub hl [13, 1, 2, 3, 4, 5, 6, 7, 8, 0] rfl)
  exact lp (64 - 0 + 1) 0 S _ _ ls  (by omega) (by omega) (rfl) hH hS (lv_sub hl [9, 8, 7, 6, 5, 4, 3, 2, 1, 0] rfl)

set_option maxHeartbeats 4000000 in
set_option maxRecDepth 100000 in
theorem d_X1_finish (l : Launch) (E : mEv) (A : Nat → Prop) (hO : mOwn mLP E A) (S : mSt) (k0 i0 : Nat) (hB : mIsB mLP k0 i0 32) (xs : List Int8) (hxs : bHas S 2 xs) (hle : xs.length ≤ 503) : Met l yX1_finish (Cond.code yX1_finish cX1_finish 3 none :: mv_ws) (mRm 2 47) (mPc mLP E A S [.ref (mAdC E 1 0), .ref (mAdC E k0 i0)]) (mQ mLP E A (fun S' => (∀ j, j < 32 → S'.2.1 k0 i0 j = shaL xs j) ∧ mSame (fun k i => hsX k i ∨ (k = k0 ∧ i = i0)) S S') none) 0 0 A := by
  refine Met.ofW (cc := cX1_finish) (maxL := 3) (ret := none) (by decide) rfl ?_
  intro p e s m args below meth c s₁ B hml hv
  obtain ⟨rfl, hG, hH⟩ := hv
  have hx := B.exec
  have hb := B.bytes
  have hr := B.returns
  have hlocks := B.notSynchronized
  have Cx : CallFix p m c cX1_finish 3 s ([.ref (mAdC E 1 0), .ref (mAdC E k0 i0)] : List Value).toArray (Cond.code yX1_finish cX1_finish 3 none :: mv_ws) RX1 := ⟨hx, hb, hml, findClass_of_methodNamed B.named, atoms_spec (ws := Cond.code yX1_finish cX1_finish 3 none :: mv_ws) B.pre⟩
  have hS : va_S A s.heap s.heap [] := va_S.rf
  obtain ⟨tS, hZS, hTS⟩ := hG.2.2.1
  have hpl := padL_mod hle
  have hl := lv_entry ([.ref (mAdC E 1 0), .ref (mAdC E k0 i0)]) (n := 3) (Nat.le_of_ble_eq_true rfl)
  rw [lg_entry_eq]
  generalize (lg_sl ([.ref (mAdC E 1 0), .ref (mAdC E k0 i0)]) ++ List.replicate (3 - (lg_sl ([.ref (mAdC E 1 0), .ref (mAdC E k0 i0)])).length) Slot.unset).toArray = ls at hl ⊢
  have hl : lv_has ls 3 [(0, .ref (mAdC E 1 0)), (1, .ref (mAdC E k0 i0))] := hl
  refine lv_aload_n hx hb dX1_finish_0 rfl (lv_at hl 0 rfl) ?_
  refine mv_callV (Y := mLP) (C := RX1) (k := 1) (i := 0) (rest := []) Cx hG hH hS (d_X1_padMessage l E A hO S xs hxs hle) q_co_X1_padMessage q_ml_X1_46 q_im_X1_padMessage q_se_X1_padMessage q_in_X1 okP_1 rfl rfl hd_X1_padMessage ⟨Nat.le_of_ble_eq_true rfl, Nat.le_of_ble_eq_true rfl⟩ rfl hl.1 rfl (Nat.le_of_ble_eq_true rfl) ⟨Nat.le_of_ble_eq_true rfl, Nat.le_of_ble_eq_true rfl⟩ dX1_finish_1 (fun Sp H locs hP1 hH hS => ?_)
  refine W.eq (g2 := F0 m 4 ls []) rfl ?_
  refine mv_sta Cx hS hZS q_fl_X1_49 dX1_finish_4 ?_
  refine lv_iconst (v := 0) hx hb dX1_finish_7 (by decide) ?_
  refine lv_aload_n hx hb dX1_finish_8 rfl (lv_at hl 0 rfl) ?_
  refine gp_X1_sum Cx hG hH q_fl_X1_20 dX1_finish_9 ?_
  refine lv_iconst (v := 0) hx hb dX1_finish_12 (by decide) ?_
  refine lv_aload_n hx hb dX1_finish_13 rfl (lv_at hl 0 rfl) ?_
  refine gp_X1_sum Cx hG hH q_fl_X1_20 dX1_finish_14 ?_
  refine mv_ilen Cx hG hH isP_4 dX1_finish_17 ?_
  refine mv_cpt Cx hG hO hH hS hTS isP_4 8 (rfl) (rfl) (rfl) (by decide) (by decide) q_ml_X1_52 hl.1 (Nat.le_of_ble_eq_true rfl) (by decide) dX1_finish_18 (fun H locs hH hS => ?_)
  refine lv_iconst (v := 0) hx hb dX1_finish_21 (by decide) ?_
  refine mv_eqi (x' := nI (64 * 0)) (rfl) ?_
  refine lv_istore_n (lv' := [(2, .int (nI (64 * 0))), (0, .ref (mAdC E 1 0)), (1, .ref (mAdC E k0 i0))]) hx hb dX1_finish_22 rfl hl (by decide) rfl (fun ls hl => ?_)
  have lp : ∀ (n b : Nat) (S1 : mSt) (H : Heap) (locs : List Loc) (ls : Array Slot) , ((padL xs).length / 64) - b < n → b ≤ ((padL xs).length / 64) → ((∀ j, j < 8 → S1.1 4 0 j = shaN (fun q => (padL xs).getD q 0) b j) ∧ bHas S1 2 (padL xs) ∧ mSame hsX S S1) → mHold mLP E S1 H → va_S A s.heap H locs → lv_has ls 3 [(0, .ref (mAdC E 1 0)), (1, .ref (mAdC E k0 i0)), (2, .int (nI (64 * b)))] → W p l e (headSpec (Cond.code yX1_finish cX1_finish 3 none :: mv_ws) (mRm 2 47)).room s m ([.ref (mAdC E 1 0), .ref (mAdC E k0 i0)] : List Value).toArray below meth c H locs 0 0 (MQ below (mQ mLP E A (fun S' => (∀ j, j < 32 → S'.2.1 k0 i0 j = shaL xs j) ∧ mSame (fun k i => hsX k i ∨ (k = k0 ∧ i = i0)) S S') none) ([.ref (mAdC E 1 0), .ref (mAdC E k0 i0)] : List Value).toArray s 0 0 A) (F0 m 23 ls []) := by
    intro n
    induction n with
    | zero => intro b S1 H locs ls  hn hj hinv hH hS hl; omega
    | succ n ih =>
      intro b S1 H locs ls  hn hj hinv hH hS hl
      refine lv_iload_n hx hb dX1_finish_23 rfl (lv_at hl 2 rfl) ?_
      refine lv_aload_n hx hb dX1_finish_24 rfl (lv_at hl 0 rfl) ?_
      refine gp_X1_message Cx hG hH q_fl_X1_16 dX1_finish_25 ?_
      refine gp_X0_size Cx hG hH (by decide) q_fl_X1_31 dX1_finish_28 ?_
      refine mv_eqi (x' := nI (padL xs).length) (hinv.2.1.1) ?_
      refine lv_icmp_ge (tgt := 49) hx hb dX1_finish_31 (by decide) (fun h31 => ?_) (fun h31 => ?_)
      · skip
        have hb2 : b = ((padL xs).length / 64) := by have := ge_of (a := (padL xs).length) (by omega) (by omega) h31; omega
        refine lv_iconst (v := 0) hx hb dX1_finish_49 (by decide) ?_
        refine mv_eqi (x' := nI 0) (rfl) ?_
        refine lv_istore_n (lv' := [(2, .int (nI 0)), (0, .ref (mAdC E 1 0)), (1, .ref (mAdC E k0 i0))]) hx hb dX1_finish_50 rfl hl (by decide) rfl (fun ls hl => ?_)
        have lp2 : ∀ (n t : Nat) (S2 : mSt) (H : Heap) (locs : List Loc) (ls : Array Slot) , 8 - t < n → t ≤ 8 → ((∀ j, j < 4 * t → S2.2.1 k0 i0 j = shaOut (shaN (fun q => (padL xs).getD q 0) ((padL xs).length / 64)) j) ∧ (∀ j, j < 8 → S2.1 4 0 j = shaN (fun q => (padL xs).getD q 0) ((padL xs).length / 64) j) ∧ mSame (fun k i => hsX k i ∨ (k = k0 ∧ i = i0)) S S2) → mHold mLP E S2 H → va_S A s.heap H locs → lv_has ls 3 [(0, .ref (mAdC E 1 0)), (1, .ref (mAdC E k0 i0)), (2, .int (nI t))] → W p l e (headSpec (Cond.code yX1_finish cX1_finish 3 none :: mv_ws) (mRm 2 47)).room s m ([.ref (mAdC E 1 0), .ref (mAdC E k0 i0)] : List Value).toArray below meth c H locs 0 0 (MQ below (mQ mLP E A (fun S' => (∀ j, j < 32 → S'.2.1 k0 i0 j = shaL xs j) ∧ mSame (fun k i => hsX k i ∨ (k = k0 ∧ i = i0)) S S') none) ([.ref (mAdC E 1 0), .ref (mAdC E k0 i0)] : List Value).toArray s 0 0 A) (F0 m 51 ls []) := by
          intro n
          induction n with
          | zero => intro t S2 H locs ls  hn2 ht hin2 hH hS hl; omega
          | succ n ih =>
            intro t S2 H locs ls  hn2 ht hin2 hH hS hl
            refine lv_iload_n hx hb dX1_finish_51 rfl (lv_at hl 2 rfl) ?_
            refine lv_aload_n hx hb dX1_finish_52 rfl (lv_at hl 0 rfl) ?_
            refine gp_X1_sum Cx hG hH q_fl_X1_20 dX1_finish_53 ?_
            refine mv_ilen Cx hG hH isP_4 dX1_finish_56 ?_
            refine lv_icmp_ge (tgt := 129) hx hb dX1_finish_57 (by decide) (fun h57 => ?_) (fun h57 => ?_)
            · skip
              have ht8 : t = 8 := by have := ge_of (a := 8) (by decide) (by omega) h57; omega
              exact mv_retv Cx hr hH hS (⟨fun j hj => hin2.1 j (by omega), hin2.2.2⟩) dX1_finish_129 hlocks
            · skip
              have ht8 : t < 8 := lt_of (a := 8) (by decide) (by omega) h57
              refine lv_aload_n hx hb dX1_finish_60 rfl (lv_at hl 1 rfl) ?_
              refine lv_iconst (v := 4) hx hb dX1_finish_61 (by decide) ?_
              refine lv_iload_n hx hb dX1_finish_62 rfl (lv_at hl 2 rfl) ?_
              refine lv_imul hx hb dX1_finish_63 ?_
              refine mv_eqi (x' := nI (4 * t)) (pk_mul 4 t) ?_
              refine lv_aload_n hx hb dX1_finish_64 rfl (lv_at hl 0 rfl) ?_
              refine gp_X1_sum Cx hG hH q_fl_X1_20 dX1_finish_65 ?_
              refine lv_iload_n hx hb dX1_finish_68 rfl (lv_at hl 2 rfl) ?_
              refine mv_ial Cx hG hH isP_4 t (rfl) (ht8) dX1_finish_69 ?_
              refine lv_bipush (v := 24) hx hb dX1_finish_70 (by decide) ?_
              refine lv_iushr hx hb dX1_finish_72 rfl ?_
              refine lv_i2b hx hb dX1_finish_73 rfl ?_
              refine mv_bas8 Cx hG hO hH hS hB (4 * t) ((((S2.1 4 0 t).toUInt32 >>> ((24 : Int32).toUInt32 &&& Int32.toUInt32 31)).toInt32).toInt8) rfl (rfl) (by omega) dX1_finish_74 (fun H locs hH hS => ?_)
              refine lv_aload_n hx hb dX1_finish_75 rfl (lv_at hl 1 rfl) ?_
              refine lv_iconst (v := 4) hx hb dX1_finish_76 (by decide) ?_
              refine lv_iload_n hx hb dX1_finish_77 rfl (lv_at hl 2 rfl) ?_
              refine lv_imul hx hb dX1_finish_78 ?_
              refine mv_eqi (x' := nI (4 * t)) (pk_mul 4 t) ?_
              refine lv_iconst (v := 1) hx hb dX1_finish_79 (by decide) ?_
              refine lv_iadd hx hb dX1_finish_80 ?_
              refine mv_eqi (x' := nI (4 * t + 1)) (nI_add (4 * t) 1) ?_
              refine lv_aload_n hx hb dX1_finish_81 rfl (lv_at hl 0 rfl) ?_
              refine gp_X1_sum Cx hG hH q_fl_X1_20 dX1_finish_82 ?_
              refine lv_iload_n hx hb dX1_finish_85 rfl (lv_at hl 2 rfl) ?_
              refine mv_ial Cx hG hH isP_4 t (rfl) (ht8) dX1_finish_86 ?_
              refine mv_eqi (x' := S2.1 4 0 t) (rfl) ?_
              refine lv_bipush (v := 16) hx hb dX1_finish_87 (by decide) ?_
              refine lv_iushr hx hb dX1_finish_89 rfl ?_
              refine lv_i2b hx hb dX1_finish_90 rfl ?_
              refine mv_bas8 Cx hG hO hH hS hB (4 * t + 1) ((((S2.1 4 0 t).toUInt32 >>> ((16 : Int32).toUInt32 &&& Int32.toUInt32 31)).toInt32).toInt8) rfl (rfl) (by omega) dX1_finish_91 (fun H locs hH hS => ?_)
              refine lv_aload_n hx hb dX1_finish_92 rfl (lv_at hl 1 rfl) ?_
              refine lv_iconst (v := 4) hx hb dX1_finish_93 (by decide) ?_
              refine lv_iload_n hx hb dX1_finish_94 rfl (lv_at hl 2 rfl) ?_
              refine lv_imul hx hb dX1_finish_95 ?_
              refine mv_eqi (x' := nI (4 * t)) (pk_mul 4 t) ?_
              refine lv_iconst (v := 2) hx hb dX1_finish_96 (by decide) ?_
              refine lv_iadd hx hb dX1_finish_97 ?_
              refine mv_eqi (x' := nI (4 * t + 2)) (nI_add (4 * t) 2) ?_
              refine lv_aload_n hx hb dX1_finish_98 rfl (lv_at hl 0 rfl) ?_
              refine gp_X1_sum Cx hG hH q_fl_X1_20 dX1_finish_99 ?_
              refine lv_iload_n hx hb dX1_finish_102 rfl (lv_at hl 2 rfl) ?_
              refine mv_ial Cx hG hH isP_4 t (rfl) (ht8) dX1_finish_103 ?_
              refine mv_eqi (x' := S2.1 4 0 t) (rfl) ?_
              refine lv_bipush (v := 8) hx hb dX1_finish_104 (by decide) ?_
              refine lv_iushr hx hb dX1_finish_106 rfl ?_
              refine lv_i2b hx hb dX1_finish_107 rfl ?_
              refine mv_bas8 Cx hG hO hH hS hB (4 * t + 2) ((((S2.1 4 0 t).toUInt32 >>> ((8 : Int32).toUInt32 &&& Int32.toUInt32 31)).toInt32).toInt8) rfl (rfl) (by omega) dX1_finish_108 (fun H locs hH hS => ?_)
              refine lv_aload_n hx hb dX1_finish_109 rfl (lv_at hl 1 rfl) ?_
              refine lv_iconst (v := 4) hx hb dX1_finish_110 (by decide) ?_
              refine lv_iload_n hx hb dX1_finish_111 rfl (lv_at hl 2 rfl) ?_
              refine lv_imul hx hb dX1_finish_112 ?_
              refine mv_eqi (x' := nI (4 * t)) (pk_mul 4 t) ?_
              refine lv_iconst (v := 3) hx hb dX1_finish_113 (by decide) ?_
              refine lv_iadd hx hb dX1_finish_114 ?_
              refine mv_eqi (x' := nI (4 * t + 3)) (nI_add (4 * t) 3) ?_
              refine lv_aload_n hx hb dX1_finish_115 rfl (lv_at hl 0 rfl) ?_
              refine gp_X1_sum Cx hG hH q_fl_X1_20 dX1_finish_116 ?_
              refine lv_iload_n hx hb dX1_finish_119 rfl (lv_at hl 2 rfl) ?_
              refine mv_ial Cx hG hH isP_4 t (rfl) (ht8) dX1_finish_120 ?_
              refine mv_eqi (x' := S2.1 4 0 t) (rfl) ?_
              refine lv_i2b hx hb dX1_finish_121 rfl ?_
              refine mv_bas8 Cx hG hO hH hS hB (4 * t + 3) ((S2.1 4 0 t).toInt8) rfl (rfl) (by omega) dX1_finish_122 (fun H locs hH hS => ?_)
              refine lv_iinc (v := nI (t + 1)) (lv' := [(2, .int (nI (t + 1))), (0, .ref (mAdC E 1 0)), (1, .ref (mAdC E k0 i0))]) hx hb dX1_finish_123 hl (k := 2) rfl (i2_1 t) (by decide) rfl (fun ls hl => ?_)
              refine lv_goto (tgt := 51) hx hb dX1_finish_126 (by decide) ?_
              exact ih (t + 1) (mB (mB (mB (mB S2 k0 i0 (4 * t) ((((S2.1 4 0 t).toUInt32 >>> ((24 : Int32).toUInt32 &&& Int32.toUInt32 31)).toInt32).toInt8)) k0 i0 (4 * t + 1) ((((S2.1 4 0 t).toUInt32 >>> ((16 : Int32).toUInt32 &&& Int32.toUInt32 31)).toInt32).toInt8)) k0 i0 (4 * t + 2) ((((S2.1 4 0 t).toUInt32 >>> ((8 : Int32).toUInt32 &&& Int32.toUInt32 31)).toInt32).toInt8)) k0 i0 (4 * t + 3) ((S2.1 4 0 t).toInt8)) _ _ ls  (by omega) (by omega) (⟨shaOut_fill (hin2.2.1 t (by omega)) hin2.1, fun j hj => hin2.2.1 j hj, hin2.2.2.tr ((((mSame.B (Or.inr ⟨rfl, rfl⟩)).tr (mSame.B (Or.inr ⟨rfl, rfl⟩))).tr (mSame.B (Or.inr ⟨rfl, rfl⟩))).tr (mSame.B (Or.inr ⟨rfl, rfl⟩)))⟩) hH hS (lv_sub hl [1, 2, 0] rfl)
        exact lp2 (8 - 0 + 1) 0 S1 _ _ ls  (by omega) (by omega) (⟨fun j hj => absurd hj (by omega), by rw [hb2] at hinv; exact hinv.1, hinv.2.2.wk (fun _ _ h => Or.inl h)⟩) hH hS (lv_sub hl [1, 2, 0] rfl)
      · skip
        have hb2 : b < ((padL xs).length / 64) := by have := lt_of (a := (padL xs).length) (by omega) (by omega) h31; omega
        refine lv_aload_n hx hb dX1_finish_34 rfl (lv_at hl 0 rfl) ?_
        refine lv_iload_n hx hb dX1_finish_35 rfl (lv_at hl 2 rfl) ?_
        refine mv_callV (Y := mLP) (C := RX1) (k := 1) (i := 0) (rest := []) Cx hG hH hS (d_X1_spreadBlock l E A hO S1 (64 * b) (by omega)) q_co_X1_spreadBlock q_ml_X1_58 q_im_X1_spreadBlock q_se_X1_spreadBlock q_in_X1 okP_1 rfl rfl hd_X1_spreadBlock ⟨Nat.le_of_ble_eq_true rfl, Nat.le_of_ble_eq_true rfl⟩ rfl hl.1 rfl (Nat.le_of_ble_eq_true rfl) ⟨Nat.le_of_ble_eq_true rfl, Nat.le_of_ble_eq_true rfl⟩ dX1_finish_36 (fun S36 H locs hP36 hH hS => ?_)
        refine W.eq (g2 := F0 m 39 ls []) rfl ?_
        refine lv_aload_n hx hb dX1_finish_39 rfl (lv_at hl 0 rfl) ?_
        refine mv_callV (Y := mLP) (C := RX1) (k := 1) (i := 0) (rest := []) Cx hG hH hS (d_X1_mixBlock l E A hO S36) q_co_X1_mixBlock q_ml_X1_61 q_im_X1_mixBlock q_se_X1_mixBlock q_in_X1 okP_1 rfl rfl hd_X1_mixBlock ⟨Nat.le_of_ble_eq_true rfl, Nat.le_of_ble_eq_true rfl⟩ rfl hl.1 rfl (Nat.le_of_ble_eq_true rfl) ⟨Nat.le_of_ble_eq_true rfl, Nat.le_of_ble_eq_true rfl⟩ dX1_finish_40 (fun S40 H locs hP40 hH hS => ?_)
        refine W.eq (g2 := F0 m 43 ls []) rfl ?_
        refine lv_iinc (v := nI (64 * (b + 1))) (lv' := [(2, .int (nI (64 * (b + 1)))), (0, .ref (mAdC E 1 0)), (1, .ref (mAdC E k0 i0))]) hx hb dX1_finish_43 hl (k := 2) rfl (by rw [show Int32.ofInt 64 = nI 64 from rfl, nI_add]; rfl) (by decide) rfl (fun ls hl => ?_)
        refine lv_goto (tgt := 23) hx hb dX1_finish_46 (by decide) ?_
        exact ih (b + 1) S40 _ _ ls  (by omega) (by omega) (⟨shaN_step (f := S1.2.1 3 2) (h := fun q => S36.1 4 0 q) (w := fun q => S36.1 5 0 q) (fun j hj => ((hP36.2 4 0 (by decide)).1 j).trans (hinv.1 j hj)) (fun j hj => hP36.1 j (by omega)) (fun j h1 h2 => hinv.2.1.2.2 j (by omega)) hP40.1, (hinv.2.1.keep (X := fun k _ => k = 4 ∨ k = 5) ((hP36.2.wk (fun _ _ h => Or.inr h)).tr (hP40.2.wk (fun _ _ h => Or.inl h))) (by decide) (by decide)), (hinv.2.2.tr (hP36.2.wk (fun _ _ h => Or.inr (Or.inr h)))).tr (hP40.2.wk (fun _ _ h => Or.inr (Or.inl h)))⟩) hH hS (lv_sub hl [1, 2, 0] rfl)
  exact lp (((padL xs).length / 64) - 0 + 1) 0 (mAM Sp 4 0 (va_cpy mI (Sp.1 4 0) 0 0 8)) _ _ ls  (by omega) (by omega) (⟨fun j hj => (show mA Sp.1 4 0 (va_cpy mI (Sp.1 4 0) 0 0 8) 4 0 j = mI j by rw [mA, if_pos ⟨rfl, rfl⟩]; exact mW_cpy8 hj), hP1.1.keep (X := fun k _ => k = 4) (mSame.AM rfl) (by decide) (by decide), (hP1.2.wk (fun _ _ h => Or.inl h)).tr (mSame.AM (Or.inr (Or.inl rfl)))⟩) hH hS (lv_sub hl [1, 2, 0] rfl)

