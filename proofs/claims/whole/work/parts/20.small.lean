/-! ===== small methods: equal rows, fill, registers, sessions ===== -/
theorem i8inj {a b : Int8} (h : a.toInt32 = b.toInt32) : a = b := by
  have := congrArg Int32.toInt8 h
  rwa [Int8.toInt8_toInt32, Int8.toInt8_toInt32] at this
def mEq (f g : Nat → Int8) (a : Nat) : Bool := (List.range 32).all (fun j => f j == g (a + j))
theorem mEq_iff {f g : Nat → Int8} {a : Nat} : mEq f g a = true ↔ ∀ j, j < 32 → f j = g (a + j) := by
  simp [mEq]
/-- cells of which nothing is kept from call to call -/
def scX : Nat → Nat → Prop := fun k i => hsX k i ∨ k = 6 ∨ k = 9 ∨ k = 10 ∨ k = 14 ∨ k = 17
def regL (f : Nat → Int8) (set : Int32) (n : Nat) : List Int8 := (List.range n).flatMap (fun r => if (mU set (nI r) &&& 1) = 0 then [] else mTk (fun j => f (32 * r + j)) 32)
theorem regL_succ (f : Nat → Int8) (set : Int32) (n : Nat) : regL f set (n + 1) = regL f set n ++ (if (mU set (nI n) &&& 1) = 0 then [] else mTk (fun j => f (32 * n + j)) 32) := by
  simp [regL, List.range_succ, List.flatMap_append]
theorem regL_len (f : Nat → Int8) (set : Int32) : ∀ n, (regL f set n).length ≤ 32 * n
  | 0 => by simp [regL]
  | n + 1 => by
    rw [regL_succ, List.length_append]
    have := regL_len f set n
    split
    · simp; omega
    · rw [mTk_len]; omega
theorem sc_bX {k i : Nat} (h : bX 2 k i) : scX k i := Or.inl (Or.inl h)
theorem sc_hs {k i : Nat} (h : hsX k i) : scX k i := Or.inl h
theorem sc_17 {i : Nat} : scX 17 i := Or.inr (Or.inr (Or.inr (Or.inr (Or.inr rfl))))
theorem cpy_in0 {f g : Nat → Int8} {sp n j : Nat} (h : j < n) : va_cpy f g sp 0 n j = f (sp + j) := by rw [pk_cpy_in (by omega) (by omega)]; simp
theorem mAB_in {S : mSt} {k i : Nat} {g : Nat → Int8} {j : Nat} : (mAB S k i g).2.1 k i j = g j := by simp [mAB, mA]
set_option maxHeartbeats 4000000 in
set_option maxRecDepth 100000 in
theorem c_J7_fill_031fb (l : Launch) (E : mEv) (A : Nat → Prop) (hO : mOwn mLC E A) (S : mSt) (k0 i0 n0 : Nat) (hB : mIsB mLC k0 i0 n0) (x : Int32) : Met l yJ7_fill_031fb (Cond.code yJ7_fill_031fb cJ7_fill_031fb 4 none :: mv_ws) (mRm 0 0) (mPc mLC E A S [.ref (mAdC E k0 i0), .int x]) (mQ mLC E A (fun S' => (∀ q, q < n0 → S'.2.1 k0 i0 q = x.toInt8) ∧ mSame (fun k i => k = k0 ∧ i = i0) S S') none) 0 0 A := by
  refine va_MetF (cc := cJ7_fill_031fb) (maxL := 4) (ret := none) (by decide +kernel) rfl ?_
  intro p e s m args below meth c s₁ B hml hv
  obtain ⟨rfl, hG, hH⟩ := hv
  have hx := B.exec
  have hb := B.bytes
  have hr := B.returns
  have hlocks := B.notSynchronized
  have Cx : CallFix p m c cJ7_fill_031fb 4 s ([.ref (mAdC E k0 i0), .int x] : List Value).toArray (Cond.code yJ7_fill_031fb cJ7_fill_031fb 4 none :: mv_ws) RJ7 := ⟨hx, hb, hml, findClass_of_methodNamed B.named, atoms_spec (ws := Cond.code yJ7_fill_031fb cJ7_fill_031fb 4 none :: mv_ws) B.pre⟩
  have hS : va_S A s.heap s.heap [] := va_S.rf
  have hn0 := hB.2.1
  have hl := lv_entry ([.ref (mAdC E k0 i0), .int x]) (n := 4) (Nat.le_of_ble_eq_true rfl)
  rw [lg_entry_eq]
  generalize (lg_sl ([.ref (mAdC E k0 i0), .int x]) ++ List.replicate (4 - (lg_sl ([.ref (mAdC E k0 i0), .int x])).length) Slot.unset).toArray = ls at hl ⊢
  have hl : lv_has ls 4 [(0, .ref (mAdC E k0 i0)), (1, .int x)] := hl
  refine lv_iconst (v := 0) hx hb dJ7_fill_031fb_0 (by decide) ?_
  refine mv_eqi (x' := nI 0) (rfl) ?_
  refine lv_istore_n (lv' := [(2, .int (nI 0)), (0, .ref (mAdC E k0 i0)), (1, .int x)]) hx hb dJ7_fill_031fb_1 rfl hl (by decide) rfl (fun ls hl => ?_)
  refine lv_aload_n hx hb dJ7_fill_031fb_2 rfl (lv_at hl 1 rfl) ?_
  refine mv_blen Cx hG hH hB dJ7_fill_031fb_3 ?_
  refine lv_istore_n (lv' := [(3, .int (nI n0)), (2, .int (nI 0)), (0, .ref (mAdC E k0 i0)), (1, .int x)]) hx hb dJ7_fill_031fb_4 rfl hl (by decide) rfl (fun ls hl => ?_)
  have lp : ∀ (n j : Nat) (S1 : mSt) (H : Heap) (locs : List Loc) (ls : Array Slot) , n0 - j < n → j ≤ n0 → ((∀ q, q < j → S1.2.1 k0 i0 q = x.toInt8) ∧ mSame (fun k i => k = k0 ∧ i = i0) S S1) → mHold mLC E S1 H → va_S A s.heap H locs → lv_has ls 4 [(0, .ref (mAdC E k0 i0)), (1, .int x), (2, .int (nI j)), (3, .int (nI n0))] → W p l e (headSpec (Cond.code yJ7_fill_031fb cJ7_fill_031fb 4 none :: mv_ws) (mRm 0 0)).room s m ([.ref (mAdC E k0 i0), .int x] : List Value).toArray below meth c H locs 0 0 (MQ below (mQ mLC E A (fun S' => (∀ q, q < n0 → S'.2.1 k0 i0 q = x.toInt8) ∧ mSame (fun k i => k = k0 ∧ i = i0) S S') none) ([.ref (mAdC E k0 i0), .int x] : List Value).toArray s 0 0 A) (F0 m 5 ls []) := by
    intro n
    induction n with
    | zero => intro j S1 H locs ls  hn hj hinv hH hS hl; omega
    | succ n ih =>
      intro j S1 H locs ls  hn hj hinv hH hS hl
      refine lv_iload_n hx hb dJ7_fill_031fb_5 rfl (lv_at hl 2 rfl) ?_
      refine lv_iload_n hx hb dJ7_fill_031fb_6 rfl (lv_at hl 3 rfl) ?_
      refine lv_icmp_ge (tgt := 20) hx hb dJ7_fill_031fb_7 (by decide) (fun h7 => ?_) (fun h7 => ?_)
      · skip
        have hjn : j = n0 := by have := ge_of (a := n0) (by omega) (by omega) h7; omega
        exact mv_retv Cx hr hH hS (by subst hjn; exact hinv) dJ7_fill_031fb_20 hlocks
      · skip
        have hjn : j < n0 := lt_of (a := n0) (by omega) (by omega) h7
        refine lv_aload_n hx hb dJ7_fill_031fb_10 rfl (lv_at hl 0 rfl) ?_
        refine lv_iload_n hx hb dJ7_fill_031fb_11 rfl (lv_at hl 2 rfl) ?_
        refine lv_iload_n hx hb dJ7_fill_031fb_12 rfl (lv_at hl 1 rfl) ?_
        refine mv_bas Cx hG hO hH hS hB j (rfl) (hjn) dJ7_fill_031fb_13 (fun H locs hH hS => ?_)
        refine lv_iinc (v := nI (j + 1)) (lv' := [(2, .int (nI (j + 1))), (0, .ref (mAdC E k0 i0)), (1, .int x), (3, .int (nI n0))]) hx hb dJ7_fill_031fb_14 hl (k := 2) rfl (i2_1 j) (by decide) rfl (fun ls hl => ?_)
        refine lv_goto (tgt := 5) hx hb dJ7_fill_031fb_17 (by decide) ?_
        exact ih (j + 1) (mB S1 k0 i0 j x.toInt8) _ _ ls  (by omega) (by omega) (⟨fun q hq => by by_cases e : q = j; (subst e; simp [mB, m3]); (simp only [mB, m3, e, and_false, if_false]; exact hinv.1 q (by omega)), hinv.2.tr (mSame.B ⟨rfl, rfl⟩)⟩) hH hS (lv_sub hl [1, 2, 0, 3] rfl)
  exact lp (n0 - 0 + 1) 0 S _ _ ls  (by omega) (by omega) (⟨fun q h => absurd h (Nat.not_lt_zero _), mSame.rf⟩) hH hS (lv_sub hl [2, 3, 1, 0] rfl)

set_option maxHeartbeats 4000000 in
set_option maxRecDepth 100000 in
theorem c_X7_sameBytes (l : Launch) (E : mEv) (A : Nat → Prop) (hO : mOwn mLC E A) (S : mSt) (k0 i0 : Nat) (hB : mIsB mLC k0 i0 32) (k1 i1 n1 : Nat) (hB1 : mIsB mLC k1 i1 n1) (a : Nat) (ha : a + 32 ≤ n1) : Met l yX7_sameBytes (Cond.code yX7_sameBytes cX7_sameBytes 4 (some .boolean) :: mv_ws) (mRm 0 0) (mPc mLC E A S [.ref (mAdC E k0 i0), .ref (mAdC E k1 i1), .int (nI a)]) (mQ mLC E A (fun S' => S' = S) (some (.int (if mEq (S.2.1 k0 i0) (S.2.1 k1 i1) a = true then 1 else 0)))) 0 0 A := by
  refine Met.ofW (cc := cX7_sameBytes) (maxL := 4) (ret := (some .boolean)) (by decide) rfl ?_
  intro p e s m args below meth c s₁ B hml hv
  obtain ⟨rfl, hG, hH⟩ := hv
  have hx := B.exec
  have hb := B.bytes
  have hr := B.returns
  have hlocks := B.notSynchronized
  have Cx : CallFix p m c cX7_sameBytes 4 s ([.ref (mAdC E k0 i0), .ref (mAdC E k1 i1), .int (nI a)] : List Value).toArray (Cond.code yX7_sameBytes cX7_sameBytes 4 (some .boolean) :: mv_ws) RX7 := ⟨hx, hb, hml, findClass_of_methodNamed B.named, atoms_spec (ws := Cond.code yX7_sameBytes cX7_sameBytes 4 (some .boolean) :: mv_ws) B.pre⟩
  have hS : va_S A s.heap s.heap [] := va_S.rf
  have hn1 := hB1.2.1
  have hl := lv_entry ([.ref (mAdC E k0 i0), .ref (mAdC E k1 i1), .int (nI a)]) (n := 4) (Nat.le_of_ble_eq_true rfl)
  rw [lg_entry_eq]
  generalize (lg_sl ([.ref (mAdC E k0 i0), .ref (mAdC E k1 i1), .int (nI a)]) ++ List.replicate (4 - (lg_sl ([.ref (mAdC E k0 i0), .ref (mAdC E k1 i1), .int (nI a)])).length) Slot.unset).toArray = ls at hl ⊢
  have hl : lv_has ls 4 [(0, .ref (mAdC E k0 i0)), (1, .ref (mAdC E k1 i1)), (2, .int (nI a))] := hl
  refine lv_iconst (v := 0) hx hb dX7_sameBytes_0 (by decide) ?_
  refine mv_eqi (x' := nI 0) (rfl) ?_
  refine lv_istore_n (lv' := [(3, .int (nI 0)), (0, .ref (mAdC E k0 i0)), (1, .ref (mAdC E k1 i1)), (2, .int (nI a))]) hx hb dX7_sameBytes_1 rfl hl (by decide) rfl (fun ls hl => ?_)
  have lp : ∀ (n j : Nat) (S1 : mSt) (H : Heap) (locs : List Loc) (ls : Array Slot) , 32 - j < n → j ≤ 32 → (S1 = S ∧ ∀ q, q < j → S.2.1 k0 i0 q = S.2.1 k1 i1 (a + q)) → mHold mLC E S1 H → va_S A s.heap H locs → lv_has ls 4 [(0, .ref (mAdC E k0 i0)), (1, .ref (mAdC E k1 i1)), (2, .int (nI a)), (3, .int (nI j))] → W p l e (headSpec (Cond.code yX7_sameBytes cX7_sameBytes 4 (some .boolean) :: mv_ws) (mRm 0 0)).room s m ([.ref (mAdC E k0 i0), .ref (mAdC E k1 i1), .int (nI a)] : List Value).toArray below meth c H locs 0 0 (MQ below (mQ mLC E A (fun S' => S' = S) (some (.int (if mEq (S.2.1 k0 i0) (S.2.1 k1 i1) a = true then 1 else 0)))) ([.ref (mAdC E k0 i0), .ref (mAdC E k1 i1), .int (nI a)] : List Value).toArray s 0 0 A) (F0 m 2 ls []) := by
    intro n
    induction n with
    | zero => intro j S1 H locs ls  hn hj hinv hH hS hl; omega
    | succ n ih =>
      intro j S1 H locs ls  hn hj hinv hH hS hl
      have hH := mv_S hinv.1 hH
      refine lv_iload_n hx hb dX7_sameBytes_2 rfl (lv_at hl 3 rfl) ?_
      refine lv_bipush (v := 32) hx hb dX7_sameBytes_3 (by decide) ?_
      refine lv_icmp_ge (tgt := 27) hx hb dX7_sameBytes_5 (by decide) (fun h5 => ?_) (fun h5 => ?_)
      · skip
        have hj32 : j = 32 := by have := ge_of (a := 32) (by decide) (by omega) h5; omega
        refine lv_iconst (v := 1) hx hb dX7_sameBytes_27 (by decide) ?_
        exact mv_retz Cx hr hH hS (Or.inr rfl) ((if_pos (mEq_iff.mpr (fun q hq => hinv.2 q (by omega)))).symm) (rfl) dX7_sameBytes_28 hlocks
      · skip
        have hj32 : j < 32 := lt_of (a := 32) (by decide) (by omega) h5
        refine lv_aload_n hx hb dX7_sameBytes_8 rfl (lv_at hl 0 rfl) ?_
        refine lv_iload_n hx hb dX7_sameBytes_9 rfl (lv_at hl 3 rfl) ?_
        refine mv_bal Cx hG hH hB j (rfl) (hj32) dX7_sameBytes_10 ?_
        refine lv_aload_n hx hb dX7_sameBytes_11 rfl (lv_at hl 1 rfl) ?_
        refine lv_iload_n hx hb dX7_sameBytes_12 rfl (lv_at hl 2 rfl) ?_
        refine lv_iload_n hx hb dX7_sameBytes_13 rfl (lv_at hl 3 rfl) ?_
        refine lv_iadd hx hb dX7_sameBytes_14 ?_
        refine mv_bal Cx hG hH hB1 (a + j) (nI_add a j) (by omega) dX7_sameBytes_15 ?_
        refine lv_icmp_eq (tgt := 21) hx hb dX7_sameBytes_16 (by decide) (fun h16 => ?_) (fun h16 => ?_)
        · skip
          refine lv_iinc (v := nI (j + 1)) (lv' := [(3, .int (nI (j + 1))), (0, .ref (mAdC E k0 i0)), (1, .ref (mAdC E k1 i1)), (2, .int (nI a))]) hx hb dX7_sameBytes_21 hl (k := 3) rfl (i2_1 j) (by decide) rfl (fun ls hl => ?_)
          refine lv_goto (tgt := 2) hx hb dX7_sameBytes_24 (by decide) ?_
          exact ih (j + 1) S _ _ ls  (by omega) (by omega) (⟨rfl, fun q hq => by by_cases e : q = j; (subst e; exact i8inj h16); (exact hinv.2 q (by omega))⟩) hH hS (lv_sub hl [1, 2, 3, 0] rfl)
        · skip
          refine lv_iconst (v := 0) hx hb dX7_sameBytes_19 (by decide) ?_
          exact mv_retz Cx hr hH hS (Or.inl rfl) ((if_neg (fun h => h16 (congrArg Int8.toInt32 (mEq_iff.mp h j hj32)))).symm) (rfl) dX7_sameBytes_20 hlocks
  exact lp (32 - 0 + 1) 0 S _ _ ls  (by omega) (by omega) (⟨rfl, fun q h => absurd h (Nat.not_lt_zero _)⟩) hH hS (lv_sub hl [1, 2, 3, 0] rfl)

set_option maxHeartbeats 4000000 in
set_option maxRecDepth 100000 in
theorem c_X7_sameDigest (l : Launch) (E : mEv) (A : Nat → Prop) (hO : mOwn mLC E A) (S : mSt) (k0 i0 : Nat) (hB : mIsB mLC k0 i0 32) (k1 i1 : Nat) (hB1 : mIsB mLC k1 i1 32) : Met l yX7_sameDigest (Cond.code yX7_sameDigest cX7_sameDigest 2 (some .boolean) :: mv_ws) (mRm 1 23) (mPc mLC E A S [.ref (mAdC E k0 i0), .ref (mAdC E k1 i1)]) (mQ mLC E A (fun S' => S' = S) (some (.int (if mEq (S.2.1 k0 i0) (S.2.1 k1 i1) 0 = true then 1 else 0)))) 0 0 A := by
  refine Met.ofW (cc := cX7_sameDigest) (maxL := 2) (ret := (some .boolean)) (by decide) rfl ?_
  intro p e s m args below meth c s₁ B hml hv
  obtain ⟨rfl, hG, hH⟩ := hv
  have hx := B.exec
  have hb := B.bytes
  have hr := B.returns
  have hlocks := B.notSynchronized
  have Cx : CallFix p m c cX7_sameDigest 2 s ([.ref (mAdC E k0 i0), .ref (mAdC E k1 i1)] : List Value).toArray (Cond.code yX7_sameDigest cX7_sameDigest 2 (some .boolean) :: mv_ws) RX7 := ⟨hx, hb, hml, findClass_of_methodNamed B.named, atoms_spec (ws := Cond.code yX7_sameDigest cX7_sameDigest 2 (some .boolean) :: mv_ws) B.pre⟩
  have hS : va_S A s.heap s.heap [] := va_S.rf
  have hl := lv_entry ([.ref (mAdC E k0 i0), .ref (mAdC E k1 i1)]) (n := 2) (Nat.le_of_ble_eq_true rfl)
  rw [lg_entry_eq]
  generalize (lg_sl ([.ref (mAdC E k0 i0), .ref (mAdC E k1 i1)]) ++ List.replicate (2 - (lg_sl ([.ref (mAdC E k0 i0), .ref (mAdC E k1 i1)])).length) Slot.unset).toArray = ls at hl ⊢
  have hl : lv_has ls 2 [(0, .ref (mAdC E k0 i0)), (1, .ref (mAdC E k1 i1))] := hl
  refine lv_aload_n hx hb dX7_sameDigest_0 rfl (lv_at hl 0 rfl) ?_
  refine lv_aload_n hx hb dX7_sameDigest_1 rfl (lv_at hl 1 rfl) ?_
  refine lv_iconst (v := 0) hx hb dX7_sameDigest_2 (by decide) ?_
  refine mv_callS (Y := mLC) (rest := []) Cx hG hH hS (c_X7_sameBytes l E A hO S k0 i0 hB k1 i1 32 hB1 0 (by decide)) q_co_X7_sameBytes q_ml_X7_305 q_st_X7_sameBytes q_in_X7 hd_X7_sameBytes ⟨Nat.le_of_ble_eq_true rfl, Nat.le_of_ble_eq_true rfl⟩ rfl hl.1 rfl (Nat.le_of_ble_eq_true rfl) ⟨Nat.le_of_ble_eq_true rfl, Nat.le_of_ble_eq_true rfl⟩ dX7_sameDigest_3 (fun S3 H locs hP3 hH hS => ?_)
  refine W.eq (g2 := F0 m 6 ls [.int (if mEq (S.2.1 k0 i0) (S.2.1 k1 i1) 0 = true then 1 else 0)]) rfl ?_
  have hH := mv_S hP3 hH
  exact mv_retz Cx hr hH hS (by split; exact Or.inr rfl; exact Or.inl rfl) (rfl) (rfl) dX7_sameDigest_6 hlocks

set_option maxHeartbeats 4000000 in
set_option maxRecDepth 100000 in
theorem c_X7_copyDigest (l : Launch) (E : mEv) (A : Nat → Prop) (hO : mOwn mLC E A) (S : mSt) (k0 i0 : Nat) (hB : mIsB mLC k0 i0 32) (k1 i1 : Nat) (hB1 : mIsB mLC k1 i1 32) : Met l yX7_copyDigest (Cond.code yX7_copyDigest cX7_copyDigest 2 none :: mv_ws) (mRm 1 30) (mPc mLC E A S [.ref (mAdC E k0 i0), .ref (mAdC E k1 i1)]) (mQ mLC E A (fun S' => (∀ j, j < 32 → S'.2.1 k1 i1 j = S.2.1 k0 i0 j) ∧ mSame (fun k i => k = k1 ∧ i = i1) S S') none) 0 0 A := by
  refine Met.ofW (cc := cX7_copyDigest) (maxL := 2) (ret := none) (by decide) rfl ?_
  intro p e s m args below meth c s₁ B hml hv
  obtain ⟨rfl, hG, hH⟩ := hv
  have hx := B.exec
  have hb := B.bytes
  have hr := B.returns
  have hlocks := B.notSynchronized
  have Cx : CallFix p m c cX7_copyDigest 2 s ([.ref (mAdC E k0 i0), .ref (mAdC E k1 i1)] : List Value).toArray (Cond.code yX7_copyDigest cX7_copyDigest 2 none :: mv_ws) RX7 := ⟨hx, hb, hml, findClass_of_methodNamed B.named, atoms_spec (ws := Cond.code yX7_copyDigest cX7_copyDigest 2 none :: mv_ws) B.pre⟩
  have hS : va_S A s.heap s.heap [] := va_S.rf
  have hl := lv_entry ([.ref (mAdC E k0 i0), .ref (mAdC E k1 i1)]) (n := 2) (Nat.le_of_ble_eq_true rfl)
  rw [lg_entry_eq]
  generalize (lg_sl ([.ref (mAdC E k0 i0), .ref (mAdC E k1 i1)]) ++ List.replicate (2 - (lg_sl ([.ref (mAdC E k0 i0), .ref (mAdC E k1 i1)])).length) Slot.unset).toArray = ls at hl ⊢
  have hl : lv_has ls 2 [(0, .ref (mAdC E k0 i0)), (1, .ref (mAdC E k1 i1))] := hl
  refine lv_aload_n hx hb dX7_copyDigest_0 rfl (lv_at hl 0 rfl) ?_
  refine lv_iconst (v := 0) hx hb dX7_copyDigest_1 (by decide) ?_
  refine lv_aload_n hx hb dX7_copyDigest_2 rfl (lv_at hl 1 rfl) ?_
  refine lv_iconst (v := 0) hx hb dX7_copyDigest_3 (by decide) ?_
  refine lv_bipush (v := 32) hx hb dX7_copyDigest_4 (by decide) ?_
  refine mv_cpb Cx hG hO hH hS hB hB1 0 0 32 (rfl) (rfl) (rfl) (by decide) (by decide) q_ml_X7_309 hl.1 (Nat.le_of_ble_eq_true rfl) (by decide) dX7_copyDigest_6 (fun H locs hH hS => ?_)
  exact mv_retv Cx hr hH hS (⟨fun j hj => mAB_in.trans ((cpy_in0 hj).trans (by rw [Nat.zero_add])), mSame.AB ⟨rfl, rfl⟩⟩) dX7_copyDigest_9 hlocks

set_option maxHeartbeats 4000000 in
set_option maxRecDepth 100000 in
theorem c_X2_zero (l : Launch) (E : mEv) (A : Nat → Prop) (hO : mOwn mLC E A) (S : mSt) (r : Nat) (hr8 : r < 8) : Met l yX2_zero (Cond.code yX2_zero cX2_zero 3 none :: mv_ws) (mRm 0 0) (mPc mLC E A S [.ref (mAdC E 15 0), .int (nI r)]) (mQ mLC E A (fun S' => (∀ q, q < 32 → S'.2.1 16 0 (32 * r + q) = (0 : Int32).toInt8) ∧ (∀ q, q < 32 * r ∨ 32 * r + 32 ≤ q → S'.2.1 16 0 q = S.2.1 16 0 q) ∧ S'.1 15 0 2 = S.1 15 0 2 + 1 ∧ mSame (fun k _ => k = 16 ∨ k = 15) S S') none) 0 0 A := by
  refine Met.ofW (cc := cX2_zero) (maxL := 3) (ret := none) (by decide) rfl ?_
  intro p e s m args below meth c s₁ B hml hv
  obtain ⟨rfl, hG, hH⟩ := hv
  have hx := B.exec
  have hb := B.bytes
  have hr := B.returns
  have hlocks := B.notSynchronized
  have Cx : CallFix p m c cX2_zero 3 s ([.ref (mAdC E 15 0), .int (nI r)] : List Value).toArray (Cond.code yX2_zero cX2_zero 3 none :: mv_ws) RX2 := ⟨hx, hb, hml, findClass_of_methodNamed B.named, atoms_spec (ws := Cond.code yX2_zero cX2_zero 3 none :: mv_ws) B.pre⟩
  have hS : va_S A s.heap s.heap [] := va_S.rf
  have hl := lv_entry ([.ref (mAdC E 15 0), .int (nI r)]) (n := 3) (Nat.le_of_ble_eq_true rfl)
  rw [lg_entry_eq]
  generalize (lg_sl ([.ref (mAdC E 15 0), .int (nI r)]) ++ List.replicate (3 - (lg_sl ([.ref (mAdC E 15 0), .int (nI r)])).length) Slot.unset).toArray = ls at hl ⊢
  have hl : lv_has ls 3 [(0, .ref (mAdC E 15 0)), (1, .int (nI r))] := hl
  refine lv_iconst (v := 0) hx hb dX2_zero_0 (by decide) ?_
  refine mv_eqi (x' := nI 0) (rfl) ?_
  refine lv_istore_n (lv' := [(2, .int (nI 0)), (0, .ref (mAdC E 15 0)), (1, .int (nI r))]) hx hb dX2_zero_1 rfl hl (by decide) rfl (fun ls hl => ?_)
  have lp : ∀ (n j : Nat) (S1 : mSt) (H : Heap) (locs : List Loc) (ls : Array Slot) , 32 - j < n → j ≤ 32 → ((∀ q, q < j → S1.2.1 16 0 (32 * r + q) = (0 : Int32).toInt8) ∧ (∀ q, q < 32 * r ∨ 32 * r + j ≤ q → S1.2.1 16 0 q = S.2.1 16 0 q) ∧ mSame (fun k _ => k = 16) S S1) → mHold mLC E S1 H → va_S A s.heap H locs → lv_has ls 3 [(0, .ref (mAdC E 15 0)), (1, .int (nI r)), (2, .int (nI j))] → W p l e (headSpec (Cond.code yX2_zero cX2_zero 3 none :: mv_ws) (mRm 0 0)).room s m ([.ref (mAdC E 15 0), .int (nI r)] : List Value).toArray below meth c H locs 0 0 (MQ below (mQ mLC E A (fun S' => (∀ q, q < 32 → S'.2.1 16 0 (32 * r + q) = (0 : Int32).toInt8) ∧ (∀ q, q < 32 * r ∨ 32 * r + 32 ≤ q → S'.2.1 16 0 q = S.2.1 16 0 q) ∧ S'.1 15 0 2 = S.1 15 0 2 + 1 ∧ mSame (fun k _ => k = 16 ∨ k = 15) S S') none) ([.ref (mAdC E 15 0), .int (nI r)] : List Value).toArray s 0 0 A) (F0 m 2 ls []) := by
    intro n
    induction n with
    | zero => intro j S1 H locs ls  hn hj hinv hH hS hl; omega
    | succ n ih =>
      intro j S1 H locs ls  hn hj hinv hH hS hl
      refine lv_iload_n hx hb dX2_zero_2 rfl (lv_at hl 2 rfl) ?_
      refine lv_bipush (v := 32) hx hb dX2_zero_3 (by decide) ?_
      refine lv_icmp_ge (tgt := 26) hx hb dX2_zero_5 (by decide) (fun h5 => ?_) (fun h5 => ?_)
      · skip
        have hj32 : j = 32 := by have := ge_of (a := 32) (by decide) (by omega) h5; omega
        refine lv_aload_n hx hb dX2_zero_26 rfl (lv_at hl 0 rfl) ?_
        refine lv_dup hx hb dX2_zero_27 rfl ?_
        refine g_X2_changes Cx hG hH q_fl_X2_40 dX2_zero_28 ?_
        refine mv_eqi (x' := S.1 15 0 2) ((hinv.2.2 15 0 (by decide)).1 2) ?_
        refine lv_iconst (v := 1) hx hb dX2_zero_31 (by decide) ?_
        refine lv_iadd hx hb dX2_zero_32 ?_
        refine p_X2_changes Cx hG hO hH hS q_fl_X2_40 dX2_zero_33 (fun H locs hH hS => ?_)
        exact mv_retv Cx hr hH hS (⟨fun q hq => hinv.1 q (by omega), fun q hq => hinv.2.1 q (by omega), by simp [mM, m3], (hinv.2.2.wk (fun _ _ h => Or.inl h)).tr (mSame.M (Or.inr rfl))⟩) dX2_zero_36 hlocks
      · skip
        have hj32 : j < 32 := lt_of (a := 32) (by decide) (by omega) h5
        refine lv_aload_n hx hb dX2_zero_8 rfl (lv_at hl 0 rfl) ?_
        refine g_X2_row Cx hG hH q_fl_X2_11 dX2_zero_9 ?_
        refine lv_iload_n hx hb dX2_zero_12 rfl (lv_at hl 1 rfl) ?_
        refine lv_bipush (v := 32) hx hb dX2_zero_13 (by decide) ?_
        refine lv_imul hx hb dX2_zero_15 ?_
        refine lv_iload_n hx hb dX2_zero_16 rfl (lv_at hl 2 rfl) ?_
        refine lv_iadd hx hb dX2_zero_17 ?_
        refine mv_eqi (x' := nI (32 * r + j)) (by rw [show (32 : Int32) = nI 32 from rfl, pk_mul, nI_add, Nat.mul_comm]) ?_
        refine lv_iconst (v := 0) hx hb dX2_zero_18 (by decide) ?_
        refine mv_bas Cx hG hO hH hS isC_16 (32 * r + j) (rfl) (by omega) dX2_zero_19 (fun H locs hH hS => ?_)
        refine lv_iinc (v := nI (j + 1)) (lv' := [(2, .int (nI (j + 1))), (0, .ref (mAdC E 15 0)), (1, .int (nI r))]) hx hb dX2_zero_20 hl (k := 2) rfl (i2_1 j) (by decide) rfl (fun ls hl => ?_)
        refine lv_goto (tgt := 2) hx hb dX2_zero_23 (by decide) ?_
        exact ih (j + 1) (mB S1 16 0 (32 * r + j) (0 : Int32).toInt8) _ _ ls  (by omega) (by omega) (⟨fun q hq => by by_cases e : q = j; (subst e; simp [mB, m3]); (rw [← hinv.1 q (by omega)]; simp only [mB, m3]; rw [if_neg (by omega)]), fun q hq => by (rw [← hinv.2.1 q (by omega)]; simp only [mB, m3]; rw [if_neg (by omega)]), hinv.2.2.tr (mSame.B rfl)⟩) hH hS (lv_sub hl [1, 2, 0] rfl)
  exact lp (32 - 0 + 1) 0 S _ _ ls  (by omega) (by omega) (⟨fun q h => absurd h (Nat.not_lt_zero _), fun _ _ => rfl, mSame.rf⟩) hH hS (lv_sub hl [1, 2, 0] rfl)

set_option maxHeartbeats 4000000 in
set_option maxRecDepth 100000 in
theorem c_X2_mixIn (l : Launch) (E : mEv) (A : Nat → Prop) (hO : mOwn mLC E A) (S : mSt) (r : Nat) (hr8 : r < 8) (k0 i0 : Nat) (hB : mIsB mLC k0 i0 32) (hne : ¬ bX 2 k0 i0 ∧ ¬ k0 = 17) : Met l yX2_mixIn (Cond.code yX2_mixIn cX2_mixIn 5 none :: mv_ws) (mRm 3 69) (mPc mLC E A S [.ref (mAdC E 15 0), .int (nI r), .ref (mAdC E k0 i0), .ref (mAdC E 1 0)]) (mQ mLC E A (fun S' => (∀ j, j < 32 → S'.2.1 16 0 (32 * r + j) = shaL (mTk (fun j => S.2.1 16 0 (32 * r + j)) 32 ++ mTk (S.2.1 k0 i0) 32) j) ∧ (∀ q, q < 32 * r ∨ 32 * r + 32 ≤ q → S'.2.1 16 0 q = S.2.1 16 0 q) ∧ S'.1 15 0 2 = S.1 15 0 2 + 1 ∧ mSame (fun k i => scX k i ∨ k = 16 ∨ k = 15) S S') none) 0 0 A := by
  refine Met.ofW (cc := cX2_mixIn) (maxL := 5) (ret := none) (by decide) rfl ?_
  intro p e s m args below meth c s₁ B hml hv
  obtain ⟨rfl, hG, hH⟩ := hv
  have hx := B.exec
  have hb := B.bytes
  have hr := B.returns
  have hlocks := B.notSynchronized
  have Cx : CallFix p m c cX2_mixIn 5 s ([.ref (mAdC E 15 0), .int (nI r), .ref (mAdC E k0 i0), .ref (mAdC E 1 0)] : List Value).toArray (Cond.code yX2_mixIn cX2_mixIn 5 none :: mv_ws) RX2 := ⟨hx, hb, hml, findClass_of_methodNamed B.named, atoms_spec (ws := Cond.code yX2_mixIn cX2_mixIn 5 none :: mv_ws) B.pre⟩
  have hS : va_S A s.heap s.heap [] := va_S.rf
  have hl := lv_entry ([.ref (mAdC E 15 0), .int (nI r), .ref (mAdC E k0 i0), .ref (mAdC E 1 0)]) (n := 5) (Nat.le_of_ble_eq_true rfl)
  rw [lg_entry_eq]
  generalize (lg_sl ([.ref (mAdC E 15 0), .int (nI r), .ref (mAdC E k0 i0), .ref (mAdC E 1 0)]) ++ List.replicate (5 - (lg_sl ([.ref (mAdC E 15 0), .int (nI r), .ref (mAdC E k0 i0), .ref (mAdC E 1 0)])).length) Slot.unset).toArray = ls at hl ⊢
  have hl : lv_has ls 5 [(0, .ref (mAdC E 15 0)), (1, .int (nI r)), (2, .ref (mAdC E k0 i0)), (3, .ref (mAdC E 1 0))] := hl
  refine lv_aload_n hx hb dX2_mixIn_0 rfl (lv_at hl 0 rfl) ?_
  refine g_X2_row Cx hG hH q_fl_X2_11 dX2_mixIn_1 ?_
  refine lv_iload_n hx hb dX2_mixIn_4 rfl (lv_at hl 1 rfl) ?_
  refine lv_bipush (v := 32) hx hb dX2_mixIn_5 (by decide) ?_
  refine lv_imul hx hb dX2_mixIn_7 ?_
  refine lv_aload_n hx hb dX2_mixIn_8 rfl (lv_at hl 0 rfl) ?_
  refine g_X2_one Cx hG hH q_fl_X2_15 dX2_mixIn_9 ?_
  refine lv_iconst (v := 0) hx hb dX2_mixIn_12 (by decide) ?_
  refine lv_bipush (v := 32) hx hb dX2_mixIn_13 (by decide) ?_
  refine mv_cpb Cx hG hO hH hS isC_16 isC_17 (32 * r) 0 32 (by rw [show (32 : Int32) = nI 32 from rfl, pk_mul, Nat.mul_comm]) (rfl) (rfl) (by omega) (by decide) q_ml_X2_18 hl.1 (Nat.le_of_ble_eq_true rfl) (by decide) dX2_mixIn_15 (fun H locs hH hS => ?_)
  refine lv_aload_n hx hb dX2_mixIn_18 rfl (lv_at hl 3 rfl) ?_
  refine mv_callV (Y := mLC) (C := RX1) (k := 1) (i := 0) (rest := []) Cx hG hH hS (c_X1_begin l E A hO (mAB S 17 0 (va_cpy (S.2.1 16 0) (S.2.1 17 0) (32 * r) 0 32))) q_co_X1_begin q_ml_X2_24 q_im_X1_begin q_se_X1_begin q_in_X1 okC_1 rfl rfl hd_X1_begin ⟨Nat.le_of_ble_eq_true rfl, Nat.le_of_ble_eq_true rfl⟩ rfl hl.1 rfl (Nat.le_of_ble_eq_true rfl) ⟨Nat.le_of_ble_eq_true rfl, Nat.le_of_ble_eq_true rfl⟩ dX2_mixIn_19 (fun S19 H locs hP19 hH hS => ?_)
  refine W.eq (g2 := F0 m 22 ls [.ref (mAdC E 2 2)]) rfl ?_
  refine lv_astore (lv' := [(4, .ref (mAdC E 2 2)), (0, .ref (mAdC E 15 0)), (1, .int (nI r)), (2, .ref (mAdC E k0 i0)), (3, .ref (mAdC E 1 0))]) hx hb dX2_mixIn_22 hl (by decide) rfl (fun ls hl => ?_)
  refine lv_aload hx hb dX2_mixIn_24 (lv_at hl 0 rfl) ?_
  refine lv_aload_n hx hb dX2_mixIn_26 rfl (lv_at hl 1 rfl) ?_
  refine g_X2_one Cx hG hH q_fl_X2_15 dX2_mixIn_27 ?_
  refine lv_bipush (v := 32) hx hb dX2_mixIn_30 (by decide) ?_
  refine mv_callV (Y := mLC) (C := RX0) (k := 2) (i := 2) (rest := []) Cx hG hH hS (c_X0_putAll l E A hO S19 2 (by decide) _ hP19.1 17 0 32 32 isC_17 (by decide) (by decide)) q_co_X0_putAll q_ml_X2_30 q_im_X0_putAll q_se_X0_putAll q_in_X0 (okC_2 (by decide)) rfl rfl hd_X0_putAll ⟨Nat.le_of_ble_eq_true rfl, Nat.le_of_ble_eq_true rfl⟩ rfl hl.1 rfl (Nat.le_of_ble_eq_true rfl) ⟨Nat.le_of_ble_eq_true rfl, Nat.le_of_ble_eq_true rfl⟩ dX2_mixIn_32 (fun S32 H locs hP32 hH hS => ?_)
  refine W.eq (g2 := F0 m 35 ls []) rfl ?_
  refine lv_aload hx hb dX2_mixIn_35 (lv_at hl 0 rfl) ?_
  refine lv_aload_n hx hb dX2_mixIn_37 rfl (lv_at hl 3 rfl) ?_
  refine lv_bipush (v := 32) hx hb dX2_mixIn_38 (by decide) ?_
  refine mv_callV (Y := mLC) (C := RX0) (k := 2) (i := 2) (rest := []) Cx hG hH hS (c_X0_putAll l E A hO S32 2 (by decide) _ hP32.1 k0 i0 32 32 hB (by decide) (by rw [List.nil_append, mTk_len]; decide)) q_co_X0_putAll q_ml_X2_30 q_im_X0_putAll q_se_X0_putAll q_in_X0 (okC_2 (by decide)) rfl rfl hd_X0_putAll ⟨Nat.le_of_ble_eq_true rfl, Nat.le_of_ble_eq_true rfl⟩ rfl hl.1 rfl (Nat.le_of_ble_eq_true rfl) ⟨Nat.le_of_ble_eq_true rfl, Nat.le_of_ble_eq_true rfl⟩ dX2_mixIn_40 (fun S40 H locs hP40 hH hS => ?_)
  refine W.eq (g2 := F0 m 43 ls []) rfl ?_
  refine lv_aload_n hx hb dX2_mixIn_43 rfl (lv_at hl 4 rfl) ?_
  refine lv_aload_n hx hb dX2_mixIn_44 rfl (lv_at hl 1 rfl) ?_
  refine g_X2_one Cx hG hH q_fl_X2_15 dX2_mixIn_45 ?_
  refine mv_callV (Y := mLC) (C := RX1) (k := 1) (i := 0) (rest := []) Cx hG hH hS (c_X1_finish l E A hO S40 17 0 isC_17 _ hP40.1 (by rw [List.nil_append, List.length_append, mTk_len, mTk_len]; decide)) q_co_X1_finish q_ml_X2_36 q_im_X1_finish q_se_X1_finish q_in_X1 okC_1 rfl rfl hd_X1_finish ⟨Nat.le_of_ble_eq_true rfl, Nat.le_of_ble_eq_true rfl⟩ rfl hl.1 rfl (Nat.le_of_ble_eq_true rfl) ⟨Nat.le_of_ble_eq_true rfl, Nat.le_of_ble_eq_true rfl⟩ dX2_mixIn_48 (fun S48 H locs hP48 hH hS => ?_)
  refine W.eq (g2 := F0 m 51 ls []) rfl ?_
  refine lv_aload_n hx hb dX2_mixIn_51 rfl (lv_at hl 1 rfl) ?_
  refine g_X2_one Cx hG hH q_fl_X2_15 dX2_mixIn_52 ?_
  refine lv_iconst (v := 0) hx hb dX2_mixIn_55 (by decide) ?_
  refine lv_aload_n hx hb dX2_mixIn_56 rfl (lv_at hl 1 rfl) ?_
  refine g_X2_row Cx hG hH q_fl_X2_11 dX2_mixIn_57 ?_
  refine lv_iload_n hx hb dX2_mixIn_60 rfl (lv_at hl 2 rfl) ?_
  refine lv_bipush (v := 32) hx hb dX2_mixIn_61 (by decide) ?_
  refine lv_imul hx hb dX2_mixIn_63 ?_
  refine lv_bipush (v := 32) hx hb dX2_mixIn_64 (by decide) ?_
  refine mv_cpb Cx hG hO hH hS isC_17 isC_16 0 (32 * r) 32 (rfl) (by rw [show (32 : Int32) = nI 32 from rfl, pk_mul, Nat.mul_comm]) (rfl) (by decide) (by omega) q_ml_X2_18 hl.1 (Nat.le_of_ble_eq_true rfl) (by decide) dX2_mixIn_66 (fun H locs hH hS => ?_)
  have hch : (mAB S48 16 0 (va_cpy (S48.2.1 17 0) (S48.2.1 16 0) 0 (32 * r) 32)).1 15 0 2 = S.1 15 0 2 := ((hP48.2 15 0 (by simp [hsX, bX])).1 2).trans (((hP40.2 15 0 (by simp [bX])).1 2).trans (((hP32.2 15 0 (by simp [bX])).1 2).trans ((hP19.2 15 0 (by simp [bX])).1 2)))
  have hm1 : mTk (S19.2.1 17 0) 32 = mTk (fun j => S.2.1 16 0 (32 * r + j)) 32 := mTk_congr (fun j hj => ((hP19.2 17 0 (by simp [bX])).2.1 j).trans (mAB_in.trans (cpy_in0 hj)))
  have hm2 : mTk (S32.2.1 k0 i0) 32 = mTk (S.2.1 k0 i0) 32 := mTk_congr (fun j hj => ((hP32.2 k0 i0 hne.1).2.1 j).trans (((hP19.2 k0 i0 hne.1).2.1 j).trans (mA_ne _ _ (fun z => hne.2 z.1) j)))
  have hrow : ∀ q, S48.2.1 16 0 q = S.2.1 16 0 q := fun q => ((hP48.2 16 0 (by simp [hsX, bX])).2.1 q).trans (((hP40.2 16 0 (by simp [bX])).2.1 q).trans (((hP32.2 16 0 (by simp [bX])).2.1 q).trans ((hP19.2 16 0 (by simp [bX])).2.1 q)))
  have hsm : mSame (fun k i => scX k i ∨ k = 16 ∨ k = 15) S S48 := ((((mSame.AB (Or.inl sc_17)).tr (hP19.2.wk (fun _ _ h => Or.inl (sc_bX h)))).tr (hP32.2.wk (fun _ _ h => Or.inl (sc_bX h)))).tr (hP40.2.wk (fun _ _ h => Or.inl (sc_bX h)))).tr (hP48.2.wk (fun k i h => Or.inl (h.elim sc_hs (fun z => by rw [z.1]; exact sc_17))))
  refine lv_aload_n hx hb dX2_mixIn_69 rfl (lv_at hl 1 rfl) ?_
  refine lv_dup hx hb dX2_mixIn_70 rfl ?_
  refine g_X2_changes Cx hG hH q_fl_X2_40 dX2_mixIn_71 ?_
  refine mv_eqi (x' := S.1 15 0 2) (hch) ?_
  refine lv_iconst (v := 1) hx hb dX2_mixIn_74 (by decide) ?_
  refine lv_iadd hx hb dX2_mixIn_75 ?_
  refine p_X2_changes Cx hG hO hH hS q_fl_X2_40 dX2_mixIn_76 (fun H locs hH hS => ?_)
  exact mv_retv Cx hr hH hS (⟨fun j hj => mAB_in.trans (by rw [pk_cpy_in (by omega) (by omega), show 0 + (32 * r + j - 32 * r) = j by omega, hP48.1 j hj, List.nil_append, hm1, hm2]), fun q hq => mAB_in.trans ((pk_cpy_out hq).trans (hrow q)), by simp [mM, m3], (hsm.tr (mSame.AB (Or.inr (Or.inl rfl)))).tr (mSame.M (Or.inr (Or.inr rfl)))⟩) dX2_mixIn_79 hlocks

set_option maxHeartbeats 4000000 in
set_option maxRecDepth 100000 in
theorem c_X2_measure (l : Launch) (E : mEv) (A : Nat → Prop) (hO : mOwn mLC E A) (S : mSt) (set : Int32) (k0 i0 : Nat) (hB : mIsB mLC k0 i0 32) : Met l yX2_measure (Cond.code yX2_measure cX2_measure 6 none :: mv_ws) (mRm 3 69) (mPc mLC E A S [.ref (mAdC E 15 0), .int set, .ref (mAdC E 1 0), .ref (mAdC E k0 i0)]) (mQ mLC E A (fun S' => (∀ j, j < 32 → S'.2.1 k0 i0 j = shaL (regL (S.2.1 16 0) set 8) j) ∧ mSame (fun k i => scX k i ∨ (k = k0 ∧ i = i0)) S S') none) 0 0 A := by
  refine Met.ofW (cc := cX2_measure) (maxL := 6) (ret := none) (by decide) rfl ?_
  intro p e s m args below meth c s₁ B hml hv
  obtain ⟨rfl, hG, hH⟩ := hv
  have hx := B.exec
  have hb := B.bytes
  have hr := B.returns
  have hlocks := B.notSynchronized
  have Cx : CallFix p m c cX2_measure 6 s ([.ref (mAdC E 15 0), .int set, .ref (mAdC E 1 0), .ref (mAdC E k0 i0)] : List Value).toArray (Cond.code yX2_measure cX2_measure 6 none :: mv_ws) RX2 := ⟨hx, hb, hml, findClass_of_methodNamed B.named, atoms_spec (ws := Cond.code yX2_measure cX2_measure 6 none :: mv_ws) B.pre⟩
  have hS : va_S A s.heap s.heap [] := va_S.rf
  have hl := lv_entry ([.ref (mAdC E 15 0), .int set, .ref (mAdC E 1 0), .ref (mAdC E k0 i0)]) (n := 6) (Nat.le_of_ble_eq_true rfl)
  rw [lg_entry_eq]
  generalize (lg_sl ([.ref (mAdC E 15 0), .int set, .ref (mAdC E 1 0), .ref (mAdC E k0 i0)]) ++ List.replicate (6 - (lg_sl ([.ref (mAdC E 15 0), .int set, .ref (mAdC E 1 0), .ref (mAdC E k0 i0)])).length) Slot.unset).toArray = ls at hl ⊢
  have hl : lv_has ls 6 [(0, .ref (mAdC E 15 0)), (1, .int set), (2, .ref (mAdC E 1 0)), (3, .ref (mAdC E k0 i0))] := hl
  refine lv_aload_n hx hb dX2_measure_0 rfl (lv_at hl 2 rfl) ?_
  refine mv_callV (Y := mLC) (C := RX1) (k := 1) (i := 0) (rest := []) Cx hG hH hS (c_X1_begin l E A hO S) q_co_X1_begin q_ml_X2_24 q_im_X1_begin q_se_X1_begin q_in_X1 okC_1 rfl rfl hd_X1_begin ⟨Nat.le_of_ble_eq_true rfl, Nat.le_of_ble_eq_true rfl⟩ rfl hl.1 rfl (Nat.le_of_ble_eq_true rfl) ⟨Nat.le_of_ble_eq_true rfl, Nat.le_of_ble_eq_true rfl⟩ dX2_measure_1 (fun Sb H locs hP1 hH hS => ?_)
  refine W.eq (g2 := F0 m 4 ls [.ref (mAdC E 2 2)]) rfl ?_
  refine lv_astore (lv' := [(4, .ref (mAdC E 2 2)), (0, .ref (mAdC E 15 0)), (1, .int set), (2, .ref (mAdC E 1 0)), (3, .ref (mAdC E k0 i0))]) hx hb dX2_measure_4 hl (by decide) rfl (fun ls hl => ?_)
  refine lv_iconst (v := 0) hx hb dX2_measure_6 (by decide) ?_
  refine mv_eqi (x' := nI 0) (rfl) ?_
  refine lv_istore (lv' := [(5, .int (nI 0)), (4, .ref (mAdC E 2 2)), (0, .ref (mAdC E 15 0)), (1, .int set), (2, .ref (mAdC E 1 0)), (3, .ref (mAdC E k0 i0))]) hx hb dX2_measure_7 hl (by decide) rfl (fun ls hl => ?_)
  have lp : ∀ (n j : Nat) (S1 : mSt) (H : Heap) (locs : List Loc) (ls : Array Slot) , 8 - j < n → j ≤ 8 → (bHas S1 2 (regL (S.2.1 16 0) set j) ∧ mSame (fun k i => bX 2 k i ∨ k = 17) S S1) → mHold mLC E S1 H → va_S A s.heap H locs → lv_has ls 6 [(0, .ref (mAdC E 15 0)), (1, .int set), (2, .ref (mAdC E 1 0)), (3, .ref (mAdC E k0 i0)), (4, .ref (mAdC E 2 2)), (5, .int (nI j))] → W p l e (headSpec (Cond.code yX2_measure cX2_measure 6 none :: mv_ws) (mRm 3 69)).room s m ([.ref (mAdC E 15 0), .int set, .ref (mAdC E 1 0), .ref (mAdC E k0 i0)] : List Value).toArray below meth c H locs 0 0 (MQ below (mQ mLC E A (fun S' => (∀ j, j < 32 → S'.2.1 k0 i0 j = shaL (regL (S.2.1 16 0) set 8) j) ∧ mSame (fun k i => scX k i ∨ (k = k0 ∧ i = i0)) S S') none) ([.ref (mAdC E 15 0), .int set, .ref (mAdC E 1 0), .ref (mAdC E k0 i0)] : List Value).toArray s 0 0 A) (F0 m 9 ls []) := by
    intro n
    induction n with
    | zero => intro j S1 H locs ls  hn hj hinv hH hS hl; omega
    | succ n ih =>
      intro j S1 H locs ls  hn hj hinv hH hS hl
      refine lv_iload hx hb dX2_measure_9 (lv_at hl 5 rfl) ?_
      refine lv_bipush (v := 8) hx hb dX2_measure_11 (by decide) ?_
      refine lv_icmp_ge (tgt := 61) hx hb dX2_measure_13 (by decide) (fun h13 => ?_) (fun h13 => ?_)
      · skip
        have hj8 : j = 8 := by have := ge_of (a := 8) (by decide) (by omega) h13; omega
        refine lv_aload_n hx hb dX2_measure_61 rfl (lv_at hl 2 rfl) ?_
        refine lv_aload_n hx hb dX2_measure_62 rfl (lv_at hl 3 rfl) ?_
        refine mv_callV (Y := mLC) (C := RX1) (k := 1) (i := 0) (rest := []) Cx hG hH hS (c_X1_finish l E A hO S1 k0 i0 hB _ hinv.1 (by have := regL_len (S.2.1 16 0) set j; omega)) q_co_X1_finish q_ml_X2_36 q_im_X1_finish q_se_X1_finish q_in_X1 okC_1 rfl rfl hd_X1_finish ⟨Nat.le_of_ble_eq_true rfl, Nat.le_of_ble_eq_true rfl⟩ rfl hl.1 rfl (Nat.le_of_ble_eq_true rfl) ⟨Nat.le_of_ble_eq_true rfl, Nat.le_of_ble_eq_true rfl⟩ dX2_measure_63 (fun S63 H locs hP63 hH hS => ?_)
        refine W.eq (g2 := F0 m 66 ls []) rfl ?_
        exact mv_retv Cx hr hH hS (⟨fun q hq => by rw [hj8] at hP63; exact hP63.1 q hq, (hinv.2.wk (fun _ _ h => Or.inl (h.elim sc_bX (fun z => by rw [z]; exact sc_17)))).tr (hP63.2.wk (fun _ _ h => h.elim (fun z => Or.inl (sc_hs z)) Or.inr))⟩) dX2_measure_66 hlocks
      · skip
        have hj8 : j < 8 := lt_of (a := 8) (by decide) (by omega) h13
        refine lv_iload_n hx hb dX2_measure_16 rfl (lv_at hl 1 rfl) ?_
        refine lv_iload hx hb dX2_measure_17 (lv_at hl 5 rfl) ?_
        refine lv_iushr hx hb dX2_measure_19 rfl ?_
        refine lv_iconst (v := 1) hx hb dX2_measure_20 (by decide) ?_
        refine lv_iand hx hb dX2_measure_21 ?_
        refine lv_if_eq (tgt := 55) hx hb dX2_measure_22 (by decide) (fun h22 => ?_) (fun h22 => ?_)
        · skip
          refine lv_iinc (v := nI (j + 1)) (lv' := [(5, .int (nI (j + 1))), (0, .ref (mAdC E 15 0)), (1, .int set), (2, .ref (mAdC E 1 0)), (3, .ref (mAdC E k0 i0)), (4, .ref (mAdC E 2 2))]) hx hb dX2_measure_55 hl (k := 5) rfl (i2_1 j) (by decide) rfl (fun ls hl => ?_)
          refine lv_goto (tgt := 9) hx hb dX2_measure_58 (by decide) ?_
          exact ih (j + 1) S1 _ _ ls  (by omega) (by omega) (by rw [regL_succ, if_pos h22, List.append_nil]; exact hinv) hH hS (lv_sub hl [1, 2, 3, 4, 5, 0] rfl)
        · skip
          refine lv_aload_n hx hb dX2_measure_25 rfl (lv_at hl 0 rfl) ?_
          refine g_X2_row Cx hG hH q_fl_X2_11 dX2_measure_26 ?_
          refine lv_iload hx hb dX2_measure_29 (lv_at hl 5 rfl) ?_
          refine lv_bipush (v := 32) hx hb dX2_measure_31 (by decide) ?_
          refine lv_imul hx hb dX2_measure_33 ?_
          refine lv_aload_n hx hb dX2_measure_34 rfl (lv_at hl 0 rfl) ?_
          refine g_X2_one Cx hG hH q_fl_X2_15 dX2_measure_35 ?_
          refine lv_iconst (v := 0) hx hb dX2_measure_38 (by decide) ?_
          refine lv_bipush (v := 32) hx hb dX2_measure_39 (by decide) ?_
          refine mv_cpb Cx hG hO hH hS isC_16 isC_17 (32 * j) 0 32 (by rw [show (32 : Int32) = nI 32 from rfl, pk_mul, Nat.mul_comm]) (rfl) (rfl) (by omega) (by decide) q_ml_X2_18 hl.1 (Nat.le_of_ble_eq_true rfl) (by decide) dX2_measure_41 (fun H locs hH hS => ?_)
          refine lv_aload hx hb dX2_measure_44 (lv_at hl 4 rfl) ?_
          refine lv_aload_n hx hb dX2_measure_46 rfl (lv_at hl 0 rfl) ?_
          refine g_X2_one Cx hG hH q_fl_X2_15 dX2_measure_47 ?_
          refine lv_bipush (v := 32) hx hb dX2_measure_50 (by decide) ?_
          refine mv_callV (Y := mLC) (C := RX0) (k := 2) (i := 2) (rest := []) Cx hG hH hS (c_X0_putAll l E A hO (mAB S1 17 0 (va_cpy (S1.2.1 16 0) (S1.2.1 17 0) (32 * j) 0 32)) 2 (by decide) _ (hinv.1.keep (X := fun k _ => k = 17) (mSame.AB rfl) (by decide) (by decide)) 17 0 32 32 isC_17 (by decide) (by have := regL_len (S.2.1 16 0) set j; rw [mLn_2]; omega)) q_co_X0_putAll q_ml_X2_30 q_im_X0_putAll q_se_X0_putAll q_in_X0 (okC_2 (by decide)) rfl rfl hd_X0_putAll ⟨Nat.le_of_ble_eq_true rfl, Nat.le_of_ble_eq_true rfl⟩ rfl hl.1 rfl (Nat.le_of_ble_eq_true rfl) ⟨Nat.le_of_ble_eq_true rfl, Nat.le_of_ble_eq_true rfl⟩ dX2_measure_52 (fun S52 H locs hP52 hH hS => ?_)
          refine W.eq (g2 := F0 m 55 ls []) rfl ?_
          refine lv_iinc (v := nI (j + 1)) (lv' := [(5, .int (nI (j + 1))), (0, .ref (mAdC E 15 0)), (1, .int set), (2, .ref (mAdC E 1 0)), (3, .ref (mAdC E k0 i0)), (4, .ref (mAdC E 2 2))]) hx hb dX2_measure_55 hl (k := 5) rfl (i2_1 j) (by decide) rfl (fun ls hl => ?_)
          refine lv_goto (tgt := 9) hx hb dX2_measure_58 (by decide) ?_
          exact ih (j + 1) S52 _ _ ls  (by omega) (by omega) (by rw [regL_succ, if_neg h22]; exact ⟨by have h := hP52.1; rw [mTk_congr (g := fun q => S.2.1 16 0 (32 * j + q)) (fun q hq => mAB_in.trans ((cpy_in0 hq).trans ((hinv.2 16 0 (by simp [bX])).2.1 _)))] at h; exact h, (hinv.2.tr (mSame.AB (Or.inr rfl))).tr (hP52.2.wk (fun _ _ h => Or.inl h))⟩) hH hS (lv_sub hl [1, 2, 3, 4, 5, 0] rfl)
  exact lp (8 - 0 + 1) 0 Sb _ _ ls  (by omega) (by omega) (⟨hP1.1, hP1.2.wk (fun _ _ h => Or.inl h)⟩) hH hS (lv_sub hl [2, 3, 4, 5, 1, 0] rfl)
