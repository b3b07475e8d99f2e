/-! ===== the reference: rows with a count, and the small methods ===== -/
def nSame (X : Nat → Nat → Prop) (S S' : mSt) : Prop := ∀ k j, ¬ X k j → S'.1 k 0 j = S.1 k 0 j ∧ S'.2.1 k 0 j = S.2.1 k 0 j ∧ S'.2.2 k 0 j = S.2.2 k 0 j
theorem nSame.rf {X : Nat → Nat → Prop} {S : mSt} : nSame X S S := fun _ _ _ => ⟨rfl, rfl, rfl⟩
theorem nSame.tr {X : Nat → Nat → Prop} {S S1 S2 : mSt} (h1 : nSame X S S1) (h2 : nSame X S1 S2) : nSame X S S2 := fun k j h => ⟨(h2 k j h).1.trans (h1 k j h).1, (h2 k j h).2.1.trans (h1 k j h).2.1, (h2 k j h).2.2.trans (h1 k j h).2.2⟩
theorem nSame.wk {X X' : Nat → Nat → Prop} {S S1 : mSt} (h : nSame X S S1) (hX : ∀ k j, X k j → X' k j) : nSame X' S S1 := fun k j q => h k j (fun z => q (hX k j z))
theorem m3_n {α : Type} (f : Nat → Nat → Nat → α) {k j k' j' : Nat} (v : α) (h : ¬ (k' = k ∧ j' = j)) : m3 f k 0 j v k' 0 j' = f k' 0 j' := by
  unfold m3
  rw [if_neg (fun q => h ⟨q.1, q.2.2⟩)]
theorem nSame.M {X : Nat → Nat → Prop} {S : mSt} {k j : Nat} {v : Int32} (h : X k j) : nSame X S (mM S k 0 j v) := fun k' j' q => ⟨m3_n _ _ (fun z => q (by rw [z.1, z.2]; exact h)), rfl, rfl⟩
theorem nSame.B {X : Nat → Nat → Prop} {S : mSt} {k j : Nat} {v : Int8} (h : X k j) : nSame X S (mB S k 0 j v) := fun k' j' q => ⟨rfl, m3_n _ _ (fun z => q (by rw [z.1, z.2]; exact h)), rfl⟩
theorem nSame.J {X : Nat → Nat → Prop} {S : mSt} {k j : Nat} {v : Int64} (h : X k j) : nSame X S (mJ S k 0 j v) := fun k' j' q => ⟨rfl, rfl, m3_n _ _ (fun z => q (by rw [z.1, z.2]; exact h))⟩
/-- the row of kind c, with its count in the place c of the object -/
def nHas (c cap : Nat) (S : mSt) (xs : List Int8) : Prop := S.1 0 0 c = nI xs.length ∧ xs.length ≤ cap ∧ ∀ j, j < xs.length → S.2.1 c 0 j = xs.getD j 0
def nX (c : Nat) : Nat → Nat → Prop := fun k j => (k = 0 ∧ j = c) ∨ k = c
theorem nHas.keep {X : Nat → Nat → Prop} {c cap : Nat} {S S' : mSt} {xs : List Int8} (h : nHas c cap S xs) (hs : nSame X S S') (h0 : ¬ X 0 c) (h1 : ∀ j, ¬ X c j) : nHas c cap S' xs :=
  ⟨(hs 0 c h0).1.trans h.1, h.2.1, fun j hj => (hs c j (h1 j)).2.1.trans (h.2.2 j hj)⟩
theorem nHas.put {c cap : Nat} {S : mSt} {xs : List Int8} {b : Int8} (h : nHas c cap S xs) (hle : xs.length + 1 ≤ cap) : nHas c cap (mM (mB S c 0 xs.length b) 0 0 c (nI (xs.length + 1))) (xs ++ [b]) := by
  refine ⟨by simp [mM, m3], by simpa using hle, fun j hj => ?_⟩
  simp only [mM, mB, m3]
  rw [List.length_append, List.length_singleton] at hj
  by_cases hq : j = xs.length
  · subst hq
    simp
  · have hj' : j < xs.length := by omega
    simp only [hq, and_false, if_false]
    rw [h.2.2 j hj']
    simp [List.getD_eq_getElem?_getD, List.getElem?_append_left hj']
theorem nHas.nil {c cap : Nat} {S : mSt} : nHas c cap (mM S 0 0 c 0) [] := ⟨by simp [mM, m3]; exact nI_0.symm, Nat.zero_le _, fun j h => absurd h (Nat.not_lt_zero _)⟩
theorem sar8 (x : Int32) : (x >>> ((24 : Int32) &&& 31)).toInt8 = (mU x 24).toInt8 ∧ (x >>> ((16 : Int32) &&& 31)).toInt8 = (mU x 16).toInt8 ∧ (x >>> ((8 : Int32) &&& 31)).toInt8 = (mU x 8).toInt8 ∧ (x >>> ((0 : Int32) &&& 31)).toInt8 = x.toInt8 := by
  have key : ∀ k, k < 25 → (x >>> (nI k &&& 31)).toInt8 = (mU x (nI k)).toInt8 := by
    intro k hk
    apply Int8.toBitVec_inj.mp
    apply BitVec.eq_of_getLsbD_eq
    intro i hi
    rw [Int32.toBitVec_toInt8, Int32.toBitVec_toInt8, BitVec.getLsbD_signExtend, BitVec.getLsbD_signExtend, Int32.toBitVec_shiftRight]
    have e1 : BitVec.sshiftRight' x.toBitVec ((nI k &&& 31).toBitVec.smod 32) = BitVec.sshiftRight x.toBitVec k := by
      unfold BitVec.sshiftRight'
      rw [sh_l k (by omega)]
    have e2 : (mU x (nI k)).toBitVec = x.toBitVec >>> k := by
      apply BitVec.eq_of_toNat_eq
      rw [BitVec.toNat_ushiftRight, Nat.shiftRight_eq_div_pow]
      exact pk_ushr x (nI k) k (sh_u k (by omega))
    rw [e1, e2, BitVec.getLsbD_sshiftRight, BitVec.getLsbD_ushiftRight]
    have h1 : ¬ 32 ≤ i := by omega
    have h2 : i < 32 := by omega
    simp only [hi, decide_true, Bool.true_and, h1, h2, if_true, decide_false, Bool.not_false]
    rw [if_pos (by omega)]
  refine ⟨key 24 (by decide), key 16 (by decide), key 8 (by decide), ?_⟩
  have h := key 0 (by decide)
  rw [show nI 0 = 0 from rfl] at h
  refine h.trans ?_
  congr 1
theorem w4_sar (x : Int32) : w4 x = [(x >>> ((24 : Int32) &&& 31)).toInt8, (x >>> ((16 : Int32) &&& 31)).toInt8, (x >>> ((8 : Int32) &&& 31)).toInt8, (x >>> ((0 : Int32) &&& 31)).toInt8] := by
  obtain ⟨h1, h2, h3, h4⟩ := sar8 x
  rw [h1, h2, h3, h4]
  rfl
def nEq (f g : Nat → Int8) (a b : Nat) : Bool := mEq (fun q => f (a + q)) g b
set_option maxHeartbeats 4000000 in
set_option maxRecDepth 100000 in
theorem c_X8_add (l : Launch) (E : mEv) (A : Nat → Prop) (hO : mOwn mLM E A) (S : mSt) (xs : List Int8) (hxs : nHas 5 1024 S xs) (x : Int32) (hle : xs.length + 1 ≤ 1024) : Met l yX8_add (Cond.code yX8_add cX8_add 2 none :: mv_ws) (mRm 0 0) (mPc mLM E A S [.ref (mAdM E 0 0), .int x]) (mQ mLM E A (fun S' => nHas 5 1024 S' (xs ++ [x.toInt8]) ∧ nSame (nX 5) S S') none) 0 0 A := by
  refine Met.ofW (cc := cX8_add) (maxL := 2) (ret := none) (by decide) rfl ?_
  intro p e s m args below meth c s₁ B hml hv
  obtain ⟨rfl, hG, hH⟩ := hv
  have hx := B.exec
  have hb := B.bytes
  have hr := B.returns
  have hlocks := B.notSynchronized
  have Cx : CallFix p m c cX8_add 2 s ([.ref (mAdM E 0 0), .int x] : List Value).toArray (Cond.code yX8_add cX8_add 2 none :: mv_ws) RX8 := ⟨hx, hb, hml, findClass_of_methodNamed B.named, atoms_spec (ws := Cond.code yX8_add cX8_add 2 none :: mv_ws) B.pre⟩
  have hS : va_S A s.heap s.heap [] := va_S.rf
  have hl := lv_entry ([.ref (mAdM E 0 0), .int x]) (n := 2) (Nat.le_of_ble_eq_true rfl)
  rw [lg_entry_eq]
  generalize (lg_sl ([.ref (mAdM E 0 0), .int x]) ++ List.replicate (2 - (lg_sl ([.ref (mAdM E 0 0), .int x])).length) Slot.unset).toArray = ls at hl ⊢
  have hl : lv_has ls 2 [(0, .ref (mAdM E 0 0)), (1, .int x)] := hl
  refine lv_aload_n hx hb dX8_add_0 rfl (lv_at hl 0 rfl) ?_
  refine g_X8_row Cx hG hH q_fl_X8_16 dX8_add_1 ?_
  refine lv_aload_n hx hb dX8_add_4 rfl (lv_at hl 0 rfl) ?_
  refine g_X8_rowCount Cx hG hH q_fl_X8_100 dX8_add_5 ?_
  refine mv_eqi (x' := nI xs.length) (hxs.1) ?_
  refine lv_iload_n hx hb dX8_add_8 rfl (lv_at hl 1 rfl) ?_
  refine lv_i2b hx hb dX8_add_9 rfl ?_
  refine mv_bas8 Cx hG hO hH hS isM_5 xs.length x.toInt8 rfl (rfl) (by omega) dX8_add_10 (fun H locs hH hS => ?_)
  refine lv_aload_n hx hb dX8_add_11 rfl (lv_at hl 0 rfl) ?_
  refine lv_dup hx hb dX8_add_12 rfl ?_
  refine g_X8_rowCount Cx hG hH q_fl_X8_100 dX8_add_13 ?_
  refine mv_eqi (x' := nI xs.length) (by simpa [mB] using hxs.1) ?_
  refine lv_iconst (v := 1) hx hb dX8_add_16 (by decide) ?_
  refine lv_iadd hx hb dX8_add_17 ?_
  refine mv_eqi (x' := nI (xs.length + 1)) (nI_1 _) ?_
  refine p_X8_rowCount Cx hG hO hH hS q_fl_X8_100 dX8_add_18 (fun H locs hH hS => ?_)
  exact mv_retv Cx hr hH hS (⟨hxs.put hle, (nSame.B (Or.inr rfl)).tr (nSame.M (Or.inl ⟨rfl, rfl⟩))⟩) dX8_add_21 hlocks

set_option maxHeartbeats 4000000 in
set_option maxRecDepth 100000 in
theorem c_X8_tell (l : Launch) (E : mEv) (A : Nat → Prop) (hO : mOwn mLM E A) (S : mSt) (xs : List Int8) (hxs : nHas 3 512 S xs) (x : Int32) (hle : xs.length + 1 ≤ 512) : Met l yX8_tell (Cond.code yX8_tell cX8_tell 2 none :: mv_ws) (mRm 0 0) (mPc mLM E A S [.ref (mAdM E 0 0), .int x]) (mQ mLM E A (fun S' => nHas 3 512 S' (xs ++ [x.toInt8]) ∧ nSame (nX 3) S S') none) 0 0 A := by
  refine Met.ofW (cc := cX8_tell) (maxL := 2) (ret := none) (by decide) rfl ?_
  intro p e s m args below meth c s₁ B hml hv
  obtain ⟨rfl, hG, hH⟩ := hv
  have hx := B.exec
  have hb := B.bytes
  have hr := B.returns
  have hlocks := B.notSynchronized
  have Cx : CallFix p m c cX8_tell 2 s ([.ref (mAdM E 0 0), .int x] : List Value).toArray (Cond.code yX8_tell cX8_tell 2 none :: mv_ws) RX8 := ⟨hx, hb, hml, findClass_of_methodNamed B.named, atoms_spec (ws := Cond.code yX8_tell cX8_tell 2 none :: mv_ws) B.pre⟩
  have hS : va_S A s.heap s.heap [] := va_S.rf
  have hl := lv_entry ([.ref (mAdM E 0 0), .int x]) (n := 2) (Nat.le_of_ble_eq_true rfl)
  rw [lg_entry_eq]
  generalize (lg_sl ([.ref (mAdM E 0 0), .int x]) ++ List.replicate (2 - (lg_sl ([.ref (mAdM E 0 0), .int x])).length) Slot.unset).toArray = ls at hl ⊢
  have hl : lv_has ls 2 [(0, .ref (mAdM E 0 0)), (1, .int x)] := hl
  refine lv_aload_n hx hb dX8_tell_0 rfl (lv_at hl 0 rfl) ?_
  refine g_X8_out Cx hG hH q_fl_X8_13 dX8_tell_1 ?_
  refine lv_aload_n hx hb dX8_tell_4 rfl (lv_at hl 0 rfl) ?_
  refine g_X8_outCount Cx hG hH q_fl_X8_143 dX8_tell_5 ?_
  refine mv_eqi (x' := nI xs.length) (hxs.1) ?_
  refine lv_iload_n hx hb dX8_tell_8 rfl (lv_at hl 1 rfl) ?_
  refine lv_i2b hx hb dX8_tell_9 rfl ?_
  refine mv_bas8 Cx hG hO hH hS isM_3 xs.length x.toInt8 rfl (rfl) (by omega) dX8_tell_10 (fun H locs hH hS => ?_)
  refine lv_aload_n hx hb dX8_tell_11 rfl (lv_at hl 0 rfl) ?_
  refine lv_dup hx hb dX8_tell_12 rfl ?_
  refine g_X8_outCount Cx hG hH q_fl_X8_143 dX8_tell_13 ?_
  refine mv_eqi (x' := nI xs.length) (by simpa [mB] using hxs.1) ?_
  refine lv_iconst (v := 1) hx hb dX8_tell_16 (by decide) ?_
  refine lv_iadd hx hb dX8_tell_17 ?_
  refine mv_eqi (x' := nI (xs.length + 1)) (nI_1 _) ?_
  refine p_X8_outCount Cx hG hO hH hS q_fl_X8_143 dX8_tell_18 (fun H locs hH hS => ?_)
  exact mv_retv Cx hr hH hS (⟨hxs.put hle, (nSame.B (Or.inr rfl)).tr (nSame.M (Or.inl ⟨rfl, rfl⟩))⟩) dX8_tell_21 hlocks

set_option maxHeartbeats 4000000 in
set_option maxRecDepth 100000 in
theorem c_X8_word (l : Launch) (E : mEv) (A : Nat → Prop) (hO : mOwn mLM E A) (S : mSt) (xs : List Int8) (hxs : nHas 5 1024 S xs) (x : Int32) (hle : xs.length + 4 ≤ 1024) : Met l yX8_word (Cond.code yX8_word cX8_word 3 none :: mv_ws) (mRm 1 21) (mPc mLM E A S [.ref (mAdM E 0 0), .int x]) (mQ mLM E A (fun S' => nHas 5 1024 S' (xs ++ w4 x) ∧ nSame (nX 5) S S') none) 0 0 A := by
  refine Met.ofW (cc := cX8_word) (maxL := 3) (ret := none) (by decide) rfl ?_
  intro p e s m args below meth c s₁ B hml hv
  obtain ⟨rfl, hG, hH⟩ := hv
  have hx := B.exec
  have hb := B.bytes
  have hr := B.returns
  have hlocks := B.notSynchronized
  have Cx : CallFix p m c cX8_word 3 s ([.ref (mAdM E 0 0), .int x] : List Value).toArray (Cond.code yX8_word cX8_word 3 none :: mv_ws) RX8 := ⟨hx, hb, hml, findClass_of_methodNamed B.named, atoms_spec (ws := Cond.code yX8_word cX8_word 3 none :: mv_ws) B.pre⟩
  have hS : va_S A s.heap s.heap [] := va_S.rf
  have hl := lv_entry ([.ref (mAdM E 0 0), .int x]) (n := 3) (Nat.le_of_ble_eq_true rfl)
  rw [lg_entry_eq]
  generalize (lg_sl ([.ref (mAdM E 0 0), .int x]) ++ List.replicate (3 - (lg_sl ([.ref (mAdM E 0 0), .int x])).length) Slot.unset).toArray = ls at hl ⊢
  have hl : lv_has ls 3 [(0, .ref (mAdM E 0 0)), (1, .int x)] := hl
  refine lv_bipush (v := 24) hx hb dX8_word_0 (by decide) ?_
  refine lv_istore_n (lv' := [(2, .int 24), (0, .ref (mAdM E 0 0)), (1, .int x)]) hx hb dX8_word_2 rfl hl (by decide) rfl (fun ls hl => ?_)
  refine lv_iload_n hx hb dX8_word_3 rfl (lv_at hl 0 rfl) ?_
  refine lv_if_lt (tgt := 20) hx hb dX8_word_4 (by decide) (fun h4 => ?_) (fun h4 => ?_)
  · skip
    exact absurd h4 (by decide)
  · skip
    refine lv_aload_n hx hb dX8_word_7 rfl (lv_at hl 1 rfl) ?_
    refine lv_iload_n hx hb dX8_word_8 rfl (lv_at hl 2 rfl) ?_
    refine lv_iload_n hx hb dX8_word_9 rfl (lv_at hl 0 rfl) ?_
    refine lv_ishr hx hb dX8_word_10 ?_
    refine mv_callV (Y := mLM) (C := RX8) (k := 0) (i := 0) (rest := []) Cx hG hH hS (c_X8_add l E A hO S xs hxs (x >>> (24 &&& 31)) (by (try simp only [List.length_append, List.length_singleton]); omega)) q_co_X8_add q_ml_X8_104 q_im_X8_add q_se_X8_add q_in_X8 okM_0 rfl rfl hd_X8_add ⟨Nat.le_of_ble_eq_true rfl, Nat.le_of_ble_eq_true rfl⟩ rfl hl.1 rfl (Nat.le_of_ble_eq_true rfl) ⟨Nat.le_of_ble_eq_true rfl, Nat.le_of_ble_eq_true rfl⟩ dX8_word_11 (fun S11 H locs hP11 hH hS => ?_)
    refine W.eq (g2 := F0 m 14 ls []) rfl ?_
    have hq1 := hP11
    refine lv_iinc (v := 16) (lv' := [(2, .int 16), (0, .ref (mAdM E 0 0)), (1, .int x)]) hx hb dX8_word_14 hl (k := 0) rfl (by decide) (by decide) rfl (fun ls hl => ?_)
    refine lv_goto (tgt := 3) hx hb dX8_word_17 (by decide) ?_
    refine lv_iload_n hx hb dX8_word_3 rfl (lv_at hl 0 rfl) ?_
    refine lv_if_lt (tgt := 20) hx hb dX8_word_4 (by decide) (fun h4_1 => ?_) (fun h4_1 => ?_)
    · skip
      exact absurd h4_1 (by decide)
    · skip
      refine lv_aload_n hx hb dX8_word_7 rfl (lv_at hl 1 rfl) ?_
      refine lv_iload_n hx hb dX8_word_8 rfl (lv_at hl 2 rfl) ?_
      refine lv_iload_n hx hb dX8_word_9 rfl (lv_at hl 0 rfl) ?_
      refine lv_ishr hx hb dX8_word_10 ?_
      refine mv_callV (Y := mLM) (C := RX8) (k := 0) (i := 0) (rest := []) Cx hG hH hS (c_X8_add l E A hO S11 (xs ++ [(x >>> ((24 : Int32) &&& 31)).toInt8]) hq1.1 (x >>> (16 &&& 31)) (by (try simp only [List.length_append, List.length_singleton]); omega)) q_co_X8_add q_ml_X8_104 q_im_X8_add q_se_X8_add q_in_X8 okM_0 rfl rfl hd_X8_add ⟨Nat.le_of_ble_eq_true rfl, Nat.le_of_ble_eq_true rfl⟩ rfl hl.1 rfl (Nat.le_of_ble_eq_true rfl) ⟨Nat.le_of_ble_eq_true rfl, Nat.le_of_ble_eq_true rfl⟩ dX8_word_11 (fun S11 H locs hP11 hH hS => ?_)
      refine W.eq (g2 := F0 m 14 ls []) rfl ?_
      have hq2 := hP11
      refine lv_iinc (v := 8) (lv' := [(2, .int 8), (0, .ref (mAdM E 0 0)), (1, .int x)]) hx hb dX8_word_14 hl (k := 0) rfl (by decide) (by decide) rfl (fun ls hl => ?_)
      refine lv_goto (tgt := 3) hx hb dX8_word_17 (by decide) ?_
      refine lv_iload_n hx hb dX8_word_3 rfl (lv_at hl 0 rfl) ?_
      refine lv_if_lt (tgt := 20) hx hb dX8_word_4 (by decide) (fun h4_2 => ?_) (fun h4_2 => ?_)
      · skip
        exact absurd h4_2 (by decide)
      · skip
        refine lv_aload_n hx hb dX8_word_7 rfl (lv_at hl 1 rfl) ?_
        refine lv_iload_n hx hb dX8_word_8 rfl (lv_at hl 2 rfl) ?_
        refine lv_iload_n hx hb dX8_word_9 rfl (lv_at hl 0 rfl) ?_
        refine lv_ishr hx hb dX8_word_10 ?_
        refine mv_callV (Y := mLM) (C := RX8) (k := 0) (i := 0) (rest := []) Cx hG hH hS (c_X8_add l E A hO S11 (xs ++ [(x >>> ((24 : Int32) &&& 31)).toInt8] ++ [(x >>> ((16 : Int32) &&& 31)).toInt8]) hq2.1 (x >>> (8 &&& 31)) (by (try simp only [List.length_append, List.length_singleton]); omega)) q_co_X8_add q_ml_X8_104 q_im_X8_add q_se_X8_add q_in_X8 okM_0 rfl rfl hd_X8_add ⟨Nat.le_of_ble_eq_true rfl, Nat.le_of_ble_eq_true rfl⟩ rfl hl.1 rfl (Nat.le_of_ble_eq_true rfl) ⟨Nat.le_of_ble_eq_true rfl, Nat.le_of_ble_eq_true rfl⟩ dX8_word_11 (fun S11 H locs hP11 hH hS => ?_)
        refine W.eq (g2 := F0 m 14 ls []) rfl ?_
        have hq3 := hP11
        refine lv_iinc (v := 0) (lv' := [(2, .int 0), (0, .ref (mAdM E 0 0)), (1, .int x)]) hx hb dX8_word_14 hl (k := 0) rfl (by decide) (by decide) rfl (fun ls hl => ?_)
        refine lv_goto (tgt := 3) hx hb dX8_word_17 (by decide) ?_
        refine lv_iload_n hx hb dX8_word_3 rfl (lv_at hl 0 rfl) ?_
        refine lv_if_lt (tgt := 20) hx hb dX8_word_4 (by decide) (fun h4_3 => ?_) (fun h4_3 => ?_)
        · skip
          exact absurd h4_3 (by decide)
        · skip
          refine lv_aload_n hx hb dX8_word_7 rfl (lv_at hl 1 rfl) ?_
          refine lv_iload_n hx hb dX8_word_8 rfl (lv_at hl 2 rfl) ?_
          refine lv_iload_n hx hb dX8_word_9 rfl (lv_at hl 0 rfl) ?_
          refine lv_ishr hx hb dX8_word_10 ?_
          refine mv_callV (Y := mLM) (C := RX8) (k := 0) (i := 0) (rest := []) Cx hG hH hS (c_X8_add l E A hO S11 (xs ++ [(x >>> ((24 : Int32) &&& 31)).toInt8] ++ [(x >>> ((16 : Int32) &&& 31)).toInt8] ++ [(x >>> ((8 : Int32) &&& 31)).toInt8]) hq3.1 (x >>> (0 &&& 31)) (by (try simp only [List.length_append, List.length_singleton]); omega)) q_co_X8_add q_ml_X8_104 q_im_X8_add q_se_X8_add q_in_X8 okM_0 rfl rfl hd_X8_add ⟨Nat.le_of_ble_eq_true rfl, Nat.le_of_ble_eq_true rfl⟩ rfl hl.1 rfl (Nat.le_of_ble_eq_true rfl) ⟨Nat.le_of_ble_eq_true rfl, Nat.le_of_ble_eq_true rfl⟩ dX8_word_11 (fun S11 H locs hP11 hH hS => ?_)
          refine W.eq (g2 := F0 m 14 ls []) rfl ?_
          have hq4 := hP11
          refine lv_iinc (v := (-8 : Int32)) (lv' := [(2, .int (-8 : Int32)), (0, .ref (mAdM E 0 0)), (1, .int x)]) hx hb dX8_word_14 hl (k := 0) rfl (by decide) (by decide) rfl (fun ls hl => ?_)
          refine lv_goto (tgt := 3) hx hb dX8_word_17 (by decide) ?_
          refine lv_iload_n hx hb dX8_word_3 rfl (lv_at hl 0 rfl) ?_
          refine lv_if_lt (tgt := 20) hx hb dX8_word_4 (by decide) (fun h4_4 => ?_) (fun h4_4 => ?_)
          · skip
            exact mv_retv Cx hr hH hS (⟨by have h := hq4.1; rw [w4_sar]; simpa using h, ((hq1.2.tr hq2.2).tr hq3.2).tr hq4.2⟩) dX8_word_20 hlocks
          · skip
            exact absurd (by decide) h4_4

set_option maxHeartbeats 4000000 in
set_option maxRecDepth 100000 in
theorem c_X8_tellWord (l : Launch) (E : mEv) (A : Nat → Prop) (hO : mOwn mLM E A) (S : mSt) (xs : List Int8) (hxs : nHas 3 512 S xs) (x : Int32) (hle : xs.length + 4 ≤ 512) : Met l yX8_tellWord (Cond.code yX8_tellWord cX8_tellWord 3 none :: mv_ws) (mRm 1 21) (mPc mLM E A S [.ref (mAdM E 0 0), .int x]) (mQ mLM E A (fun S' => nHas 3 512 S' (xs ++ w4 x) ∧ nSame (nX 3) S S') none) 0 0 A := by
  refine Met.ofW (cc := cX8_tellWord) (maxL := 3) (ret := none) (by decide) rfl ?_
  intro p e s m args below meth c s₁ B hml hv
  obtain ⟨rfl, hG, hH⟩ := hv
  have hx := B.exec
  have hb := B.bytes
  have hr := B.returns
  have hlocks := B.notSynchronized
  have Cx : CallFix p m c cX8_tellWord 3 s ([.ref (mAdM E 0 0), .int x] : List Value).toArray (Cond.code yX8_tellWord cX8_tellWord 3 none :: mv_ws) RX8 := ⟨hx, hb, hml, findClass_of_methodNamed B.named, atoms_spec (ws := Cond.code yX8_tellWord cX8_tellWord 3 none :: mv_ws) B.pre⟩
  have hS : va_S A s.heap s.heap [] := va_S.rf
  have hl := lv_entry ([.ref (mAdM E 0 0), .int x]) (n := 3) (Nat.le_of_ble_eq_true rfl)
  rw [lg_entry_eq]
  generalize (lg_sl ([.ref (mAdM E 0 0), .int x]) ++ List.replicate (3 - (lg_sl ([.ref (mAdM E 0 0), .int x])).length) Slot.unset).toArray = ls at hl ⊢
  have hl : lv_has ls 3 [(0, .ref (mAdM E 0 0)), (1, .int x)] := hl
  refine lv_bipush (v := 24) hx hb dX8_tellWord_0 (by decide) ?_
  refine lv_istore_n (lv' := [(2, .int 24), (0, .ref (mAdM E 0 0)), (1, .int x)]) hx hb dX8_tellWord_2 rfl hl (by decide) rfl (fun ls hl => ?_)
  refine lv_iload_n hx hb dX8_tellWord_3 rfl (lv_at hl 0 rfl) ?_
  refine lv_if_lt (tgt := 20) hx hb dX8_tellWord_4 (by decide) (fun h4 => ?_) (fun h4 => ?_)
  · skip
    exact absurd h4 (by decide)
  · skip
    refine lv_aload_n hx hb dX8_tellWord_7 rfl (lv_at hl 1 rfl) ?_
    refine lv_iload_n hx hb dX8_tellWord_8 rfl (lv_at hl 2 rfl) ?_
    refine lv_iload_n hx hb dX8_tellWord_9 rfl (lv_at hl 0 rfl) ?_
    refine lv_ishr hx hb dX8_tellWord_10 ?_
    refine mv_callV (Y := mLM) (C := RX8) (k := 0) (i := 0) (rest := []) Cx hG hH hS (c_X8_tell l E A hO S xs hxs (x >>> (24 &&& 31)) (by (try simp only [List.length_append, List.length_singleton]); omega)) q_co_X8_tell q_ml_X8_160 q_im_X8_tell q_se_X8_tell q_in_X8 okM_0 rfl rfl hd_X8_tell ⟨Nat.le_of_ble_eq_true rfl, Nat.le_of_ble_eq_true rfl⟩ rfl hl.1 rfl (Nat.le_of_ble_eq_true rfl) ⟨Nat.le_of_ble_eq_true rfl, Nat.le_of_ble_eq_true rfl⟩ dX8_tellWord_11 (fun S11 H locs hP11 hH hS => ?_)
    refine W.eq (g2 := F0 m 14 ls []) rfl ?_
    have hq1 := hP11
    refine lv_iinc (v := 16) (lv' := [(2, .int 16), (0, .ref (mAdM E 0 0)), (1, .int x)]) hx hb dX8_tellWord_14 hl (k := 0) rfl (by decide) (by decide) rfl (fun ls hl => ?_)
    refine lv_goto (tgt := 3) hx hb dX8_tellWord_17 (by decide) ?_
    refine lv_iload_n hx hb dX8_tellWord_3 rfl (lv_at hl 0 rfl) ?_
    refine lv_if_lt (tgt := 20) hx hb dX8_tellWord_4 (by decide) (fun h4_1 => ?_) (fun h4_1 => ?_)
    · skip
      exact absurd h4_1 (by decide)
    · skip
      refine lv_aload_n hx hb dX8_tellWord_7 rfl (lv_at hl 1 rfl) ?_
      refine lv_iload_n hx hb dX8_tellWord_8 rfl (lv_at hl 2 rfl) ?_
      refine lv_iload_n hx hb dX8_tellWord_9 rfl (lv_at hl 0 rfl) ?_
      refine lv_ishr hx hb dX8_tellWord_10 ?_
      refine mv_callV (Y := mLM) (C := RX8) (k := 0) (i := 0) (rest := []) Cx hG hH hS (c_X8_tell l E A hO S11 (xs ++ [(x >>> ((24 : Int32) &&& 31)).toInt8]) hq1.1 (x >>> (16 &&& 31)) (by (try simp only [List.length_append, List.length_singleton]); omega)) q_co_X8_tell q_ml_X8_160 q_im_X8_tell q_se_X8_tell q_in_X8 okM_0 rfl rfl hd_X8_tell ⟨Nat.le_of_ble_eq_true rfl, Nat.le_of_ble_eq_true rfl⟩ rfl hl.1 rfl (Nat.le_of_ble_eq_true rfl) ⟨Nat.le_of_ble_eq_true rfl, Nat.le_of_ble_eq_true rfl⟩ dX8_tellWord_11 (fun S11 H locs hP11 hH hS => ?_)
      refine W.eq (g2 := F0 m 14 ls []) rfl ?_
      have hq2 := hP11
      refine lv_iinc (v := 8) (lv' := [(2, .int 8), (0, .ref (mAdM E 0 0)), (1, .int x)]) hx hb dX8_tellWord_14 hl (k := 0) rfl (by decide) (by decide) rfl (fun ls hl => ?_)
      refine lv_goto (tgt := 3) hx hb dX8_tellWord_17 (by decide) ?_
      refine lv_iload_n hx hb dX8_tellWord_3 rfl (lv_at hl 0 rfl) ?_
      refine lv_if_lt (tgt := 20) hx hb dX8_tellWord_4 (by decide) (fun h4_2 => ?_) (fun h4_2 => ?_)
      · skip
        exact absurd h4_2 (by decide)
      · skip
        refine lv_aload_n hx hb dX8_tellWord_7 rfl (lv_at hl 1 rfl) ?_
        refine lv_iload_n hx hb dX8_tellWord_8 rfl (lv_at hl 2 rfl) ?_
        refine lv_iload_n hx hb dX8_tellWord_9 rfl (lv_at hl 0 rfl) ?_
        refine lv_ishr hx hb dX8_tellWord_10 ?_
        refine mv_callV (Y := mLM) (C := RX8) (k := 0) (i := 0) (rest := []) Cx hG hH hS (c_X8_tell l E A hO S11 (xs ++ [(x >>> ((24 : Int32) &&& 31)).toInt8] ++ [(x >>> ((16 : Int32) &&& 31)).toInt8]) hq2.1 (x >>> (8 &&& 31)) (by (try simp only [List.length_append, List.length_singleton]); omega)) q_co_X8_tell q_ml_X8_160 q_im_X8_tell q_se_X8_tell q_in_X8 okM_0 rfl rfl hd_X8_tell ⟨Nat.le_of_ble_eq_true rfl, Nat.le_of_ble_eq_true rfl⟩ rfl hl.1 rfl (Nat.le_of_ble_eq_true rfl) ⟨Nat.le_of_ble_eq_true rfl, Nat.le_of_ble_eq_true rfl⟩ dX8_tellWord_11 (fun S11 H locs hP11 hH hS => ?_)
        refine W.eq (g2 := F0 m 14 ls []) rfl ?_
        have hq3 := hP11
        refine lv_iinc (v := 0) (lv' := [(2, .int 0), (0, .ref (mAdM E 0 0)), (1, .int x)]) hx hb dX8_tellWord_14 hl (k := 0) rfl (by decide) (by decide) rfl (fun ls hl => ?_)
        refine lv_goto (tgt := 3) hx hb dX8_tellWord_17 (by decide) ?_
        refine lv_iload_n hx hb dX8_tellWord_3 rfl (lv_at hl 0 rfl) ?_
        refine lv_if_lt (tgt := 20) hx hb dX8_tellWord_4 (by decide) (fun h4_3 => ?_) (fun h4_3 => ?_)
        · skip
          exact absurd h4_3 (by decide)
        · skip
          refine lv_aload_n hx hb dX8_tellWord_7 rfl (lv_at hl 1 rfl) ?_
          refine lv_iload_n hx hb dX8_tellWord_8 rfl (lv_at hl 2 rfl) ?_
          refine lv_iload_n hx hb dX8_tellWord_9 rfl (lv_at hl 0 rfl) ?_
          refine lv_ishr hx hb dX8_tellWord_10 ?_
          refine mv_callV (Y := mLM) (C := RX8) (k := 0) (i := 0) (rest := []) Cx hG hH hS (c_X8_tell l E A hO S11 (xs ++ [(x >>> ((24 : Int32) &&& 31)).toInt8] ++ [(x >>> ((16 : Int32) &&& 31)).toInt8] ++ [(x >>> ((8 : Int32) &&& 31)).toInt8]) hq3.1 (x >>> (0 &&& 31)) (by (try simp only [List.length_append, List.length_singleton]); omega)) q_co_X8_tell q_ml_X8_160 q_im_X8_tell q_se_X8_tell q_in_X8 okM_0 rfl rfl hd_X8_tell ⟨Nat.le_of_ble_eq_true rfl, Nat.le_of_ble_eq_true rfl⟩ rfl hl.1 rfl (Nat.le_of_ble_eq_true rfl) ⟨Nat.le_of_ble_eq_true rfl, Nat.le_of_ble_eq_true rfl⟩ dX8_tellWord_11 (fun S11 H locs hP11 hH hS => ?_)
          refine W.eq (g2 := F0 m 14 ls []) rfl ?_
          have hq4 := hP11
          refine lv_iinc (v := (-8 : Int32)) (lv' := [(2, .int (-8 : Int32)), (0, .ref (mAdM E 0 0)), (1, .int x)]) hx hb dX8_tellWord_14 hl (k := 0) rfl (by decide) (by decide) rfl (fun ls hl => ?_)
          refine lv_goto (tgt := 3) hx hb dX8_tellWord_17 (by decide) ?_
          refine lv_iload_n hx hb dX8_tellWord_3 rfl (lv_at hl 0 rfl) ?_
          refine lv_if_lt (tgt := 20) hx hb dX8_tellWord_4 (by decide) (fun h4_4 => ?_) (fun h4_4 => ?_)
          · skip
            exact mv_retv Cx hr hH hS (⟨by have h := hq4.1; rw [w4_sar]; simpa using h, ((hq1.2.tr hq2.2).tr hq3.2).tr hq4.2⟩) dX8_tellWord_20 hlocks
          · skip
            exact absurd (by decide) h4_4

set_option maxHeartbeats 4000000 in
set_option maxRecDepth 100000 in
theorem c_X8_add_ (l : Launch) (E : mEv) (A : Nat → Prop) (hO : mOwn mLM E A) (S : mSt) (k0 n0 : Nat) (hB : mIsB mLM k0 0 n0) (hk0 : ¬ k0 = 0 ∧ ¬ k0 = 5) (a n : Nat) (hn : a + n ≤ n0) (xs : List Int8) (hxs : nHas 5 1024 S xs) (hle : xs.length + n ≤ 1024) : Met l yX8_add_ (Cond.code yX8_add_ cX8_add_ 5 none :: mv_ws) (mRm 1 21) (mPc mLM E A S [.ref (mAdM E 0 0), .ref (mAdM E k0 0), .int (nI a), .int (nI n)]) (mQ mLM E A (fun S' => nHas 5 1024 S' (xs ++ mTk (fun q => S.2.1 k0 0 (a + q)) n) ∧ nSame (nX 5) S S') none) 0 0 A := by
  refine Met.ofW (cc := cX8_add_) (maxL := 5) (ret := none) (by decide) rfl ?_
  intro p e s m args below meth c s₁ B hml hv
  obtain ⟨rfl, hG, hH⟩ := hv
  have hx := B.exec
  have hb := B.bytes
  have hr := B.returns
  have hlocks := B.notSynchronized
  have Cx : CallFix p m c cX8_add_ 5 s ([.ref (mAdM E 0 0), .ref (mAdM E k0 0), .int (nI a), .int (nI n)] : List Value).toArray (Cond.code yX8_add_ cX8_add_ 5 none :: mv_ws) RX8 := ⟨hx, hb, hml, findClass_of_methodNamed B.named, atoms_spec (ws := Cond.code yX8_add_ cX8_add_ 5 none :: mv_ws) B.pre⟩
  have hS : va_S A s.heap s.heap [] := va_S.rf
  have hn0 := hB.2.1
  have hne : ∀ {j : Nat}, ¬ nX 5 k0 j := fun {j} h => h.elim (fun z => hk0.1 z.1) hk0.2
  have hl := lv_entry ([.ref (mAdM E 0 0), .ref (mAdM E k0 0), .int (nI a), .int (nI n)]) (n := 5) (Nat.le_of_ble_eq_true rfl)
  rw [lg_entry_eq]
  generalize (lg_sl ([.ref (mAdM E 0 0), .ref (mAdM E k0 0), .int (nI a), .int (nI n)]) ++ List.replicate (5 - (lg_sl ([.ref (mAdM E 0 0), .ref (mAdM E k0 0), .int (nI a), .int (nI n)])).length) Slot.unset).toArray = ls at hl ⊢
  have hl : lv_has ls 5 [(0, .ref (mAdM E 0 0)), (1, .ref (mAdM E k0 0)), (2, .int (nI a)), (3, .int (nI n))] := hl
  refine lv_iconst (v := 0) hx hb dX8_add__0 (by decide) ?_
  refine mv_eqi (x' := nI 0) (rfl) ?_
  refine lv_istore (lv' := [(4, .int (nI 0)), (0, .ref (mAdM E 0 0)), (1, .ref (mAdM E k0 0)), (2, .int (nI a)), (3, .int (nI n))]) hx hb dX8_add__1 hl (by decide) rfl (fun ls hl => ?_)
  have lp : ∀ (fu j : Nat) (S1 : mSt) (H : Heap) (locs : List Loc) (ls : Array Slot) , n - j < fu → j ≤ n → (nHas 5 1024 S1 (xs ++ mTk (fun q => S.2.1 k0 0 (a + q)) j) ∧ nSame (nX 5) S S1) → mHold mLM E S1 H → va_S A s.heap H locs → lv_has ls 5 [(0, .ref (mAdM E 0 0)), (1, .ref (mAdM E k0 0)), (2, .int (nI a)), (3, .int (nI n)), (4, .int (nI j))] → W p l e (headSpec (Cond.code yX8_add_ cX8_add_ 5 none :: mv_ws) (mRm 1 21)).room s m ([.ref (mAdM E 0 0), .ref (mAdM E k0 0), .int (nI a), .int (nI n)] : List Value).toArray below meth c H locs 0 0 (MQ below (mQ mLM E A (fun S' => nHas 5 1024 S' (xs ++ mTk (fun q => S.2.1 k0 0 (a + q)) n) ∧ nSame (nX 5) S S') none) ([.ref (mAdM E 0 0), .ref (mAdM E k0 0), .int (nI a), .int (nI n)] : List Value).toArray s 0 0 A) (F0 m 3 ls []) := by
    intro fu
    induction fu with
    | zero => intro j S1 H locs ls  hn hj hinv hH hS hl; omega
    | succ fu ih =>
      intro j S1 H locs ls  hn hj hinv hH hS hl
      refine lv_iload hx hb dX8_add__3 (lv_at hl 4 rfl) ?_
      refine lv_iload_n hx hb dX8_add__5 rfl (lv_at hl 3 rfl) ?_
      refine lv_icmp_ge (tgt := 25) hx hb dX8_add__6 (by decide) (fun h6 => ?_) (fun h6 => ?_)
      · skip
        have hjn : j = n := by have := ge_of (a := n) (by omega) (by omega) h6; omega
        exact mv_retv Cx hr hH hS (by rw [hjn] at hinv; exact hinv) dX8_add__25 hlocks
      · skip
        have hjn : j < n := lt_of (a := n) (by omega) (by omega) h6
        refine lv_aload_n hx hb dX8_add__9 rfl (lv_at hl 0 rfl) ?_
        refine lv_aload_n hx hb dX8_add__10 rfl (lv_at hl 1 rfl) ?_
        refine lv_iload_n hx hb dX8_add__11 rfl (lv_at hl 2 rfl) ?_
        refine lv_iload hx hb dX8_add__12 (lv_at hl 4 rfl) ?_
        refine lv_iadd hx hb dX8_add__14 ?_
        refine mv_bal Cx hG hH hB (a + j) (nI_add a j) (by omega) dX8_add__15 ?_
        refine mv_callV (Y := mLM) (C := RX8) (k := 0) (i := 0) (rest := []) Cx hG hH hS (c_X8_add l E A hO S1 (xs ++ mTk (fun q => S.2.1 k0 0 (a + q)) j) hinv.1 (S1.2.1 k0 0 (a + j)).toInt32 (by rw [List.length_append, mTk_len]; omega)) q_co_X8_add q_ml_X8_104 q_im_X8_add q_se_X8_add q_in_X8 okM_0 rfl rfl hd_X8_add ⟨Nat.le_of_ble_eq_true rfl, Nat.le_of_ble_eq_true rfl⟩ rfl hl.1 rfl (Nat.le_of_ble_eq_true rfl) ⟨Nat.le_of_ble_eq_true rfl, Nat.le_of_ble_eq_true rfl⟩ dX8_add__16 (fun S16 H locs hP16 hH hS => ?_)
        refine W.eq (g2 := F0 m 19 ls []) rfl ?_
        refine lv_iinc (v := nI (j + 1)) (lv' := [(4, .int (nI (j + 1))), (0, .ref (mAdM E 0 0)), (1, .ref (mAdM E k0 0)), (2, .int (nI a)), (3, .int (nI n))]) hx hb dX8_add__19 hl (k := 4) rfl (i2_1 j) (by decide) rfl (fun ls hl => ?_)
        refine lv_goto (tgt := 3) hx hb dX8_add__22 (by decide) ?_
        exact ih (j + 1) S16 _ _ ls  (by omega) (by omega) (⟨by have h := hP16.1; rw [Int8.toInt8_toInt32, (hinv.2 k0 (a + j) hne).2.1, List.append_assoc] at h; simpa [mTk, List.range_succ] using h, hinv.2.tr hP16.2⟩) hH hS (lv_sub hl [1, 2, 3, 4, 0] rfl)
  exact lp (n - 0 + 1) 0 S _ _ ls  (by omega) (by omega) (⟨by simpa [mTk] using hxs, nSame.rf⟩) hH hS (lv_sub hl [1, 2, 3, 4, 0] rfl)

set_option maxHeartbeats 4000000 in
set_option maxRecDepth 100000 in
theorem c_X8_turn (l : Launch) (E : mEv) (A : Nat → Prop) (hO : mOwn mLM E A) (S : mSt) (x : Int64) (n : Int32) : Met l yX8_turn (Cond.code yX8_turn cX8_turn 3 (some .long) :: mv_ws) (mRm 0 0) (mPc mLM E A S [.long x, .int n]) (mQ mLM E A (fun S' => S' = S) (some (.long (trn x n)))) 0 0 A := by
  refine Met.ofW (cc := cX8_turn) (maxL := 3) (ret := (some .long)) (by decide) rfl ?_
  intro p e s m args below meth c s₁ B hml hv
  obtain ⟨rfl, hG, hH⟩ := hv
  have hx := B.exec
  have hb := B.bytes
  have hr := B.returns
  have hlocks := B.notSynchronized
  have Cx : CallFix p m c cX8_turn 3 s ([.long x, .int n] : List Value).toArray (Cond.code yX8_turn cX8_turn 3 (some .long) :: mv_ws) RX8 := ⟨hx, hb, hml, findClass_of_methodNamed B.named, atoms_spec (ws := Cond.code yX8_turn cX8_turn 3 (some .long) :: mv_ws) B.pre⟩
  have hS : va_S A s.heap s.heap [] := va_S.rf
  have hl := lv_entry ([.long x, .int n]) (n := 3) (Nat.le_of_ble_eq_true rfl)
  rw [lg_entry_eq]
  generalize (lg_sl ([.long x, .int n]) ++ List.replicate (3 - (lg_sl ([.long x, .int n])).length) Slot.unset).toArray = ls at hl ⊢
  have hl : lv_has ls 3 [(0, .long x), (2, .int n)] := hl
  refine lv_lload_n hx hb dX8_turn_0 rfl (lv_at hl 0 rfl) ?_
  refine lv_iload_n hx hb dX8_turn_1 rfl (lv_at hl 1 rfl) ?_
  refine lv_lshr hx hb dX8_turn_2 rfl ?_
  refine lv_lload_n hx hb dX8_turn_3 rfl (lv_at hl 0 rfl) ?_
  refine lv_bipush (v := 32) hx hb dX8_turn_4 (by decide) ?_
  refine lv_iload_n hx hb dX8_turn_6 rfl (lv_at hl 1 rfl) ?_
  refine lv_isub hx hb dX8_turn_7 ?_
  refine lv_lshl hx hb dX8_turn_8 rfl ?_
  refine lv_lor hx hb dX8_turn_9 ?_
  refine lv_ldc2 hx hb Cx.2.2.2.1 (Cx.2.2.2.2 _ (List.mem_cons_of_mem _ q_k_X8_115)) dX8_turn_10 ?_
  refine lv_land hx hb dX8_turn_13 ?_
  exact mv_retl Cx hr hH hS (rfl) (rfl) dX8_turn_14 hlocks

set_option maxHeartbeats 4000000 in
set_option maxRecDepth 100000 in
theorem c_X8_same (l : Launch) (E : mEv) (A : Nat → Prop) (hO : mOwn mLM E A) (S : mSt) (k0 n0 : Nat) (hB : mIsB mLM k0 0 n0) (a : Nat) (ha : a + 32 ≤ n0) (k1 n1 : Nat) (hB1 : mIsB mLM k1 0 n1) (b : Nat) (hb1 : b + 32 ≤ n1) : Met l yX8_same (Cond.code yX8_same cX8_same 5 (some .boolean) :: mv_ws) (mRm 0 0) (mPc mLM E A S [.ref (mAdM E k0 0), .int (nI a), .ref (mAdM E k1 0), .int (nI b)]) (mQ mLM E A (fun S' => S' = S) (some (.int (if nEq (S.2.1 k0 0) (S.2.1 k1 0) a b = true then 1 else 0)))) 0 0 A := by
  refine Met.ofW (cc := cX8_same) (maxL := 5) (ret := (some .boolean)) (by decide) rfl ?_
  intro p e s m args below meth c s₁ B hml hv
  obtain ⟨rfl, hG, hH⟩ := hv
  have hx := B.exec
  have hb := B.bytes
  have hr := B.returns
  have hlocks := B.notSynchronized
  have Cx : CallFix p m c cX8_same 5 s ([.ref (mAdM E k0 0), .int (nI a), .ref (mAdM E k1 0), .int (nI b)] : List Value).toArray (Cond.code yX8_same cX8_same 5 (some .boolean) :: mv_ws) RX8 := ⟨hx, hb, hml, findClass_of_methodNamed B.named, atoms_spec (ws := Cond.code yX8_same cX8_same 5 (some .boolean) :: mv_ws) B.pre⟩
  have hS : va_S A s.heap s.heap [] := va_S.rf
  have hn0 := hB.2.1
  have hn1 := hB1.2.1
  have hl := lv_entry ([.ref (mAdM E k0 0), .int (nI a), .ref (mAdM E k1 0), .int (nI b)]) (n := 5) (Nat.le_of_ble_eq_true rfl)
  rw [lg_entry_eq]
  generalize (lg_sl ([.ref (mAdM E k0 0), .int (nI a), .ref (mAdM E k1 0), .int (nI b)]) ++ List.replicate (5 - (lg_sl ([.ref (mAdM E k0 0), .int (nI a), .ref (mAdM E k1 0), .int (nI b)])).length) Slot.unset).toArray = ls at hl ⊢
  have hl : lv_has ls 5 [(0, .ref (mAdM E k0 0)), (1, .int (nI a)), (2, .ref (mAdM E k1 0)), (3, .int (nI b))] := hl
  refine lv_iconst (v := 0) hx hb dX8_same_0 (by decide) ?_
  refine mv_eqi (x' := nI 0) (rfl) ?_
  refine lv_istore (lv' := [(4, .int (nI 0)), (0, .ref (mAdM E k0 0)), (1, .int (nI a)), (2, .ref (mAdM E k1 0)), (3, .int (nI b))]) hx hb dX8_same_1 hl (by decide) rfl (fun ls hl => ?_)
  have lp : ∀ (fu j : Nat) (S1 : mSt) (H : Heap) (locs : List Loc) (ls : Array Slot) , 32 - j < fu → j ≤ 32 → (S1 = S ∧ ∀ q, q < j → S.2.1 k0 0 (a + q) = S.2.1 k1 0 (b + q)) → mHold mLM E S1 H → va_S A s.heap H locs → lv_has ls 5 [(0, .ref (mAdM E k0 0)), (1, .int (nI a)), (2, .ref (mAdM E k1 0)), (3, .int (nI b)), (4, .int (nI j))] → W p l e (headSpec (Cond.code yX8_same cX8_same 5 (some .boolean) :: mv_ws) (mRm 0 0)).room s m ([.ref (mAdM E k0 0), .int (nI a), .ref (mAdM E k1 0), .int (nI b)] : List Value).toArray below meth c H locs 0 0 (MQ below (mQ mLM E A (fun S' => S' = S) (some (.int (if nEq (S.2.1 k0 0) (S.2.1 k1 0) a b = true then 1 else 0)))) ([.ref (mAdM E k0 0), .int (nI a), .ref (mAdM E k1 0), .int (nI b)] : List Value).toArray s 0 0 A) (F0 m 3 ls []) := by
    intro fu
    induction fu with
    | zero => intro j S1 H locs ls  hn hj hinv hH hS hl; omega
    | succ fu ih =>
      intro j S1 H locs ls  hn hj hinv hH hS hl
      have hH := mv_S hinv.1 hH
      refine lv_iload hx hb dX8_same_3 (lv_at hl 4 rfl) ?_
      refine lv_bipush (v := 32) hx hb dX8_same_5 (by decide) ?_
      refine lv_icmp_ge (tgt := 33) hx hb dX8_same_7 (by decide) (fun h7 => ?_) (fun h7 => ?_)
      · skip
        have hj32 : j = 32 := by have := ge_of (a := 32) (by decide) (by omega) h7; omega
        refine lv_iconst (v := 1) hx hb dX8_same_33 (by decide) ?_
        exact mv_retz Cx hr hH hS (Or.inr rfl) ((if_pos (mEq_iff.mpr (fun q hq => hinv.2 q (by omega)))).symm) (rfl) dX8_same_34 hlocks
      · skip
        have hj32 : j < 32 := lt_of (a := 32) (by decide) (by omega) h7
        refine lv_aload_n hx hb dX8_same_10 rfl (lv_at hl 0 rfl) ?_
        refine lv_iload_n hx hb dX8_same_11 rfl (lv_at hl 1 rfl) ?_
        refine lv_iload hx hb dX8_same_12 (lv_at hl 4 rfl) ?_
        refine lv_iadd hx hb dX8_same_14 ?_
        refine mv_bal Cx hG hH hB (a + j) (nI_add a j) (by omega) dX8_same_15 ?_
        refine lv_aload_n hx hb dX8_same_16 rfl (lv_at hl 2 rfl) ?_
        refine lv_iload_n hx hb dX8_same_17 rfl (lv_at hl 3 rfl) ?_
        refine lv_iload hx hb dX8_same_18 (lv_at hl 4 rfl) ?_
        refine lv_iadd hx hb dX8_same_20 ?_
        refine mv_bal Cx hG hH hB1 (b + j) (nI_add b j) (by omega) dX8_same_21 ?_
        refine lv_icmp_eq (tgt := 27) hx hb dX8_same_22 (by decide) (fun h22 => ?_) (fun h22 => ?_)
        · skip
          refine lv_iinc (v := nI (j + 1)) (lv' := [(4, .int (nI (j + 1))), (0, .ref (mAdM E k0 0)), (1, .int (nI a)), (2, .ref (mAdM E k1 0)), (3, .int (nI b))]) hx hb dX8_same_27 hl (k := 4) rfl (i2_1 j) (by decide) rfl (fun ls hl => ?_)
          refine lv_goto (tgt := 3) hx hb dX8_same_30 (by decide) ?_
          exact ih (j + 1) S _ _ ls  (by omega) (by omega) (⟨rfl, fun q hq => by by_cases e : q = j; (subst e; exact i8inj h22); (exact hinv.2 q (by omega))⟩) hH hS (lv_sub hl [1, 2, 3, 4, 0] rfl)
        · skip
          refine lv_iconst (v := 0) hx hb dX8_same_25 (by decide) ?_
          exact mv_retz Cx hr hH hS (Or.inl rfl) ((if_neg (fun h => h22 (congrArg Int8.toInt32 (mEq_iff.mp h j hj32)))).symm) (rfl) dX8_same_26 hlocks
  exact lp (32 - 0 + 1) 0 S _ _ ls  (by omega) (by omega) (⟨rfl, fun q h => absurd h (Nat.not_lt_zero _)⟩) hH hS (lv_sub hl [1, 2, 3, 4, 0] rfl)

set_option maxHeartbeats 4000000 in
set_option maxRecDepth 100000 in
theorem c_X8_macSeed (l : Launch) (E : mEv) (A : Nat → Prop) (hO : mOwn mLM E A) (S : mSt) (x : Int32) : Met l yX8_macSeed (Cond.code yX8_macSeed cX8_macSeed 3 none :: mv_ws) (mRm 0 0) (mPc mLM E A S [.ref (mAdM E 0 0), .int x]) (mQ mLM E A (fun S' => (∀ q, q < 32 → S'.2.1 10 0 q = S.2.1 13 0 q) ∧ nHas 11 1024 S' [x.toInt8] ∧ nSame (fun k j => k = 10 ∨ nX 11 k j) S S') none) 0 0 A := by
  refine Met.ofW (cc := cX8_macSeed) (maxL := 3) (ret := none) (by decide) rfl ?_
  intro p e s m args below meth c s₁ B hml hv
  obtain ⟨rfl, hG, hH⟩ := hv
  have hx := B.exec
  have hb := B.bytes
  have hr := B.returns
  have hlocks := B.notSynchronized
  have Cx : CallFix p m c cX8_macSeed 3 s ([.ref (mAdM E 0 0), .int x] : List Value).toArray (Cond.code yX8_macSeed cX8_macSeed 3 none :: mv_ws) RX8 := ⟨hx, hb, hml, findClass_of_methodNamed B.named, atoms_spec (ws := Cond.code yX8_macSeed cX8_macSeed 3 none :: mv_ws) B.pre⟩
  have hS : va_S A s.heap s.heap [] := va_S.rf
  have hl := lv_entry ([.ref (mAdM E 0 0), .int x]) (n := 3) (Nat.le_of_ble_eq_true rfl)
  rw [lg_entry_eq]
  generalize (lg_sl ([.ref (mAdM E 0 0), .int x]) ++ List.replicate (3 - (lg_sl ([.ref (mAdM E 0 0), .int x])).length) Slot.unset).toArray = ls at hl ⊢
  have hl : lv_has ls 3 [(0, .ref (mAdM E 0 0)), (1, .int x)] := hl
  refine lv_iconst (v := 0) hx hb dX8_macSeed_0 (by decide) ?_
  refine mv_eqi (x' := nI 0) (rfl) ?_
  refine lv_istore_n (lv' := [(2, .int (nI 0)), (0, .ref (mAdM E 0 0)), (1, .int x)]) hx hb dX8_macSeed_1 rfl hl (by decide) rfl (fun ls hl => ?_)
  have lp : ∀ (fu j : Nat) (S1 : mSt) (H : Heap) (locs : List Loc) (ls : Array Slot) , 32 - j < fu → j ≤ 32 → ((∀ q, q < j → S1.2.1 10 0 q = S.2.1 13 0 q) ∧ nSame (fun k _ => k = 10) S S1) → mHold mLM E S1 H → va_S A s.heap H locs → lv_has ls 3 [(0, .ref (mAdM E 0 0)), (1, .int x), (2, .int (nI j))] → W p l e (headSpec (Cond.code yX8_macSeed cX8_macSeed 3 none :: mv_ws) (mRm 0 0)).room s m ([.ref (mAdM E 0 0), .int x] : List Value).toArray below meth c H locs 0 0 (MQ below (mQ mLM E A (fun S' => (∀ q, q < 32 → S'.2.1 10 0 q = S.2.1 13 0 q) ∧ nHas 11 1024 S' [x.toInt8] ∧ nSame (fun k j => k = 10 ∨ nX 11 k j) S S') none) ([.ref (mAdM E 0 0), .int x] : List Value).toArray s 0 0 A) (F0 m 2 ls []) := by
    intro fu
    induction fu with
    | zero => intro j S1 H locs ls  hn hj hinv hH hS hl; omega
    | succ fu ih =>
      intro j S1 H locs ls  hn hj hinv hH hS hl
      refine lv_iload_n hx hb dX8_macSeed_2 rfl (lv_at hl 2 rfl) ?_
      refine lv_bipush (v := 32) hx hb dX8_macSeed_3 (by decide) ?_
      refine lv_icmp_ge (tgt := 26) hx hb dX8_macSeed_5 (by decide) (fun h5 => ?_) (fun h5 => ?_)
      · skip
        have hj32 : j = 32 := by have := ge_of (a := 32) (by decide) (by omega) h5; omega
        refine lv_aload_n hx hb dX8_macSeed_26 rfl (lv_at hl 0 rfl) ?_
        refine g_X8_macText Cx hG hH q_fl_X8_32 dX8_macSeed_27 ?_
        refine lv_iconst (v := 0) hx hb dX8_macSeed_30 (by decide) ?_
        refine lv_iload_n hx hb dX8_macSeed_31 rfl (lv_at hl 1 rfl) ?_
        refine lv_i2b hx hb dX8_macSeed_32 rfl ?_
        refine mv_bas8 Cx hG hO hH hS isM_11 0 x.toInt8 rfl (rfl) (by decide) dX8_macSeed_33 (fun H locs hH hS => ?_)
        refine lv_aload_n hx hb dX8_macSeed_34 rfl (lv_at hl 0 rfl) ?_
        refine lv_iconst (v := 1) hx hb dX8_macSeed_35 (by decide) ?_
        refine p_X8_macCount Cx hG hO hH hS q_fl_X8_131 dX8_macSeed_36 (fun H locs hH hS => ?_)
        exact mv_retv Cx hr hH hS (⟨fun q hq => (show m3 S1.2.1 11 0 0 x.toInt8 10 0 q = _ from m3_n _ _ (by omega)).trans (hinv.1 q (by omega)), ⟨by simp [mM, m3]; rfl, by simp, fun q hq => by (have e : q = 0 := by simpa using hq); subst e; simp [mM, mB, m3]⟩, ((hinv.2.wk (fun _ _ h => Or.inl h)).tr (nSame.B (X := fun k j => k = 10 ∨ nX 11 k j) (Or.inr (Or.inr rfl)))).tr (nSame.M (X := fun k j => k = 10 ∨ nX 11 k j) (Or.inr (Or.inl ⟨rfl, rfl⟩)))⟩) dX8_macSeed_39 hlocks
      · skip
        have hj32 : j < 32 := lt_of (a := 32) (by decide) (by omega) h5
        refine lv_aload_n hx hb dX8_macSeed_8 rfl (lv_at hl 0 rfl) ?_
        refine g_X8_macKey Cx hG hH q_fl_X8_29 dX8_macSeed_9 ?_
        refine lv_iload_n hx hb dX8_macSeed_12 rfl (lv_at hl 2 rfl) ?_
        refine lv_aload_n hx hb dX8_macSeed_13 rfl (lv_at hl 0 rfl) ?_
        refine g_X8_seed Cx hG hH q_fl_X8_35 dX8_macSeed_14 ?_
        refine lv_iload_n hx hb dX8_macSeed_17 rfl (lv_at hl 2 rfl) ?_
        refine mv_bal Cx hG hH isM_13 j (rfl) (by omega) dX8_macSeed_18 ?_
        refine mv_bas8 Cx hG hO hH hS isM_10 j (S1.2.1 13 0 j) rfl (rfl) (by omega) dX8_macSeed_19 (fun H locs hH hS => ?_)
        refine lv_iinc (v := nI (j + 1)) (lv' := [(2, .int (nI (j + 1))), (0, .ref (mAdM E 0 0)), (1, .int x)]) hx hb dX8_macSeed_20 hl (k := 2) rfl (i2_1 j) (by decide) rfl (fun ls hl => ?_)
        refine lv_goto (tgt := 2) hx hb dX8_macSeed_23 (by decide) ?_
        exact ih (j + 1) (mB S1 10 0 j (S1.2.1 13 0 j)) _ _ ls  (by omega) (by omega) (⟨fun q hq => by by_cases e : q = j; (subst e; simp [mB, m3]; exact (hinv.2 13 q (show ¬ (13 : Nat) = 10 by decide)).2.1); (refine (m3_n _ _ (by omega)).trans (hinv.1 q (by omega))), hinv.2.tr (nSame.B rfl)⟩) hH hS (lv_sub hl [1, 2, 0] rfl)
  exact lp (32 - 0 + 1) 0 S _ _ ls  (by omega) (by omega) (⟨fun q h => absurd h (Nat.not_lt_zero _), nSame.rf⟩) hH hS (lv_sub hl [1, 2, 0] rfl)

set_option maxHeartbeats 4000000 in
set_option maxRecDepth 100000 in
theorem c_X8_put (l : Launch) (E : mEv) (A : Nat → Prop) (hO : mOwn mLM E A) (S : mSt) (xs : List Int8) (hxs : nHas 1 400 S xs) (x : Int32) (hle : xs.length + 4 ≤ 400) : Met l yX8_put (Cond.code yX8_put cX8_put 3 none :: mv_ws) (mRm 0 0) (mPc mLM E A S [.ref (mAdM E 0 0), .int x]) (mQ mLM E A (fun S' => nHas 1 400 S' (xs ++ w4 x) ∧ nSame (nX 1) S S') none) 0 0 A := by
  refine Met.ofW (cc := cX8_put) (maxL := 3) (ret := none) (by decide) rfl ?_
  intro p e s m args below meth c s₁ B hml hv
  obtain ⟨rfl, hG, hH⟩ := hv
  have hx := B.exec
  have hb := B.bytes
  have hr := B.returns
  have hlocks := B.notSynchronized
  have Cx : CallFix p m c cX8_put 3 s ([.ref (mAdM E 0 0), .int x] : List Value).toArray (Cond.code yX8_put cX8_put 3 none :: mv_ws) RX8 := ⟨hx, hb, hml, findClass_of_methodNamed B.named, atoms_spec (ws := Cond.code yX8_put cX8_put 3 none :: mv_ws) B.pre⟩
  have hS : va_S A s.heap s.heap [] := va_S.rf
  have hl := lv_entry ([.ref (mAdM E 0 0), .int x]) (n := 3) (Nat.le_of_ble_eq_true rfl)
  rw [lg_entry_eq]
  generalize (lg_sl ([.ref (mAdM E 0 0), .int x]) ++ List.replicate (3 - (lg_sl ([.ref (mAdM E 0 0), .int x])).length) Slot.unset).toArray = ls at hl ⊢
  have hl : lv_has ls 3 [(0, .ref (mAdM E 0 0)), (1, .int x)] := hl
  refine lv_bipush (v := 24) hx hb dX8_put_0 (by decide) ?_
  refine lv_istore_n (lv' := [(2, .int 24), (0, .ref (mAdM E 0 0)), (1, .int x)]) hx hb dX8_put_2 rfl hl (by decide) rfl (fun ls hl => ?_)
  refine lv_iload_n hx hb dX8_put_3 rfl (lv_at hl 0 rfl) ?_
  refine lv_if_lt (tgt := 36) hx hb dX8_put_4 (by decide) (fun h4 => ?_) (fun h4 => ?_)
  · skip
    exact absurd h4 (by decide)
  · skip
    refine lv_aload_n hx hb dX8_put_7 rfl (lv_at hl 1 rfl) ?_
    refine g_X8_tape Cx hG hH q_fl_X8_9 dX8_put_8 ?_
    refine lv_aload_n hx hb dX8_put_11 rfl (lv_at hl 1 rfl) ?_
    refine g_X8_tapeLength Cx hG hH q_fl_X8_137 dX8_put_12 ?_
    refine mv_eqi (x' := nI (xs.length + 0)) (hxs.1) ?_
    refine lv_iload_n hx hb dX8_put_15 rfl (lv_at hl 2 rfl) ?_
    refine lv_iload_n hx hb dX8_put_16 rfl (lv_at hl 0 rfl) ?_
    refine lv_ishr hx hb dX8_put_17 ?_
    refine lv_i2b hx hb dX8_put_18 rfl ?_
    refine mv_bas8 Cx hG hO hH hS isM_1 (xs.length + 0) ((x >>> (24 &&& 31)).toInt8) rfl (rfl) (by omega) dX8_put_19 (fun H locs hH hS => ?_)
    refine lv_aload_n hx hb dX8_put_20 rfl (lv_at hl 1 rfl) ?_
    refine lv_dup hx hb dX8_put_21 rfl ?_
    refine g_X8_tapeLength Cx hG hH q_fl_X8_137 dX8_put_22 ?_
    refine mv_eqi (x' := nI (xs.length + 0)) (by simpa [mB] using hxs.1) ?_
    refine lv_iconst (v := 1) hx hb dX8_put_25 (by decide) ?_
    refine lv_iadd hx hb dX8_put_26 ?_
    refine mv_eqi (x' := nI (xs.length + 1)) (nI_1 _) ?_
    refine p_X8_tapeLength Cx hG hO hH hS q_fl_X8_137 dX8_put_27 (fun H locs hH hS => ?_)
    have hq1 : nHas 1 400 (mM (mB S 1 0 (xs.length + 0) ((x >>> (24 &&& 31)).toInt8)) 0 0 1 (nI (xs.length + 1))) (xs ++ [(x >>> ((24 : Int32) &&& 31)).toInt8]) := by have h := nHas.put (b := (x >>> ((24 : Int32) &&& 31)).toInt8) hxs (by (try simp only [List.length_append, List.length_singleton]); omega); simpa [Int8.toInt8_toInt32] using h
    refine lv_iinc (v := 16) (lv' := [(2, .int 16), (0, .ref (mAdM E 0 0)), (1, .int x)]) hx hb dX8_put_30 hl (k := 0) rfl (by decide) (by decide) rfl (fun ls hl => ?_)
    refine lv_goto (tgt := 3) hx hb dX8_put_33 (by decide) ?_
    refine lv_iload_n hx hb dX8_put_3 rfl (lv_at hl 0 rfl) ?_
    refine lv_if_lt (tgt := 36) hx hb dX8_put_4 (by decide) (fun h4_1 => ?_) (fun h4_1 => ?_)
    · skip
      exact absurd h4_1 (by decide)
    · skip
      refine lv_aload_n hx hb dX8_put_7 rfl (lv_at hl 1 rfl) ?_
      refine g_X8_tape Cx hG hH q_fl_X8_9 dX8_put_8 ?_
      refine lv_aload_n hx hb dX8_put_11 rfl (lv_at hl 1 rfl) ?_
      refine g_X8_tapeLength Cx hG hH q_fl_X8_137 dX8_put_12 ?_
      refine mv_eqi (x' := nI (xs.length + 1)) (hq1.1.trans (by simp)) ?_
      refine lv_iload_n hx hb dX8_put_15 rfl (lv_at hl 2 rfl) ?_
      refine lv_iload_n hx hb dX8_put_16 rfl (lv_at hl 0 rfl) ?_
      refine lv_ishr hx hb dX8_put_17 ?_
      refine lv_i2b hx hb dX8_put_18 rfl ?_
      refine mv_bas8 Cx hG hO hH hS isM_1 (xs.length + 1) ((x >>> (16 &&& 31)).toInt8) rfl (rfl) (by omega) dX8_put_19 (fun H locs hH hS => ?_)
      refine lv_aload_n hx hb dX8_put_20 rfl (lv_at hl 1 rfl) ?_
      refine lv_dup hx hb dX8_put_21 rfl ?_
      refine g_X8_tapeLength Cx hG hH q_fl_X8_137 dX8_put_22 ?_
      refine mv_eqi (x' := nI (xs.length + 1)) (by simpa [mB] using hq1.1) ?_
      refine lv_iconst (v := 1) hx hb dX8_put_25 (by decide) ?_
      refine lv_iadd hx hb dX8_put_26 ?_
      refine mv_eqi (x' := nI (xs.length + 2)) (nI_1 _) ?_
      refine p_X8_tapeLength Cx hG hO hH hS q_fl_X8_137 dX8_put_27 (fun H locs hH hS => ?_)
      have hq2 : nHas 1 400 (mM (mB (mM (mB S 1 0 (xs.length + 0) ((x >>> (24 &&& 31)).toInt8)) 0 0 1 (nI (xs.length + 1))) 1 0 (xs.length + 1) ((x >>> (16 &&& 31)).toInt8)) 0 0 1 (nI (xs.length + 2))) (xs ++ [(x >>> ((24 : Int32) &&& 31)).toInt8] ++ [(x >>> ((16 : Int32) &&& 31)).toInt8]) := by have h := nHas.put (b := (x >>> ((16 : Int32) &&& 31)).toInt8) hq1 (by (try simp only [List.length_append, List.length_singleton]); omega); simpa [Int8.toInt8_toInt32] using h
      refine lv_iinc (v := 8) (lv' := [(2, .int 8), (0, .ref (mAdM E 0 0)), (1, .int x)]) hx hb dX8_put_30 hl (k := 0) rfl (by decide) (by decide) rfl (fun ls hl => ?_)
      refine lv_goto (tgt := 3) hx hb dX8_put_33 (by decide) ?_
      refine lv_iload_n hx hb dX8_put_3 rfl (lv_at hl 0 rfl) ?_
      refine lv_if_lt (tgt := 36) hx hb dX8_put_4 (by decide) (fun h4_2 => ?_) (fun h4_2 => ?_)
      · skip
        exact absurd h4_2 (by decide)
      · skip
        refine lv_aload_n hx hb dX8_put_7 rfl (lv_at hl 1 rfl) ?_
        refine g_X8_tape Cx hG hH q_fl_X8_9 dX8_put_8 ?_
        refine lv_aload_n hx hb dX8_put_11 rfl (lv_at hl 1 rfl) ?_
        refine g_X8_tapeLength Cx hG hH q_fl_X8_137 dX8_put_12 ?_
        refine mv_eqi (x' := nI (xs.length + 2)) (hq2.1.trans (by simp)) ?_
        refine lv_iload_n hx hb dX8_put_15 rfl (lv_at hl 2 rfl) ?_
        refine lv_iload_n hx hb dX8_put_16 rfl (lv_at hl 0 rfl) ?_
        refine lv_ishr hx hb dX8_put_17 ?_
        refine lv_i2b hx hb dX8_put_18 rfl ?_
        refine mv_bas8 Cx hG hO hH hS isM_1 (xs.length + 2) ((x >>> (8 &&& 31)).toInt8) rfl (rfl) (by omega) dX8_put_19 (fun H locs hH hS => ?_)
        refine lv_aload_n hx hb dX8_put_20 rfl (lv_at hl 1 rfl) ?_
        refine lv_dup hx hb dX8_put_21 rfl ?_
        refine g_X8_tapeLength Cx hG hH q_fl_X8_137 dX8_put_22 ?_
        refine mv_eqi (x' := nI (xs.length + 2)) (by simpa [mB] using hq2.1) ?_
        refine lv_iconst (v := 1) hx hb dX8_put_25 (by decide) ?_
        refine lv_iadd hx hb dX8_put_26 ?_
        refine mv_eqi (x' := nI (xs.length + 3)) (nI_1 _) ?_
        refine p_X8_tapeLength Cx hG hO hH hS q_fl_X8_137 dX8_put_27 (fun H locs hH hS => ?_)
        have hq3 : nHas 1 400 (mM (mB (mM (mB (mM (mB S 1 0 (xs.length + 0) ((x >>> (24 &&& 31)).toInt8)) 0 0 1 (nI (xs.length + 1))) 1 0 (xs.length + 1) ((x >>> (16 &&& 31)).toInt8)) 0 0 1 (nI (xs.length + 2))) 1 0 (xs.length + 2) ((x >>> (8 &&& 31)).toInt8)) 0 0 1 (nI (xs.length + 3))) (xs ++ [(x >>> ((24 : Int32) &&& 31)).toInt8] ++ [(x >>> ((16 : Int32) &&& 31)).toInt8] ++ [(x >>> ((8 : Int32) &&& 31)).toInt8]) := by have h := nHas.put (b := (x >>> ((8 : Int32) &&& 31)).toInt8) hq2 (by (try simp only [List.length_append, List.length_singleton]); omega); simpa [Int8.toInt8_toInt32] using h
        refine lv_iinc (v := 0) (lv' := [(2, .int 0), (0, .ref (mAdM E 0 0)), (1, .int x)]) hx hb dX8_put_30 hl (k := 0) rfl (by decide) (by decide) rfl (fun ls hl => ?_)
        refine lv_goto (tgt := 3) hx hb dX8_put_33 (by decide) ?_
        refine lv_iload_n hx hb dX8_put_3 rfl (lv_at hl 0 rfl) ?_
        refine lv_if_lt (tgt := 36) hx hb dX8_put_4 (by decide) (fun h4_3 => ?_) (fun h4_3 => ?_)
        · skip
          exact absurd h4_3 (by decide)
        · skip
          refine lv_aload_n hx hb dX8_put_7 rfl (lv_at hl 1 rfl) ?_
          refine g_X8_tape Cx hG hH q_fl_X8_9 dX8_put_8 ?_
          refine lv_aload_n hx hb dX8_put_11 rfl (lv_at hl 1 rfl) ?_
          refine g_X8_tapeLength Cx hG hH q_fl_X8_137 dX8_put_12 ?_
          refine mv_eqi (x' := nI (xs.length + 3)) (hq3.1.trans (by simp)) ?_
          refine lv_iload_n hx hb dX8_put_15 rfl (lv_at hl 2 rfl) ?_
          refine lv_iload_n hx hb dX8_put_16 rfl (lv_at hl 0 rfl) ?_
          refine lv_ishr hx hb dX8_put_17 ?_
          refine lv_i2b hx hb dX8_put_18 rfl ?_
          refine mv_bas8 Cx hG hO hH hS isM_1 (xs.length + 3) ((x >>> (0 &&& 31)).toInt8) rfl (rfl) (by omega) dX8_put_19 (fun H locs hH hS => ?_)
          refine lv_aload_n hx hb dX8_put_20 rfl (lv_at hl 1 rfl) ?_
          refine lv_dup hx hb dX8_put_21 rfl ?_
          refine g_X8_tapeLength Cx hG hH q_fl_X8_137 dX8_put_22 ?_
          refine mv_eqi (x' := nI (xs.length + 3)) (by simpa [mB] using hq3.1) ?_
          refine lv_iconst (v := 1) hx hb dX8_put_25 (by decide) ?_
          refine lv_iadd hx hb dX8_put_26 ?_
          refine mv_eqi (x' := nI (xs.length + 4)) (nI_1 _) ?_
          refine p_X8_tapeLength Cx hG hO hH hS q_fl_X8_137 dX8_put_27 (fun H locs hH hS => ?_)
          have hq4 : nHas 1 400 (mM (mB (mM (mB (mM (mB (mM (mB S 1 0 (xs.length + 0) ((x >>> (24 &&& 31)).toInt8)) 0 0 1 (nI (xs.length + 1))) 1 0 (xs.length + 1) ((x >>> (16 &&& 31)).toInt8)) 0 0 1 (nI (xs.length + 2))) 1 0 (xs.length + 2) ((x >>> (8 &&& 31)).toInt8)) 0 0 1 (nI (xs.length + 3))) 1 0 (xs.length + 3) ((x >>> (0 &&& 31)).toInt8)) 0 0 1 (nI (xs.length + 4))) (xs ++ [(x >>> ((24 : Int32) &&& 31)).toInt8] ++ [(x >>> ((16 : Int32) &&& 31)).toInt8] ++ [(x >>> ((8 : Int32) &&& 31)).toInt8] ++ [(x >>> ((0 : Int32) &&& 31)).toInt8]) := by have h := nHas.put (b := (x >>> ((0 : Int32) &&& 31)).toInt8) hq3 (by (try simp only [List.length_append, List.length_singleton]); omega); simpa [Int8.toInt8_toInt32] using h
          refine lv_iinc (v := (-8 : Int32)) (lv' := [(2, .int (-8 : Int32)), (0, .ref (mAdM E 0 0)), (1, .int x)]) hx hb dX8_put_30 hl (k := 0) rfl (by decide) (by decide) rfl (fun ls hl => ?_)
          refine lv_goto (tgt := 3) hx hb dX8_put_33 (by decide) ?_
          refine lv_iload_n hx hb dX8_put_3 rfl (lv_at hl 0 rfl) ?_
          refine lv_if_lt (tgt := 36) hx hb dX8_put_4 (by decide) (fun h4_4 => ?_) (fun h4_4 => ?_)
          · skip
            exact mv_retv Cx hr hH hS (⟨by have h := hq4; rw [w4_sar]; simpa using h, (((((((nSame.B (Or.inr rfl)).tr (nSame.M (Or.inl ⟨rfl, rfl⟩))).tr (nSame.B (Or.inr rfl))).tr (nSame.M (Or.inl ⟨rfl, rfl⟩))).tr (nSame.B (Or.inr rfl))).tr (nSame.M (Or.inl ⟨rfl, rfl⟩))).tr (nSame.B (Or.inr rfl))).tr (nSame.M (Or.inl ⟨rfl, rfl⟩))⟩) dX8_put_36 hlocks
          · skip
            exact absurd (by decide) h4_4

set_option maxHeartbeats 4000000 in
set_option maxRecDepth 100000 in
theorem c_X8_number (l : Launch) (E : mEv) (A : Nat → Prop) (hO : mOwn mLM E A) (S : mSt) (xs : List Int8) (hxs : nHas 11 1024 S xs) (x : Int32) (hle : xs.length + 4 ≤ 1024) : Met l yX8_number (Cond.code yX8_number cX8_number 3 none :: mv_ws) (mRm 0 0) (mPc mLM E A S [.ref (mAdM E 0 0), .int x]) (mQ mLM E A (fun S' => nHas 11 1024 S' (xs ++ w4 x) ∧ nSame (nX 11) S S') none) 0 0 A := by
  refine Met.ofW (cc := cX8_number) (maxL := 3) (ret := none) (by decide) rfl ?_
  intro p e s m args below meth c s₁ B hml hv
  obtain ⟨rfl, hG, hH⟩ := hv
  have hx := B.exec
  have hb := B.bytes
  have hr := B.returns
  have hlocks := B.notSynchronized
  have Cx : CallFix p m c cX8_number 3 s ([.ref (mAdM E 0 0), .int x] : List Value).toArray (Cond.code yX8_number cX8_number 3 none :: mv_ws) RX8 := ⟨hx, hb, hml, findClass_of_methodNamed B.named, atoms_spec (ws := Cond.code yX8_number cX8_number 3 none :: mv_ws) B.pre⟩
  have hS : va_S A s.heap s.heap [] := va_S.rf
  have hl := lv_entry ([.ref (mAdM E 0 0), .int x]) (n := 3) (Nat.le_of_ble_eq_true rfl)
  rw [lg_entry_eq]
  generalize (lg_sl ([.ref (mAdM E 0 0), .int x]) ++ List.replicate (3 - (lg_sl ([.ref (mAdM E 0 0), .int x])).length) Slot.unset).toArray = ls at hl ⊢
  have hl : lv_has ls 3 [(0, .ref (mAdM E 0 0)), (1, .int x)] := hl
  refine lv_bipush (v := 24) hx hb dX8_number_0 (by decide) ?_
  refine lv_istore_n (lv' := [(2, .int 24), (0, .ref (mAdM E 0 0)), (1, .int x)]) hx hb dX8_number_2 rfl hl (by decide) rfl (fun ls hl => ?_)
  refine lv_iload_n hx hb dX8_number_3 rfl (lv_at hl 0 rfl) ?_
  refine lv_if_lt (tgt := 36) hx hb dX8_number_4 (by decide) (fun h4 => ?_) (fun h4 => ?_)
  · skip
    exact absurd h4 (by decide)
  · skip
    refine lv_aload_n hx hb dX8_number_7 rfl (lv_at hl 1 rfl) ?_
    refine g_X8_macText Cx hG hH q_fl_X8_32 dX8_number_8 ?_
    refine lv_aload_n hx hb dX8_number_11 rfl (lv_at hl 1 rfl) ?_
    refine g_X8_macCount Cx hG hH q_fl_X8_131 dX8_number_12 ?_
    refine mv_eqi (x' := nI (xs.length + 0)) (hxs.1) ?_
    refine lv_iload_n hx hb dX8_number_15 rfl (lv_at hl 2 rfl) ?_
    refine lv_iload_n hx hb dX8_number_16 rfl (lv_at hl 0 rfl) ?_
    refine lv_ishr hx hb dX8_number_17 ?_
    refine lv_i2b hx hb dX8_number_18 rfl ?_
    refine mv_bas8 Cx hG hO hH hS isM_11 (xs.length + 0) ((x >>> (24 &&& 31)).toInt8) rfl (rfl) (by omega) dX8_number_19 (fun H locs hH hS => ?_)
    refine lv_aload_n hx hb dX8_number_20 rfl (lv_at hl 1 rfl) ?_
    refine lv_dup hx hb dX8_number_21 rfl ?_
    refine g_X8_macCount Cx hG hH q_fl_X8_131 dX8_number_22 ?_
    refine mv_eqi (x' := nI (xs.length + 0)) (by simpa [mB] using hxs.1) ?_
    refine lv_iconst (v := 1) hx hb dX8_number_25 (by decide) ?_
    refine lv_iadd hx hb dX8_number_26 ?_
    refine mv_eqi (x' := nI (xs.length + 1)) (nI_1 _) ?_
    refine p_X8_macCount Cx hG hO hH hS q_fl_X8_131 dX8_number_27 (fun H locs hH hS => ?_)
    have hq1 : nHas 11 1024 (mM (mB S 11 0 (xs.length + 0) ((x >>> (24 &&& 31)).toInt8)) 0 0 11 (nI (xs.length + 1))) (xs ++ [(x >>> ((24 : Int32) &&& 31)).toInt8]) := by have h := nHas.put (b := (x >>> ((24 : Int32) &&& 31)).toInt8) hxs (by (try simp only [List.length_append, List.length_singleton]); omega); simpa [Int8.toInt8_toInt32] using h
    refine lv_iinc (v := 16) (lv' := [(2, .int 16), (0, .ref (mAdM E 0 0)), (1, .int x)]) hx hb dX8_number_30 hl (k := 0) rfl (by decide) (by decide) rfl (fun ls hl => ?_)
    refine lv_goto (tgt := 3) hx hb dX8_number_33 (by decide) ?_
    refine lv_iload_n hx hb dX8_number_3 rfl (lv_at hl 0 rfl) ?_
    refine lv_if_lt (tgt := 36) hx hb dX8_number_4 (by decide) (fun h4_1 => ?_) (fun h4_1 => ?_)
    · skip
      exact absurd h4_1 (by decide)
    · skip
      refine lv_aload_n hx hb dX8_number_7 rfl (lv_at hl 1 rfl) ?_
      refine g_X8_macText Cx hG hH q_fl_X8_32 dX8_number_8 ?_
      refine lv_aload_n hx hb dX8_number_11 rfl (lv_at hl 1 rfl) ?_
      refine g_X8_macCount Cx hG hH q_fl_X8_131 dX8_number_12 ?_
      refine mv_eqi (x' := nI (xs.length + 1)) (hq1.1.trans (by simp)) ?_
      refine lv_iload_n hx hb dX8_number_15 rfl (lv_at hl 2 rfl) ?_
      refine lv_iload_n hx hb dX8_number_16 rfl (lv_at hl 0 rfl) ?_
      refine lv_ishr hx hb dX8_number_17 ?_
      refine lv_i2b hx hb dX8_number_18 rfl ?_
      refine mv_bas8 Cx hG hO hH hS isM_11 (xs.length + 1) ((x >>> (16 &&& 31)).toInt8) rfl (rfl) (by omega) dX8_number_19 (fun H locs hH hS => ?_)
      refine lv_aload_n hx hb dX8_number_20 rfl (lv_at hl 1 rfl) ?_
      refine lv_dup hx hb dX8_number_21 rfl ?_
      refine g_X8_macCount Cx hG hH q_fl_X8_131 dX8_number_22 ?_
      refine mv_eqi (x' := nI (xs.length + 1)) (by simpa [mB] using hq1.1) ?_
      refine lv_iconst (v := 1) hx hb dX8_number_25 (by decide) ?_
      refine lv_iadd hx hb dX8_number_26 ?_
      refine mv_eqi (x' := nI (xs.length + 2)) (nI_1 _) ?_
      refine p_X8_macCount Cx hG hO hH hS q_fl_X8_131 dX8_number_27 (fun H locs hH hS => ?_)
      have hq2 : nHas 11 1024 (mM (mB (mM (mB S 11 0 (xs.length + 0) ((x >>> (24 &&& 31)).toInt8)) 0 0 11 (nI (xs.length + 1))) 11 0 (xs.length + 1) ((x >>> (16 &&& 31)).toInt8)) 0 0 11 (nI (xs.length + 2))) (xs ++ [(x >>> ((24 : Int32) &&& 31)).toInt8] ++ [(x >>> ((16 : Int32) &&& 31)).toInt8]) := by have h := nHas.put (b := (x >>> ((16 : Int32) &&& 31)).toInt8) hq1 (by (try simp only [List.length_append, List.length_singleton]); omega); simpa [Int8.toInt8_toInt32] using h
      refine lv_iinc (v := 8) (lv' := [(2, .int 8), (0, .ref (mAdM E 0 0)), (1, .int x)]) hx hb dX8_number_30 hl (k := 0) rfl (by decide) (by decide) rfl (fun ls hl => ?_)
      refine lv_goto (tgt := 3) hx hb dX8_number_33 (by decide) ?_
      refine lv_iload_n hx hb dX8_number_3 rfl (lv_at hl 0 rfl) ?_
      refine lv_if_lt (tgt := 36) hx hb dX8_number_4 (by decide) (fun h4_2 => ?_) (fun h4_2 => ?_)
      · skip
        exact absurd h4_2 (by decide)
      · skip
        refine lv_aload_n hx hb dX8_number_7 rfl (lv_at hl 1 rfl) ?_
        refine g_X8_macText Cx hG hH q_fl_X8_32 dX8_number_8 ?_
        refine lv_aload_n hx hb dX8_number_11 rfl (lv_at hl 1 rfl) ?_
        refine g_X8_macCount Cx hG hH q_fl_X8_131 dX8_number_12 ?_
        refine mv_eqi (x' := nI (xs.length + 2)) (hq2.1.trans (by simp)) ?_
        refine lv_iload_n hx hb dX8_number_15 rfl (lv_at hl 2 rfl) ?_
        refine lv_iload_n hx hb dX8_number_16 rfl (lv_at hl 0 rfl) ?_
        refine lv_ishr hx hb dX8_number_17 ?_
        refine lv_i2b hx hb dX8_number_18 rfl ?_
        refine mv_bas8 Cx hG hO hH hS isM_11 (xs.length + 2) ((x >>> (8 &&& 31)).toInt8) rfl (rfl) (by omega) dX8_number_19 (fun H locs hH hS => ?_)
        refine lv_aload_n hx hb dX8_number_20 rfl (lv_at hl 1 rfl) ?_
        refine lv_dup hx hb dX8_number_21 rfl ?_
        refine g_X8_macCount Cx hG hH q_fl_X8_131 dX8_number_22 ?_
        refine mv_eqi (x' := nI (xs.length + 2)) (by simpa [mB] using hq2.1) ?_
        refine lv_iconst (v := 1) hx hb dX8_number_25 (by decide) ?_
        refine lv_iadd hx hb dX8_number_26 ?_
        refine mv_eqi (x' := nI (xs.length + 3)) (nI_1 _) ?_
        refine p_X8_macCount Cx hG hO hH hS q_fl_X8_131 dX8_number_27 (fun H locs hH hS => ?_)
        have hq3 : nHas 11 1024 (mM (mB (mM (mB (mM (mB S 11 0 (xs.length + 0) ((x >>> (24 &&& 31)).toInt8)) 0 0 11 (nI (xs.length + 1))) 11 0 (xs.length + 1) ((x >>> (16 &&& 31)).toInt8)) 0 0 11 (nI (xs.length + 2))) 11 0 (xs.length + 2) ((x >>> (8 &&& 31)).toInt8)) 0 0 11 (nI (xs.length + 3))) (xs ++ [(x >>> ((24 : Int32) &&& 31)).toInt8] ++ [(x >>> ((16 : Int32) &&& 31)).toInt8] ++ [(x >>> ((8 : Int32) &&& 31)).toInt8]) := by have h := nHas.put (b := (x >>> ((8 : Int32) &&& 31)).toInt8) hq2 (by (try simp only [List.length_append, List.length_singleton]); omega); simpa [Int8.toInt8_toInt32] using h
        refine lv_iinc (v := 0) (lv' := [(2, .int 0), (0, .ref (mAdM E 0 0)), (1, .int x)]) hx hb dX8_number_30 hl (k := 0) rfl (by decide) (by decide) rfl (fun ls hl => ?_)
        refine lv_goto (tgt := 3) hx hb dX8_number_33 (by decide) ?_
        refine lv_iload_n hx hb dX8_number_3 rfl (lv_at hl 0 rfl) ?_
        refine lv_if_lt (tgt := 36) hx hb dX8_number_4 (by decide) (fun h4_3 => ?_) (fun h4_3 => ?_)
        · skip
          exact absurd h4_3 (by decide)
        · skip
          refine lv_aload_n hx hb dX8_number_7 rfl (lv_at hl 1 rfl) ?_
          refine g_X8_macText Cx hG hH q_fl_X8_32 dX8_number_8 ?_
          refine lv_aload_n hx hb dX8_number_11 rfl (lv_at hl 1 rfl) ?_
          refine g_X8_macCount Cx hG hH q_fl_X8_131 dX8_number_12 ?_
          refine mv_eqi (x' := nI (xs.length + 3)) (hq3.1.trans (by simp)) ?_
          refine lv_iload_n hx hb dX8_number_15 rfl (lv_at hl 2 rfl) ?_
          refine lv_iload_n hx hb dX8_number_16 rfl (lv_at hl 0 rfl) ?_
          refine lv_ishr hx hb dX8_number_17 ?_
          refine lv_i2b hx hb dX8_number_18 rfl ?_
          refine mv_bas8 Cx hG hO hH hS isM_11 (xs.length + 3) ((x >>> (0 &&& 31)).toInt8) rfl (rfl) (by omega) dX8_number_19 (fun H locs hH hS => ?_)
          refine lv_aload_n hx hb dX8_number_20 rfl (lv_at hl 1 rfl) ?_
          refine lv_dup hx hb dX8_number_21 rfl ?_
          refine g_X8_macCount Cx hG hH q_fl_X8_131 dX8_number_22 ?_
          refine mv_eqi (x' := nI (xs.length + 3)) (by simpa [mB] using hq3.1) ?_
          refine lv_iconst (v := 1) hx hb dX8_number_25 (by decide) ?_
          refine lv_iadd hx hb dX8_number_26 ?_
          refine mv_eqi (x' := nI (xs.length + 4)) (nI_1 _) ?_
          refine p_X8_macCount Cx hG hO hH hS q_fl_X8_131 dX8_number_27 (fun H locs hH hS => ?_)
          have hq4 : nHas 11 1024 (mM (mB (mM (mB (mM (mB (mM (mB S 11 0 (xs.length + 0) ((x >>> (24 &&& 31)).toInt8)) 0 0 11 (nI (xs.length + 1))) 11 0 (xs.length + 1) ((x >>> (16 &&& 31)).toInt8)) 0 0 11 (nI (xs.length + 2))) 11 0 (xs.length + 2) ((x >>> (8 &&& 31)).toInt8)) 0 0 11 (nI (xs.length + 3))) 11 0 (xs.length + 3) ((x >>> (0 &&& 31)).toInt8)) 0 0 11 (nI (xs.length + 4))) (xs ++ [(x >>> ((24 : Int32) &&& 31)).toInt8] ++ [(x >>> ((16 : Int32) &&& 31)).toInt8] ++ [(x >>> ((8 : Int32) &&& 31)).toInt8] ++ [(x >>> ((0 : Int32) &&& 31)).toInt8]) := by have h := nHas.put (b := (x >>> ((0 : Int32) &&& 31)).toInt8) hq3 (by (try simp only [List.length_append, List.length_singleton]); omega); simpa [Int8.toInt8_toInt32] using h
          refine lv_iinc (v := (-8 : Int32)) (lv' := [(2, .int (-8 : Int32)), (0, .ref (mAdM E 0 0)), (1, .int x)]) hx hb dX8_number_30 hl (k := 0) rfl (by decide) (by decide) rfl (fun ls hl => ?_)
          refine lv_goto (tgt := 3) hx hb dX8_number_33 (by decide) ?_
          refine lv_iload_n hx hb dX8_number_3 rfl (lv_at hl 0 rfl) ?_
          refine lv_if_lt (tgt := 36) hx hb dX8_number_4 (by decide) (fun h4_4 => ?_) (fun h4_4 => ?_)
          · skip
            exact mv_retv Cx hr hH hS (⟨by have h := hq4; rw [w4_sar]; simpa using h, (((((((nSame.B (Or.inr rfl)).tr (nSame.M (Or.inl ⟨rfl, rfl⟩))).tr (nSame.B (Or.inr rfl))).tr (nSame.M (Or.inl ⟨rfl, rfl⟩))).tr (nSame.B (Or.inr rfl))).tr (nSame.M (Or.inl ⟨rfl, rfl⟩))).tr (nSame.B (Or.inr rfl))).tr (nSame.M (Or.inl ⟨rfl, rfl⟩))⟩) dX8_number_36 hlocks
          · skip
            exact absurd (by decide) h4_4
