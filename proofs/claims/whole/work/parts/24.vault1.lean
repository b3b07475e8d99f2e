/-! ===== the vault's private methods ===== -/
theorem b1_of {b : Bool} (h : ¬ (if b = true then (1 : Int32) else 0) = 0) : b = true := Classical.byContradiction (fun q => h (if_neg q))
theorem b0_of {b : Bool} (h : (if b = true then (1 : Int32) else 0) = 0) : ¬ b = true := fun q => by rw [if_pos q] at h; exact absurd h (by decide)
theorem p1_of {P : Prop} [Decidable P] (h : ¬ (if P then (1 : Int32) else 0) = 0) : P := Classical.byContradiction (fun q => h (if_neg q))
theorem p0_of {P : Prop} [Decidable P] (h : (if P then (1 : Int32) else 0) = 0) : ¬ P := fun q => by rw [if_pos q] at h; exact absurd h (by decide)
theorem ix_of {x : Int32} {n : Nat} (hn : n < 2 ^ 31) (h0 : ¬ x < 0) (h1 : ¬ nI n ≤ x) : ∃ i : Nat, i < n ∧ x = nI i := by
  rcases pk_ix x hn with h | h | h
  · exact absurd h h0
  · exact absurd h h1
  · exact h
/-- the session, object, value that a number names, if it is there -/
def seO (S : mSt) (x : Int32) : Option Nat := if x < 0 then none else if nI 4 ≤ x then none else if S.1 19 x.toNatClampNeg 1 = 0 then none else some x.toNatClampNeg
def obO (S : mSt) (x : Int32) : Option Nat := if x < 0 then none else if nI 4 ≤ x then none else if S.1 22 x.toNatClampNeg 3 = 0 then none else some x.toNatClampNeg
def vaO (S : mSt) (x : Int32) : Option Nat := if x < 0 then none else if nI 8 ≤ x then none else if S.1 22 (4 + x.toNatClampNeg) 3 = 0 then none else some x.toNatClampNeg
def voO (S : mSt) (x kd : Int32) : Option Nat := (vaO S x).elim none (fun i => if S.1 26 i 1 = kd then some i else none)
def poO (S : mSt) (x : Int32) : Option (Nat × Nat) := if x = -1 then some (13, 0) else (seO S x).map (fun i => (20, i))
theorem seO_some {S : mSt} {x : Int32} {i : Nat} (h : seO S x = some i) : x = nI i ∧ i < 4 ∧ ¬ S.1 19 i 1 = 0 := by
  unfold seO at h
  split at h
  · cases h
  · split at h
    · cases h
    · rename_i h0 h1
      obtain ⟨j, hj, e⟩ := ix_of (by decide) h0 h1
      subst e
      rw [nI_clamp (by omega)] at h
      split at h
      · cases h
      · cases h
        exact ⟨rfl, hj, by assumption⟩
theorem obO_some {S : mSt} {x : Int32} {i : Nat} (h : obO S x = some i) : x = nI i ∧ i < 4 ∧ ¬ S.1 22 i 3 = 0 := by
  unfold obO at h
  split at h
  · cases h
  · split at h
    · cases h
    · rename_i h0 h1
      obtain ⟨j, hj, e⟩ := ix_of (by decide) h0 h1
      subst e
      rw [nI_clamp (by omega)] at h
      split at h
      · cases h
      · cases h
        exact ⟨rfl, hj, by assumption⟩
theorem vaO_some {S : mSt} {x : Int32} {i : Nat} (h : vaO S x = some i) : x = nI i ∧ i < 8 ∧ ¬ S.1 22 (4 + i) 3 = 0 := by
  unfold vaO at h
  split at h
  · cases h
  · split at h
    · cases h
    · rename_i h0 h1
      obtain ⟨j, hj, e⟩ := ix_of (by decide) h0 h1
      subst e
      rw [nI_clamp (by omega)] at h
      split at h
      · cases h
      · cases h
        exact ⟨rfl, hj, by assumption⟩
theorem voO_some {S : mSt} {x kd : Int32} {i : Nat} (h : voO S x kd = some i) : vaO S x = some i ∧ S.1 26 i 1 = kd := by
  unfold voO at h
  cases hv : vaO S x with
  | none => rw [hv] at h; cases h
  | some j =>
    rw [hv] at h
    simp only [Option.elim_some] at h
    split at h
    · cases h; exact ⟨rfl, by assumption⟩
    · cases h
/-- what comparing with THE KEY answers, and does -/
def akR (S : mSt) (f : Nat → Int8) : Int32 := if S.1 0 0 15 < 4 then (if mEq (S.2.1 11 0) f 0 = true then 0 else -4) else -5
def akS (S : mSt) (f : Nat → Int8) : mSt := if S.1 0 0 15 < 4 then (if mEq (S.2.1 11 0) f 0 = true then S else mM S 0 0 15 (S.1 0 0 15 + 1)) else S
def stOkB (S : mSt) (i : Nat) (ch code clock : Int32) : Bool := (decide (S.1 19 i 4 = 0) || decide (ch = S.1 19 i 5)) && ((decide (S.1 19 i 3 = 0) || decide (S.1 19 i 3 = code)) && (decide (S.1 19 i 6 = 0) || decide (¬ S.1 19 i 7 < clock)))
theorem stOkB_iff {S : mSt} {i : Nat} {ch code clock : Int32} : stOkB S i ch code clock = true ↔ ((S.1 19 i 4 = 0 ∨ ch = S.1 19 i 5) ∧ (S.1 19 i 3 = 0 ∨ S.1 19 i 3 = code) ∧ (S.1 19 i 6 = 0 ∨ ¬ S.1 19 i 7 < clock)) := by
  simp only [stOkB, Bool.and_eq_true, Bool.or_eq_true, decide_eq_true_eq]
def askQ (S : mSt) (t i : Nat) (c : Int32) : Int32 × mSt :=
  if mEq (S.2.1 24 t) (S.2.1 13 0) 0 = true then (-7, S) else
  if mEq (S.2.1 24 t) (S.2.1 20 i) 0 = true then
    (if stOkB S i (S.1 15 0 2) c (S.1 0 0 13) = true then
      (if S.1 19 i 2 = 0 then (0, mM S 19 i 1 0) else
       if akR S (S.2.1 23 t) = 0 then (0, mM (akS S (S.2.1 23 t)) 19 i 1 0) else (akR S (S.2.1 23 t), akS S (S.2.1 23 t)))
     else (-7, S))
  else (-7, S)
def askP (S : mSt) (t : Nat) (x c : Int32) : Int32 × mSt := if x = -1 then (akR S (S.2.1 23 t), akS S (S.2.1 23 t)) else (seO S x).elim (-1, S) (fun i => askQ S t i c)
def cntN (f : Nat → Int32) : Nat → Int32
  | 0 => 0
  | n + 1 => cntN f n + (if f n = 0 then 0 else 1)
set_option maxHeartbeats 4000000 in
set_option maxRecDepth 100000 in
theorem c_X7_takeTapeHash (l : Launch) (E : mEv) (A : Nat → Prop) (hO : mOwn mLC E A) (S : mSt) (ts : List Int8) (hts : bHas S 0 ts) : Met l yX7_takeTapeHash (Cond.code yX7_takeTapeHash cX7_takeTapeHash 1 none :: mv_ws) (mRm 3 69) (mPc mLC E A S [.ref (mAdC E 0 0)]) (mQ mLC E A (fun S' => (∀ j, j < 32 → S'.2.1 14 0 j = shaL ts j) ∧ bHas S' 0 [] ∧ mSame (fun k i => scX k i ∨ bX 0 k i) S S') none) 0 0 A := by
  refine Met.ofW (cc := cX7_takeTapeHash) (maxL := 1) (ret := none) (by decide) rfl ?_
  intro p e s m args below meth c s₁ B hml hv
  obtain ⟨rfl, hG, hH⟩ := hv
  have hx := B.exec
  have hb := B.bytes
  have hr := B.returns
  have hlocks := B.notSynchronized
  have Cx : CallFix p m c cX7_takeTapeHash 1 s ([.ref (mAdC E 0 0)] : List Value).toArray (Cond.code yX7_takeTapeHash cX7_takeTapeHash 1 none :: mv_ws) RX7 := ⟨hx, hb, hml, findClass_of_methodNamed B.named, atoms_spec (ws := Cond.code yX7_takeTapeHash cX7_takeTapeHash 1 none :: mv_ws) B.pre⟩
  have hS : va_S A s.heap s.heap [] := va_S.rf
  have hl := lv_entry ([.ref (mAdC E 0 0)]) (n := 1) (Nat.le_of_ble_eq_true rfl)
  rw [lg_entry_eq]
  generalize (lg_sl ([.ref (mAdC E 0 0)]) ++ List.replicate (1 - (lg_sl ([.ref (mAdC E 0 0)])).length) Slot.unset).toArray = ls at hl ⊢
  have hl : lv_has ls 1 [(0, .ref (mAdC E 0 0))] := hl
  refine lv_aload_n hx hb dX7_takeTapeHash_0 rfl (lv_at hl 0 rfl) ?_
  refine g_X7_hasher Cx hG hH q_fl_X7_10 dX7_takeTapeHash_1 ?_
  refine mv_callV (Y := mLC) (C := RX1) (k := 1) (i := 0) (rest := []) Cx hG hH hS (c_X1_begin l E A hO S) q_co_X1_begin q_ml_X7_299 q_im_X1_begin q_se_X1_begin q_in_X1 okC_1 rfl rfl hd_X1_begin ⟨Nat.le_of_ble_eq_true rfl, Nat.le_of_ble_eq_true rfl⟩ rfl hl.1 rfl (Nat.le_of_ble_eq_true rfl) ⟨Nat.le_of_ble_eq_true rfl, Nat.le_of_ble_eq_true rfl⟩ dX7_takeTapeHash_4 (fun S4 H locs hP4 hH hS => ?_)
  refine W.eq (g2 := F0 m 7 ls [.ref (mAdC E 2 2)]) rfl ?_
  refine lv_aload_n hx hb dX7_takeTapeHash_7 rfl (lv_at hl 0 rfl) ?_
  refine g_X7_tape Cx hG hH q_fl_X7_30 dX7_takeTapeHash_8 ?_
  refine g_X0_held Cx hG hH (by decide) q_fl_X7_93 dX7_takeTapeHash_11 ?_
  refine lv_aload_n hx hb dX7_takeTapeHash_14 rfl (lv_at hl 0 rfl) ?_
  refine g_X7_tape Cx hG hH q_fl_X7_30 dX7_takeTapeHash_15 ?_
  refine g_X0_size Cx hG hH (by decide) q_fl_X7_89 dX7_takeTapeHash_18 ?_
  refine mv_eqi (x' := nI ts.length) ((hts.keep hP4.2 (by simp [bX]) (by simp [bX])).1) ?_
  refine mv_callV (Y := mLC) (C := RX0) (k := 2) (i := 2) (rest := []) Cx hG hH hS (c_X0_putAll l E A hO S4 2 (by decide) _ hP4.1 3 0 (mLn 0) ts.length (isC_3 (by decide)) hts.2.1 (by have := hts.2.1; rw [mLn_0] at this; rw [mLn_2, List.length_nil]; omega)) q_co_X0_putAll q_ml_X7_96 q_im_X0_putAll q_se_X0_putAll q_in_X0 (okC_2 (by decide)) rfl rfl hd_X0_putAll ⟨Nat.le_of_ble_eq_true rfl, Nat.le_of_ble_eq_true rfl⟩ rfl hl.1 rfl (Nat.le_of_ble_eq_true rfl) ⟨Nat.le_of_ble_eq_true rfl, Nat.le_of_ble_eq_true rfl⟩ dX7_takeTapeHash_21 (fun S21 H locs hP21 hH hS => ?_)
  refine W.eq (g2 := F0 m 24 ls []) rfl ?_
  refine lv_aload_n hx hb dX7_takeTapeHash_24 rfl (lv_at hl 0 rfl) ?_
  refine g_X7_hasher Cx hG hH q_fl_X7_10 dX7_takeTapeHash_25 ?_
  refine lv_aload_n hx hb dX7_takeTapeHash_28 rfl (lv_at hl 0 rfl) ?_
  refine g_X7_scratch Cx hG hH q_fl_X7_47 dX7_takeTapeHash_29 ?_
  refine mv_callV (Y := mLC) (C := RX1) (k := 1) (i := 0) (rest := []) Cx hG hH hS (c_X1_finish l E A hO S21 14 0 isC_14 _ hP21.1 (by have := hts.2.1; rw [mLn_0] at this; rw [List.nil_append, mTk_len]; omega)) q_co_X1_finish q_ml_X7_149 q_im_X1_finish q_se_X1_finish q_in_X1 okC_1 rfl rfl hd_X1_finish ⟨Nat.le_of_ble_eq_true rfl, Nat.le_of_ble_eq_true rfl⟩ rfl hl.1 rfl (Nat.le_of_ble_eq_true rfl) ⟨Nat.le_of_ble_eq_true rfl, Nat.le_of_ble_eq_true rfl⟩ dX7_takeTapeHash_32 (fun S32 H locs hP32 hH hS => ?_)
  refine W.eq (g2 := F0 m 35 ls []) rfl ?_
  refine lv_aload_n hx hb dX7_takeTapeHash_35 rfl (lv_at hl 0 rfl) ?_
  refine g_X7_tape Cx hG hH q_fl_X7_30 dX7_takeTapeHash_36 ?_
  refine lv_iconst (v := 0) hx hb dX7_takeTapeHash_39 (by decide) ?_
  refine p_X0_size Cx hG hO hH hS (by decide) q_fl_X7_89 dX7_takeTapeHash_40 (fun H locs hH hS => ?_)
  exact mv_retv Cx hr hH hS (⟨fun j hj => (hP32.1 j hj).trans (by rw [List.nil_append, mTk_has (hts.keep hP4.2 (by simp [bX]) (by simp [bX]))]), bHas.nil, (((hP4.2.wk (fun _ _ h => Or.inl (sc_bX h))).tr (hP21.2.wk (fun _ _ h => Or.inl (sc_bX h)))).tr (hP32.2.wk (fun k i h => Or.inl (h.elim sc_hs (fun z => by rw [z.1]; exact sc_14))))).tr (mSame.M (Or.inr ⟨Or.inl rfl, rfl⟩))⟩) dX7_takeTapeHash_43 hlocks

set_option maxHeartbeats 4000000 in
set_option maxRecDepth 100000 in
theorem c_X7_hashNothing (l : Launch) (E : mEv) (A : Nat → Prop) (hO : mOwn mLC E A) (S : mSt) (k0 i0 : Nat) (hB : mIsB mLC k0 i0 32) : Met l yX7_hashNothing (Cond.code yX7_hashNothing cX7_hashNothing 2 none :: mv_ws) (mRm 3 69) (mPc mLC E A S [.ref (mAdC E 0 0), .ref (mAdC E k0 i0)]) (mQ mLC E A (fun S' => (∀ j, j < 32 → S'.2.1 k0 i0 j = shaL [] j) ∧ mSame (fun k i => scX k i ∨ (k = k0 ∧ i = i0)) S S') none) 0 0 A := by
  refine Met.ofW (cc := cX7_hashNothing) (maxL := 2) (ret := none) (by decide) rfl ?_
  intro p e s m args below meth c s₁ B hml hv
  obtain ⟨rfl, hG, hH⟩ := hv
  have hx := B.exec
  have hb := B.bytes
  have hr := B.returns
  have hlocks := B.notSynchronized
  have Cx : CallFix p m c cX7_hashNothing 2 s ([.ref (mAdC E 0 0), .ref (mAdC E k0 i0)] : List Value).toArray (Cond.code yX7_hashNothing cX7_hashNothing 2 none :: mv_ws) RX7 := ⟨hx, hb, hml, findClass_of_methodNamed B.named, atoms_spec (ws := Cond.code yX7_hashNothing cX7_hashNothing 2 none :: mv_ws) B.pre⟩
  have hS : va_S A s.heap s.heap [] := va_S.rf
  have hl := lv_entry ([.ref (mAdC E 0 0), .ref (mAdC E k0 i0)]) (n := 2) (Nat.le_of_ble_eq_true rfl)
  rw [lg_entry_eq]
  generalize (lg_sl ([.ref (mAdC E 0 0), .ref (mAdC E k0 i0)]) ++ List.replicate (2 - (lg_sl ([.ref (mAdC E 0 0), .ref (mAdC E k0 i0)])).length) Slot.unset).toArray = ls at hl ⊢
  have hl : lv_has ls 2 [(0, .ref (mAdC E 0 0)), (1, .ref (mAdC E k0 i0))] := hl
  refine lv_aload_n hx hb dX7_hashNothing_0 rfl (lv_at hl 0 rfl) ?_
  refine g_X7_hasher Cx hG hH q_fl_X7_10 dX7_hashNothing_1 ?_
  refine mv_callV (Y := mLC) (C := RX1) (k := 1) (i := 0) (rest := []) Cx hG hH hS (c_X1_begin l E A hO S) q_co_X1_begin q_ml_X7_299 q_im_X1_begin q_se_X1_begin q_in_X1 okC_1 rfl rfl hd_X1_begin ⟨Nat.le_of_ble_eq_true rfl, Nat.le_of_ble_eq_true rfl⟩ rfl hl.1 rfl (Nat.le_of_ble_eq_true rfl) ⟨Nat.le_of_ble_eq_true rfl, Nat.le_of_ble_eq_true rfl⟩ dX7_hashNothing_4 (fun S4 H locs hP4 hH hS => ?_)
  refine W.eq (g2 := F0 m 7 ls [.ref (mAdC E 2 2)]) rfl ?_
  refine lv_pop hx hb dX7_hashNothing_7 rfl ?_
  refine lv_aload_n hx hb dX7_hashNothing_8 rfl (lv_at hl 0 rfl) ?_
  refine g_X7_hasher Cx hG hH q_fl_X7_10 dX7_hashNothing_9 ?_
  refine lv_aload_n hx hb dX7_hashNothing_12 rfl (lv_at hl 1 rfl) ?_
  refine mv_callV (Y := mLC) (C := RX1) (k := 1) (i := 0) (rest := []) Cx hG hH hS (c_X1_finish l E A hO S4 k0 i0 hB _ hP4.1 (by decide)) q_co_X1_finish q_ml_X7_149 q_im_X1_finish q_se_X1_finish q_in_X1 okC_1 rfl rfl hd_X1_finish ⟨Nat.le_of_ble_eq_true rfl, Nat.le_of_ble_eq_true rfl⟩ rfl hl.1 rfl (Nat.le_of_ble_eq_true rfl) ⟨Nat.le_of_ble_eq_true rfl, Nat.le_of_ble_eq_true rfl⟩ dX7_hashNothing_13 (fun S13 H locs hP13 hH hS => ?_)
  refine W.eq (g2 := F0 m 16 ls []) rfl ?_
  exact mv_retv Cx hr hH hS (⟨hP13.1, (hP4.2.wk (fun _ _ h => Or.inl (sc_bX h))).tr (hP13.2.wk (fun _ _ h => h.elim (fun z => Or.inl (sc_hs z)) Or.inr))⟩) dX7_hashNothing_16 hlocks

set_option maxHeartbeats 4000000 in
set_option maxRecDepth 100000 in
theorem c_X7_tell (l : Launch) (E : mEv) (A : Nat → Prop) (hO : mOwn mLC E A) (S : mSt) (k0 i0 n0 n : Nat) (hB : mIsB mLC k0 i0 n0) (hn : n ≤ n0) (hle : n ≤ 229) : Met l yX7_tell (Cond.code yX7_tell cX7_tell 3 (some .int) :: mv_ws) (mRm 2 63) (mPc mLC E A S [.ref (mAdC E 0 0), .ref (mAdC E k0 i0), .int (nI n)]) (mQ mLC E A (fun S' => bHas S' 1 (mTk (S.2.1 k0 i0) n) ∧ mSame (bX 1) S S') (some (.int (nI n)))) 0 0 A := by
  refine Met.ofW (cc := cX7_tell) (maxL := 3) (ret := (some .int)) (by decide) rfl ?_
  intro p e s m args below meth c s₁ B hml hv
  obtain ⟨rfl, hG, hH⟩ := hv
  have hx := B.exec
  have hb := B.bytes
  have hr := B.returns
  have hlocks := B.notSynchronized
  have Cx : CallFix p m c cX7_tell 3 s ([.ref (mAdC E 0 0), .ref (mAdC E k0 i0), .int (nI n)] : List Value).toArray (Cond.code yX7_tell cX7_tell 3 (some .int) :: mv_ws) RX7 := ⟨hx, hb, hml, findClass_of_methodNamed B.named, atoms_spec (ws := Cond.code yX7_tell cX7_tell 3 (some .int) :: mv_ws) B.pre⟩
  have hS : va_S A s.heap s.heap [] := va_S.rf
  have hl := lv_entry ([.ref (mAdC E 0 0), .ref (mAdC E k0 i0), .int (nI n)]) (n := 3) (Nat.le_of_ble_eq_true rfl)
  rw [lg_entry_eq]
  generalize (lg_sl ([.ref (mAdC E 0 0), .ref (mAdC E k0 i0), .int (nI n)]) ++ List.replicate (3 - (lg_sl ([.ref (mAdC E 0 0), .ref (mAdC E k0 i0), .int (nI n)])).length) Slot.unset).toArray = ls at hl ⊢
  have hl : lv_has ls 3 [(0, .ref (mAdC E 0 0)), (1, .ref (mAdC E k0 i0)), (2, .int (nI n))] := hl
  refine lv_aload_n hx hb dX7_tell_0 rfl (lv_at hl 0 rfl) ?_
  refine g_X7_out Cx hG hH q_fl_X7_34 dX7_tell_1 ?_
  refine lv_iconst (v := 0) hx hb dX7_tell_4 (by decide) ?_
  refine p_X0_size Cx hG hO hH hS (by decide) q_fl_X7_89 dX7_tell_5 (fun H locs hH hS => ?_)
  refine lv_aload_n hx hb dX7_tell_8 rfl (lv_at hl 0 rfl) ?_
  refine g_X7_out Cx hG hH q_fl_X7_34 dX7_tell_9 ?_
  refine lv_aload_n hx hb dX7_tell_12 rfl (lv_at hl 1 rfl) ?_
  refine lv_iload_n hx hb dX7_tell_13 rfl (lv_at hl 2 rfl) ?_
  refine mv_callV (Y := mLC) (C := RX0) (k := 2) (i := 1) (rest := []) Cx hG hH hS (c_X0_putAll l E A hO (mM S 2 1 1 0) 1 (by decide) [] bHas.nil k0 i0 n0 n hB hn (by rw [mLn_1, List.length_nil]; omega)) q_co_X0_putAll q_ml_X7_96 q_im_X0_putAll q_se_X0_putAll q_in_X0 (okC_2 (by decide)) rfl rfl hd_X0_putAll ⟨Nat.le_of_ble_eq_true rfl, Nat.le_of_ble_eq_true rfl⟩ rfl hl.1 rfl (Nat.le_of_ble_eq_true rfl) ⟨Nat.le_of_ble_eq_true rfl, Nat.le_of_ble_eq_true rfl⟩ dX7_tell_14 (fun S14 H locs hP14 hH hS => ?_)
  refine W.eq (g2 := F0 m 17 ls []) rfl ?_
  refine lv_aload_n hx hb dX7_tell_17 rfl (lv_at hl 0 rfl) ?_
  refine g_X7_out Cx hG hH q_fl_X7_34 dX7_tell_18 ?_
  refine g_X0_size Cx hG hH (by decide) q_fl_X7_89 dX7_tell_21 ?_
  refine mv_eqi (x' := nI n) (by have h := hP14.1.1; rw [List.nil_append, mTk_len] at h; exact h) ?_
  exact mv_reti Cx hr hH hS (rfl) (⟨hP14.1, (mSame.M ⟨Or.inl rfl, rfl⟩).tr hP14.2⟩) dX7_tell_24 hlocks

set_option maxHeartbeats 4000000 in
set_option maxRecDepth 100000 in
theorem c_X7_openSession (l : Launch) (E : mEv) (A : Nat → Prop) (hO : mOwn mLC E A) (S : mSt) (x : Int32) : Met l yX7_openSession (Cond.code yX7_openSession cX7_openSession 2 (some (.object "MeasuredVault$Session")) :: mv_ws) (mRm 0 0) (mPc mLC E A S [.ref (mAdC E 0 0), .int x]) (mQ mLC E A (fun S' => S' = S) (some (va_rf ((seO S x).map (mAdC E 19))))) 0 0 A := by
  refine Met.ofW (cc := cX7_openSession) (maxL := 2) (ret := (some (.object "MeasuredVault$Session"))) (by decide) rfl ?_
  intro p e s m args below meth c s₁ B hml hv
  obtain ⟨rfl, hG, hH⟩ := hv
  have hx := B.exec
  have hb := B.bytes
  have hr := B.returns
  have hlocks := B.notSynchronized
  have Cx : CallFix p m c cX7_openSession 2 s ([.ref (mAdC E 0 0), .int x] : List Value).toArray (Cond.code yX7_openSession cX7_openSession 2 (some (.object "MeasuredVault$Session")) :: mv_ws) RX7 := ⟨hx, hb, hml, findClass_of_methodNamed B.named, atoms_spec (ws := Cond.code yX7_openSession cX7_openSession 2 (some (.object "MeasuredVault$Session")) :: mv_ws) B.pre⟩
  have hS : va_S A s.heap s.heap [] := va_S.rf
  have hl := lv_entry ([.ref (mAdC E 0 0), .int x]) (n := 2) (Nat.le_of_ble_eq_true rfl)
  rw [lg_entry_eq]
  generalize (lg_sl ([.ref (mAdC E 0 0), .int x]) ++ List.replicate (2 - (lg_sl ([.ref (mAdC E 0 0), .int x])).length) Slot.unset).toArray = ls at hl ⊢
  have hl : lv_has ls 2 [(0, .ref (mAdC E 0 0)), (1, .int x)] := hl
  refine lv_iload_n hx hb dX7_openSession_0 rfl (lv_at hl 1 rfl) ?_
  refine lv_if_lt (tgt := 21) hx hb dX7_openSession_1 (by decide) (fun h1 => ?_) (fun h1 => ?_)
  · skip
    refine lv_null hx hb dX7_openSession_21 ?_
    exact mv_reta Cx hr (Or.inl ⟨_, rfl⟩) hH hS (Or.inl rfl) (by rw [seO, if_pos h1]; rfl) (rfl) dX7_openSession_22 hlocks
  · skip
    refine lv_iload_n hx hb dX7_openSession_4 rfl (lv_at hl 1 rfl) ?_
    refine lv_iconst (v := 4) hx hb dX7_openSession_5 (by decide) ?_
    refine mv_eqi (x' := nI 4) (rfl) ?_
    refine lv_icmp_ge (tgt := 21) hx hb dX7_openSession_6 (by decide) (fun h6 => ?_) (fun h6 => ?_)
    · skip
      refine lv_null hx hb dX7_openSession_21 ?_
      exact mv_reta Cx hr (Or.inl ⟨_, rfl⟩) hH hS (Or.inl rfl) (by rw [seO, if_neg h1, if_pos h6]; rfl) (rfl) dX7_openSession_22 hlocks
    · skip
      obtain ⟨i, hi, hxi⟩ := ix_of (by decide) h1 h6
      refine lv_aload_n hx hb dX7_openSession_9 rfl (lv_at hl 0 rfl) ?_
      refine g_X7_sessions Cx hG hH q_fl_X7_59 dX7_openSession_10 ?_
      refine lv_iload_n hx hb dX7_openSession_13 rfl (lv_at hl 1 rfl) ?_
      refine al_18 Cx hG hH i (hxi) (hi) dX7_openSession_14 ?_
      refine g_X4_isOpen Cx hG hH (Nat.lt_of_lt_of_le hi (by decide)) q_fl_X7_284 dX7_openSession_15 ?_
      refine lv_if_ne (tgt := 23) hx hb dX7_openSession_18 (by decide) (fun h18 => ?_) (fun h18 => ?_)
      · skip
        refine lv_aload_n hx hb dX7_openSession_23 rfl (lv_at hl 0 rfl) ?_
        refine g_X7_sessions Cx hG hH q_fl_X7_59 dX7_openSession_24 ?_
        refine lv_iload_n hx hb dX7_openSession_27 rfl (lv_at hl 1 rfl) ?_
        refine al_18 Cx hG hH i (hxi) (hi) dX7_openSession_28 ?_
        exact mv_reta Cx hr (Or.inl ⟨_, rfl⟩) hH hS (Or.inr ⟨_, rfl⟩) (by rw [seO, if_neg h1, if_neg h6, hxi, nI_clamp (by omega), if_neg h18]; rfl) (rfl) dX7_openSession_29 hlocks
      · skip
        refine lv_null hx hb dX7_openSession_21 ?_
        exact mv_reta Cx hr (Or.inl ⟨_, rfl⟩) hH hS (Or.inl rfl) (by rw [seO, if_neg h1, if_neg h6, hxi, nI_clamp (by omega), if_pos h18]; rfl) (rfl) dX7_openSession_22 hlocks

theorem X7_openSession_n (l : Launch) (E : mEv) (A : Nat → Prop) (hO : mOwn mLC E A) (S : mSt) (x : Int32) (h : seO S x = none) : Met l yX7_openSession (Cond.code yX7_openSession cX7_openSession 2 (some (.object "MeasuredVault$Session")) :: mv_ws) (mRm 0 0) (mPc mLC E A S [.ref (mAdC E 0 0), .int x]) (mQ mLC E A (fun S' => S' = S) (some .null)) 0 0 A := by
  have q := c_X7_openSession l E A hO S x
  rw [h] at q
  exact q
theorem X7_openSession_s (l : Launch) (E : mEv) (A : Nat → Prop) (hO : mOwn mLC E A) (S : mSt) (x : Int32) (i : Nat) (h : seO S x = some i) : Met l yX7_openSession (Cond.code yX7_openSession cX7_openSession 2 (some (.object "MeasuredVault$Session")) :: mv_ws) (mRm 0 0) (mPc mLC E A S [.ref (mAdC E 0 0), .int x]) (mQ mLC E A (fun S' => S' = S) (some (.ref (mAdC E 19 i)))) 0 0 A := by
  have q := c_X7_openSession l E A hO S x
  rw [h] at q
  exact q

set_option maxHeartbeats 4000000 in
set_option maxRecDepth 100000 in
theorem c_X7_objectAt (l : Launch) (E : mEv) (A : Nat → Prop) (hO : mOwn mLC E A) (S : mSt) (x : Int32) : Met l yX7_objectAt (Cond.code yX7_objectAt cX7_objectAt 2 (some (.object "MeasuredVault$Thing")) :: mv_ws) (mRm 0 0) (mPc mLC E A S [.ref (mAdC E 0 0), .int x]) (mQ mLC E A (fun S' => S' = S) (some (va_rf ((obO S x).map (mAdC E 22))))) 0 0 A := by
  refine Met.ofW (cc := cX7_objectAt) (maxL := 2) (ret := (some (.object "MeasuredVault$Thing"))) (by decide) rfl ?_
  intro p e s m args below meth c s₁ B hml hv
  obtain ⟨rfl, hG, hH⟩ := hv
  have hx := B.exec
  have hb := B.bytes
  have hr := B.returns
  have hlocks := B.notSynchronized
  have Cx : CallFix p m c cX7_objectAt 2 s ([.ref (mAdC E 0 0), .int x] : List Value).toArray (Cond.code yX7_objectAt cX7_objectAt 2 (some (.object "MeasuredVault$Thing")) :: mv_ws) RX7 := ⟨hx, hb, hml, findClass_of_methodNamed B.named, atoms_spec (ws := Cond.code yX7_objectAt cX7_objectAt 2 (some (.object "MeasuredVault$Thing")) :: mv_ws) B.pre⟩
  have hS : va_S A s.heap s.heap [] := va_S.rf
  have hl := lv_entry ([.ref (mAdC E 0 0), .int x]) (n := 2) (Nat.le_of_ble_eq_true rfl)
  rw [lg_entry_eq]
  generalize (lg_sl ([.ref (mAdC E 0 0), .int x]) ++ List.replicate (2 - (lg_sl ([.ref (mAdC E 0 0), .int x])).length) Slot.unset).toArray = ls at hl ⊢
  have hl : lv_has ls 2 [(0, .ref (mAdC E 0 0)), (1, .int x)] := hl
  refine lv_iload_n hx hb dX7_objectAt_0 rfl (lv_at hl 1 rfl) ?_
  refine lv_if_lt (tgt := 21) hx hb dX7_objectAt_1 (by decide) (fun h1 => ?_) (fun h1 => ?_)
  · skip
    refine lv_null hx hb dX7_objectAt_21 ?_
    exact mv_reta Cx hr (Or.inl ⟨_, rfl⟩) hH hS (Or.inl rfl) (by rw [obO, if_pos h1]; rfl) (rfl) dX7_objectAt_22 hlocks
  · skip
    refine lv_iload_n hx hb dX7_objectAt_4 rfl (lv_at hl 1 rfl) ?_
    refine lv_iconst (v := 4) hx hb dX7_objectAt_5 (by decide) ?_
    refine mv_eqi (x' := nI 4) (rfl) ?_
    refine lv_icmp_ge (tgt := 21) hx hb dX7_objectAt_6 (by decide) (fun h6 => ?_) (fun h6 => ?_)
    · skip
      refine lv_null hx hb dX7_objectAt_21 ?_
      exact mv_reta Cx hr (Or.inl ⟨_, rfl⟩) hH hS (Or.inl rfl) (by rw [obO, if_neg h1, if_pos h6]; rfl) (rfl) dX7_objectAt_22 hlocks
    · skip
      obtain ⟨i, hi, hxi⟩ := ix_of (by decide) h1 h6
      refine lv_aload_n hx hb dX7_objectAt_9 rfl (lv_at hl 0 rfl) ?_
      refine g_X7_objects Cx hG hH q_fl_X7_66 dX7_objectAt_10 ?_
      refine lv_iload_n hx hb dX7_objectAt_13 rfl (lv_at hl 1 rfl) ?_
      refine al_21 Cx hG hH i (hxi) (hi) dX7_objectAt_14 ?_
      refine g_X5_present Cx hG hH (Nat.lt_of_lt_of_le hi (by decide)) q_fl_X7_199 dX7_objectAt_15 ?_
      refine lv_if_ne (tgt := 23) hx hb dX7_objectAt_18 (by decide) (fun h18 => ?_) (fun h18 => ?_)
      · skip
        refine lv_aload_n hx hb dX7_objectAt_23 rfl (lv_at hl 0 rfl) ?_
        refine g_X7_objects Cx hG hH q_fl_X7_66 dX7_objectAt_24 ?_
        refine lv_iload_n hx hb dX7_objectAt_27 rfl (lv_at hl 1 rfl) ?_
        refine al_21 Cx hG hH i (hxi) (hi) dX7_objectAt_28 ?_
        exact mv_reta Cx hr (Or.inl ⟨_, rfl⟩) hH hS (Or.inr ⟨_, rfl⟩) (by rw [obO, if_neg h1, if_neg h6, hxi, nI_clamp (by omega), if_neg h18]; rfl) (rfl) dX7_objectAt_29 hlocks
      · skip
        refine lv_null hx hb dX7_objectAt_21 ?_
        exact mv_reta Cx hr (Or.inl ⟨_, rfl⟩) hH hS (Or.inl rfl) (by rw [obO, if_neg h1, if_neg h6, hxi, nI_clamp (by omega), if_pos h18]; rfl) (rfl) dX7_objectAt_22 hlocks

theorem X7_objectAt_n (l : Launch) (E : mEv) (A : Nat → Prop) (hO : mOwn mLC E A) (S : mSt) (x : Int32) (h : obO S x = none) : Met l yX7_objectAt (Cond.code yX7_objectAt cX7_objectAt 2 (some (.object "MeasuredVault$Thing")) :: mv_ws) (mRm 0 0) (mPc mLC E A S [.ref (mAdC E 0 0), .int x]) (mQ mLC E A (fun S' => S' = S) (some .null)) 0 0 A := by
  have q := c_X7_objectAt l E A hO S x
  rw [h] at q
  exact q
theorem X7_objectAt_s (l : Launch) (E : mEv) (A : Nat → Prop) (hO : mOwn mLC E A) (S : mSt) (x : Int32) (i : Nat) (h : obO S x = some i) : Met l yX7_objectAt (Cond.code yX7_objectAt cX7_objectAt 2 (some (.object "MeasuredVault$Thing")) :: mv_ws) (mRm 0 0) (mPc mLC E A S [.ref (mAdC E 0 0), .int x]) (mQ mLC E A (fun S' => S' = S) (some (.ref (mAdC E 22 i)))) 0 0 A := by
  have q := c_X7_objectAt l E A hO S x
  rw [h] at q
  exact q

set_option maxHeartbeats 4000000 in
set_option maxRecDepth 100000 in
theorem c_X7_valueAt (l : Launch) (E : mEv) (A : Nat → Prop) (hO : mOwn mLC E A) (S : mSt) (x : Int32) : Met l yX7_valueAt (Cond.code yX7_valueAt cX7_valueAt 2 (some (.object "MeasuredVault$Value")) :: mv_ws) (mRm 0 0) (mPc mLC E A S [.ref (mAdC E 0 0), .int x]) (mQ mLC E A (fun S' => S' = S) (some (va_rf ((vaO S x).map (mAdC E 26))))) 0 0 A := by
  refine Met.ofW (cc := cX7_valueAt) (maxL := 2) (ret := (some (.object "MeasuredVault$Value"))) (by decide) rfl ?_
  intro p e s m args below meth c s₁ B hml hv
  obtain ⟨rfl, hG, hH⟩ := hv
  have hx := B.exec
  have hb := B.bytes
  have hr := B.returns
  have hlocks := B.notSynchronized
  have Cx : CallFix p m c cX7_valueAt 2 s ([.ref (mAdC E 0 0), .int x] : List Value).toArray (Cond.code yX7_valueAt cX7_valueAt 2 (some (.object "MeasuredVault$Value")) :: mv_ws) RX7 := ⟨hx, hb, hml, findClass_of_methodNamed B.named, atoms_spec (ws := Cond.code yX7_valueAt cX7_valueAt 2 (some (.object "MeasuredVault$Value")) :: mv_ws) B.pre⟩
  have hS : va_S A s.heap s.heap [] := va_S.rf
  have hl := lv_entry ([.ref (mAdC E 0 0), .int x]) (n := 2) (Nat.le_of_ble_eq_true rfl)
  rw [lg_entry_eq]
  generalize (lg_sl ([.ref (mAdC E 0 0), .int x]) ++ List.replicate (2 - (lg_sl ([.ref (mAdC E 0 0), .int x])).length) Slot.unset).toArray = ls at hl ⊢
  have hl : lv_has ls 2 [(0, .ref (mAdC E 0 0)), (1, .int x)] := hl
  refine lv_iload_n hx hb dX7_valueAt_0 rfl (lv_at hl 1 rfl) ?_
  refine lv_if_lt (tgt := 25) hx hb dX7_valueAt_1 (by decide) (fun h1 => ?_) (fun h1 => ?_)
  · skip
    refine lv_null hx hb dX7_valueAt_25 ?_
    exact mv_reta Cx hr (Or.inl ⟨_, rfl⟩) hH hS (Or.inl rfl) (by rw [vaO, if_pos h1]; rfl) (rfl) dX7_valueAt_26 hlocks
  · skip
    refine lv_iload_n hx hb dX7_valueAt_4 rfl (lv_at hl 1 rfl) ?_
    refine lv_bipush (v := 8) hx hb dX7_valueAt_5 (by decide) ?_
    refine mv_eqi (x' := nI 8) (rfl) ?_
    refine lv_icmp_ge (tgt := 25) hx hb dX7_valueAt_7 (by decide) (fun h7 => ?_) (fun h7 => ?_)
    · skip
      refine lv_null hx hb dX7_valueAt_25 ?_
      exact mv_reta Cx hr (Or.inl ⟨_, rfl⟩) hH hS (Or.inl rfl) (by rw [vaO, if_neg h1, if_pos h7]; rfl) (rfl) dX7_valueAt_26 hlocks
    · skip
      obtain ⟨i, hi, hxi⟩ := ix_of (by decide) h1 h7
      refine lv_aload_n hx hb dX7_valueAt_10 rfl (lv_at hl 0 rfl) ?_
      refine g_X7_values Cx hG hH q_fl_X7_73 dX7_valueAt_11 ?_
      refine lv_iload_n hx hb dX7_valueAt_14 rfl (lv_at hl 1 rfl) ?_
      refine al_25 Cx hG hH i (hxi) (hi) dX7_valueAt_15 ?_
      refine g_X6_thing Cx hG hH (Nat.lt_of_lt_of_le hi (by decide)) q_fl_X7_206 dX7_valueAt_16 ?_
      refine g_X5_present Cx hG hH (by have := hi; omega) q_fl_X7_199 dX7_valueAt_19 ?_
      refine lv_if_ne (tgt := 27) hx hb dX7_valueAt_22 (by decide) (fun h22 => ?_) (fun h22 => ?_)
      · skip
        refine lv_aload_n hx hb dX7_valueAt_27 rfl (lv_at hl 0 rfl) ?_
        refine g_X7_values Cx hG hH q_fl_X7_73 dX7_valueAt_28 ?_
        refine lv_iload_n hx hb dX7_valueAt_31 rfl (lv_at hl 1 rfl) ?_
        refine al_25 Cx hG hH i (hxi) (hi) dX7_valueAt_32 ?_
        exact mv_reta Cx hr (Or.inl ⟨_, rfl⟩) hH hS (Or.inr ⟨_, rfl⟩) (by rw [vaO, if_neg h1, if_neg h7, hxi, nI_clamp (by omega), if_neg h22]; rfl) (rfl) dX7_valueAt_33 hlocks
      · skip
        refine lv_null hx hb dX7_valueAt_25 ?_
        exact mv_reta Cx hr (Or.inl ⟨_, rfl⟩) hH hS (Or.inl rfl) (by rw [vaO, if_neg h1, if_neg h7, hxi, nI_clamp (by omega), if_pos h22]; rfl) (rfl) dX7_valueAt_26 hlocks

theorem X7_valueAt_n (l : Launch) (E : mEv) (A : Nat → Prop) (hO : mOwn mLC E A) (S : mSt) (x : Int32) (h : vaO S x = none) : Met l yX7_valueAt (Cond.code yX7_valueAt cX7_valueAt 2 (some (.object "MeasuredVault$Value")) :: mv_ws) (mRm 0 0) (mPc mLC E A S [.ref (mAdC E 0 0), .int x]) (mQ mLC E A (fun S' => S' = S) (some .null)) 0 0 A := by
  have q := c_X7_valueAt l E A hO S x
  rw [h] at q
  exact q
theorem X7_valueAt_s (l : Launch) (E : mEv) (A : Nat → Prop) (hO : mOwn mLC E A) (S : mSt) (x : Int32) (i : Nat) (h : vaO S x = some i) : Met l yX7_valueAt (Cond.code yX7_valueAt cX7_valueAt 2 (some (.object "MeasuredVault$Value")) :: mv_ws) (mRm 0 0) (mPc mLC E A S [.ref (mAdC E 0 0), .int x]) (mQ mLC E A (fun S' => S' = S) (some (.ref (mAdC E 26 i)))) 0 0 A := by
  have q := c_X7_valueAt l E A hO S x
  rw [h] at q
  exact q

set_option maxHeartbeats 4000000 in
set_option maxRecDepth 100000 in
theorem c_X7_askKey (l : Launch) (E : mEv) (A : Nat → Prop) (hO : mOwn mLC E A) (S : mSt) (k0 i0 : Nat) (hB : mIsB mLC k0 i0 32) : Met l yX7_askKey (Cond.code yX7_askKey cX7_askKey 2 (some .int) :: mv_ws) (mRm 2 44) (mPc mLC E A S [.ref (mAdC E 0 0), .ref (mAdC E k0 i0)]) (mQ mLC E A (fun S' => S' = akS S (S.2.1 k0 i0)) (some (.int (akR S (S.2.1 k0 i0))))) 0 0 A := by
  refine Met.ofW (cc := cX7_askKey) (maxL := 2) (ret := (some .int)) (by decide) rfl ?_
  intro p e s m args below meth c s₁ B hml hv
  obtain ⟨rfl, hG, hH⟩ := hv
  have hx := B.exec
  have hb := B.bytes
  have hr := B.returns
  have hlocks := B.notSynchronized
  have Cx : CallFix p m c cX7_askKey 2 s ([.ref (mAdC E 0 0), .ref (mAdC E k0 i0)] : List Value).toArray (Cond.code yX7_askKey cX7_askKey 2 (some .int) :: mv_ws) RX7 := ⟨hx, hb, hml, findClass_of_methodNamed B.named, atoms_spec (ws := Cond.code yX7_askKey cX7_askKey 2 (some .int) :: mv_ws) B.pre⟩
  have hS : va_S A s.heap s.heap [] := va_S.rf
  have hl := lv_entry ([.ref (mAdC E 0 0), .ref (mAdC E k0 i0)]) (n := 2) (Nat.le_of_ble_eq_true rfl)
  rw [lg_entry_eq]
  generalize (lg_sl ([.ref (mAdC E 0 0), .ref (mAdC E k0 i0)]) ++ List.replicate (2 - (lg_sl ([.ref (mAdC E 0 0), .ref (mAdC E k0 i0)])).length) Slot.unset).toArray = ls at hl ⊢
  have hl : lv_has ls 2 [(0, .ref (mAdC E 0 0)), (1, .ref (mAdC E k0 i0))] := hl
  refine lv_aload_n hx hb dX7_askKey_0 rfl (lv_at hl 0 rfl) ?_
  refine g_X7_failures Cx hG hH q_fl_X7_270 dX7_askKey_1 ?_
  refine lv_iconst (v := 4) hx hb dX7_askKey_4 (by decide) ?_
  refine lv_icmp_lt (tgt := 11) hx hb dX7_askKey_5 (by decide) (fun h5 => ?_) (fun h5 => ?_)
  · skip
    refine lv_aload_n hx hb dX7_askKey_11 rfl (lv_at hl 0 rfl) ?_
    refine g_X7_theKey Cx hG hH q_fl_X7_37 dX7_askKey_12 ?_
    refine lv_aload_n hx hb dX7_askKey_15 rfl (lv_at hl 1 rfl) ?_
    refine mv_callS (Y := mLC) (rest := []) Cx hG hH hS (c_X7_sameDigest l E A hO S 11 0 isC_11 k0 i0 hB) q_co_X7_sameDigest q_ml_X7_266 q_st_X7_sameDigest q_in_X7 hd_X7_sameDigest ⟨Nat.le_of_ble_eq_true rfl, Nat.le_of_ble_eq_true rfl⟩ rfl hl.1 rfl (Nat.le_of_ble_eq_true rfl) ⟨Nat.le_of_ble_eq_true rfl, Nat.le_of_ble_eq_true rfl⟩ dX7_askKey_16 (fun S16 H locs hP16 hH hS => ?_)
    refine W.eq (g2 := F0 m 19 ls [.int (if mEq (S.2.1 11 0) (S.2.1 k0 i0) 0 = true then 1 else 0)]) rfl ?_
    have hH := mv_S hP16 hH
    refine lv_if_ne (tgt := 35) hx hb dX7_askKey_19 (by decide) (fun h19 => ?_) (fun h19 => ?_)
    · skip
      refine lv_iconst (v := 0) hx hb dX7_askKey_35 (by decide) ?_
      exact mv_reti Cx hr hH hS (by rw [akR, if_pos h5, if_pos (b1_of h19)]) (by rw [akS, if_pos h5, if_pos (b1_of h19)]) dX7_askKey_36 hlocks
    · skip
      refine lv_aload_n hx hb dX7_askKey_22 rfl (lv_at hl 0 rfl) ?_
      refine lv_dup hx hb dX7_askKey_23 rfl ?_
      refine g_X7_failures Cx hG hH q_fl_X7_270 dX7_askKey_24 ?_
      refine lv_iconst (v := 1) hx hb dX7_askKey_27 (by decide) ?_
      refine lv_iadd hx hb dX7_askKey_28 ?_
      refine p_X7_failures Cx hG hO hH hS q_fl_X7_270 dX7_askKey_29 (fun H locs hH hS => ?_)
      refine lv_bipush (v := (-4 : Int32)) hx hb dX7_askKey_32 (by decide) ?_
      exact mv_reti Cx hr hH hS (by rw [akR, if_pos h5, if_neg (b0_of h19)]) (by rw [akS, if_pos h5, if_neg (b0_of h19)]) dX7_askKey_34 hlocks
  · skip
    refine lv_bipush (v := (-5 : Int32)) hx hb dX7_askKey_8 (by decide) ?_
    exact mv_reti Cx hr hH hS ((if_neg h5).symm) ((if_neg h5).symm) dX7_askKey_10 hlocks

set_option maxHeartbeats 4000000 in
set_option maxRecDepth 100000 in
theorem c_X7_ask (l : Launch) (E : mEv) (A : Nat → Prop) (hO : mOwn mLC E A) (S : mSt) (t : Nat) (ht : t < 12) (x co : Int32) : Met l yX7_ask (Cond.code yX7_ask cX7_ask 6 (some .int) :: mv_ws) (mRm 3 65) (mPc mLC E A S [.ref (mAdC E 0 0), .ref (mAdC E 22 t), .int x, .int co]) (mQ mLC E A (fun S' => S' = (askP S t x co).2) (some (.int (askP S t x co).1))) 0 0 A := by
  refine Met.ofW (cc := cX7_ask) (maxL := 6) (ret := (some .int)) (by decide) rfl ?_
  intro p e s m args below meth c s₁ B hml hv
  obtain ⟨rfl, hG, hH⟩ := hv
  have hx := B.exec
  have hb := B.bytes
  have hr := B.returns
  have hlocks := B.notSynchronized
  have Cx : CallFix p m c cX7_ask 6 s ([.ref (mAdC E 0 0), .ref (mAdC E 22 t), .int x, .int co] : List Value).toArray (Cond.code yX7_ask cX7_ask 6 (some .int) :: mv_ws) RX7 := ⟨hx, hb, hml, findClass_of_methodNamed B.named, atoms_spec (ws := Cond.code yX7_ask cX7_ask 6 (some .int) :: mv_ws) B.pre⟩
  have hS : va_S A s.heap s.heap [] := va_S.rf
  have hl := lv_entry ([.ref (mAdC E 0 0), .ref (mAdC E 22 t), .int x, .int co]) (n := 6) (Nat.le_of_ble_eq_true rfl)
  rw [lg_entry_eq]
  generalize (lg_sl ([.ref (mAdC E 0 0), .ref (mAdC E 22 t), .int x, .int co]) ++ List.replicate (6 - (lg_sl ([.ref (mAdC E 0 0), .ref (mAdC E 22 t), .int x, .int co])).length) Slot.unset).toArray = ls at hl ⊢
  have hl : lv_has ls 6 [(0, .ref (mAdC E 0 0)), (1, .ref (mAdC E 22 t)), (2, .int x), (3, .int co)] := hl
  refine lv_iload_n hx hb dX7_ask_0 rfl (lv_at hl 2 rfl) ?_
  refine lv_iconst (v := (-1 : Int32)) hx hb dX7_ask_1 (by decide) ?_
  refine lv_icmp_ne (tgt := 14) hx hb dX7_ask_2 (by decide) (fun h2 => ?_) (fun h2 => ?_)
  · skip
    refine lv_aload_n hx hb dX7_ask_14 rfl (lv_at hl 0 rfl) ?_
    refine lv_iload_n hx hb dX7_ask_15 rfl (lv_at hl 2 rfl) ?_
    rcases hse : seO S x with _ | i
    · skip
      refine mv_callV (Y := mLC) (C := RX7) (k := 0) (i := 0) (rest := []) Cx hG hH hS (X7_openSession_n l E A hO S x hse) q_co_X7_openSession q_ml_X7_138 q_im_X7_openSession q_se_X7_openSession q_in_X7 okC_0 rfl rfl hd_X7_openSession ⟨Nat.le_of_ble_eq_true rfl, Nat.le_of_ble_eq_true rfl⟩ rfl hl.1 rfl (Nat.le_of_ble_eq_true rfl) ⟨Nat.le_of_ble_eq_true rfl, Nat.le_of_ble_eq_true rfl⟩ dX7_ask_16 (fun S16 H locs hP16 hH hS => ?_)
      refine W.eq (g2 := F0 m 19 ls [.null]) rfl ?_
      have hH := mv_S hP16 hH
      refine lv_astoreN (lv' := [(4, .null), (0, .ref (mAdC E 0 0)), (1, .ref (mAdC E 22 t)), (2, .int x), (3, .int co)]) hx hb dX7_ask_19 hl (by decide) rfl (fun ls hl => ?_)
      refine lv_aloadN hx hb dX7_ask_21 (lv_at hl 0 rfl) ?_
      refine lv_ifnonnullN hx hb dX7_ask_23 ?_
      refine lv_iconst (v := (-1 : Int32)) hx hb dX7_ask_26 (by decide) ?_
      exact mv_reti Cx hr hH hS (by rw [askP, if_neg h2, hse]; rfl) (by rw [askP, if_neg h2, hse]; rfl) dX7_ask_27 hlocks
    · skip
      obtain ⟨hxi, hi, hop⟩ := seO_some hse
      refine mv_callV (Y := mLC) (C := RX7) (k := 0) (i := 0) (rest := []) Cx hG hH hS (X7_openSession_s l E A hO S x i hse) q_co_X7_openSession q_ml_X7_138 q_im_X7_openSession q_se_X7_openSession q_in_X7 okC_0 rfl rfl hd_X7_openSession ⟨Nat.le_of_ble_eq_true rfl, Nat.le_of_ble_eq_true rfl⟩ rfl hl.1 rfl (Nat.le_of_ble_eq_true rfl) ⟨Nat.le_of_ble_eq_true rfl, Nat.le_of_ble_eq_true rfl⟩ dX7_ask_16 (fun S16 H locs hP16 hH hS => ?_)
      refine W.eq (g2 := F0 m 19 ls [.ref (mAdC E 19 i)]) rfl ?_
      have hH := mv_S hP16 hH
      refine lv_astore (lv' := [(4, .ref (mAdC E 19 i)), (0, .ref (mAdC E 0 0)), (1, .ref (mAdC E 22 t)), (2, .int x), (3, .int co)]) hx hb dX7_ask_19 hl (by decide) rfl (fun ls hl => ?_)
      refine lv_aload hx hb dX7_ask_21 (lv_at hl 0 rfl) ?_
      refine lv_ifnonnull (tgt := 28) hx hb dX7_ask_23 (by decide) ?_
      refine lv_aload_n hx hb dX7_ask_28 rfl (lv_at hl 2 rfl) ?_
      refine g_X5_policy Cx hG hH ht q_fl_X7_220 dX7_ask_29 ?_
      refine lv_aload_n hx hb dX7_ask_32 rfl (lv_at hl 1 rfl) ?_
      refine g_X7_noPolicy Cx hG hH q_fl_X7_44 dX7_ask_33 ?_
      refine mv_callS (Y := mLC) (rest := []) Cx hG hH hS (c_X7_sameDigest l E A hO S 24 t (isC_24 ht) 13 0 isC_13) q_co_X7_sameDigest q_ml_X7_266 q_st_X7_sameDigest q_in_X7 hd_X7_sameDigest ⟨Nat.le_of_ble_eq_true rfl, Nat.le_of_ble_eq_true rfl⟩ rfl hl.1 rfl (Nat.le_of_ble_eq_true rfl) ⟨Nat.le_of_ble_eq_true rfl, Nat.le_of_ble_eq_true rfl⟩ dX7_ask_36 (fun S36 H locs hP36 hH hS => ?_)
      refine W.eq (g2 := F0 m 39 ls [.int (if mEq (S.2.1 24 t) (S.2.1 13 0) 0 = true then 1 else 0)]) rfl ?_
      have hH := mv_S hP36 hH
      refine lv_if_ne (tgt := 77) hx hb dX7_ask_39 (by decide) (fun h39 => ?_) (fun h39 => ?_)
      · skip
        refine lv_bipush (v := (-7 : Int32)) hx hb dX7_ask_77 (by decide) ?_
        exact mv_reti Cx hr hH hS (by rw [askP, if_neg h2, hse]; show _ = (askQ S t i co).1; unfold askQ; rw [if_pos (b1_of h39)]) (by rw [askP, if_neg h2, hse]; show _ = (askQ S t i co).2; unfold askQ; rw [if_pos (b1_of h39)]) dX7_ask_79 hlocks
      · skip
        refine lv_aload_n hx hb dX7_ask_42 rfl (lv_at hl 2 rfl) ?_
        refine g_X5_policy Cx hG hH ht q_fl_X7_220 dX7_ask_43 ?_
        refine lv_aload hx hb dX7_ask_46 (lv_at hl 0 rfl) ?_
        refine g_X4_digest Cx hG hH hi q_fl_X7_146 dX7_ask_48 ?_
        refine mv_callS (Y := mLC) (rest := []) Cx hG hH hS (c_X7_sameDigest l E A hO S 24 t (isC_24 ht) 20 i (isC_20 hi)) q_co_X7_sameDigest q_ml_X7_266 q_st_X7_sameDigest q_in_X7 hd_X7_sameDigest ⟨Nat.le_of_ble_eq_true rfl, Nat.le_of_ble_eq_true rfl⟩ rfl hl.1 rfl (Nat.le_of_ble_eq_true rfl) ⟨Nat.le_of_ble_eq_true rfl, Nat.le_of_ble_eq_true rfl⟩ dX7_ask_51 (fun S51 H locs hP51 hH hS => ?_)
        refine W.eq (g2 := F0 m 54 ls [.int (if mEq (S.2.1 24 t) (S.2.1 20 i) 0 = true then 1 else 0)]) rfl ?_
        have hH := mv_S hP51 hH
        refine lv_if_eq (tgt := 77) hx hb dX7_ask_54 (by decide) (fun h54 => ?_) (fun h54 => ?_)
        · skip
          refine lv_bipush (v := (-7 : Int32)) hx hb dX7_ask_77 (by decide) ?_
          exact mv_reti Cx hr hH hS (by rw [askP, if_neg h2, hse]; show _ = (askQ S t i co).1; unfold askQ; rw [if_neg (b0_of h39), if_neg (b0_of h54)]) (by rw [askP, if_neg h2, hse]; show _ = (askQ S t i co).2; unfold askQ; rw [if_neg (b0_of h39), if_neg (b0_of h54)]) dX7_ask_79 hlocks
        · skip
          refine lv_aload hx hb dX7_ask_57 (lv_at hl 0 rfl) ?_
          refine lv_aload_n hx hb dX7_ask_59 rfl (lv_at hl 1 rfl) ?_
          refine g_X7_registers Cx hG hH q_fl_X7_53 dX7_ask_60 ?_
          refine g_X2_changes Cx hG hH q_fl_X7_152 dX7_ask_63 ?_
          refine lv_iload_n hx hb dX7_ask_66 rfl (lv_at hl 4 rfl) ?_
          refine lv_aload_n hx hb dX7_ask_67 rfl (lv_at hl 1 rfl) ?_
          refine g_X7_clock Cx hG hH q_fl_X7_125 dX7_ask_68 ?_
          refine mv_callV (Y := mLC) (C := RX4) (k := 19) (i := i) (rest := []) Cx hG hH hS (c_X4_holds l E A hO S i hi (S.1 15 0 2) co (S.1 0 0 13)) q_co_X4_holds q_ml_X7_315 q_im_X4_holds q_se_X4_holds q_in_X4 (okC_19 hi) rfl rfl hd_X4_holds ⟨Nat.le_of_ble_eq_true rfl, Nat.le_of_ble_eq_true rfl⟩ rfl hl.1 rfl (Nat.le_of_ble_eq_true rfl) ⟨Nat.le_of_ble_eq_true rfl, Nat.le_of_ble_eq_true rfl⟩ dX7_ask_71 (fun S71 H locs hP71 hH hS => ?_)
          refine W.eq (g2 := F0 m 74 ls [.int (if (S.1 19 i 4 = 0 ∨ S.1 15 0 2 = S.1 19 i 5) ∧ (S.1 19 i 3 = 0 ∨ S.1 19 i 3 = co) ∧ (S.1 19 i 6 = 0 ∨ ¬ S.1 19 i 7 < S.1 0 0 13) then 1 else 0)]) rfl ?_
          have hH := mv_S hP71 hH
          refine lv_if_ne (tgt := 80) hx hb dX7_ask_74 (by decide) (fun h74 => ?_) (fun h74 => ?_)
          · skip
            refine lv_aload hx hb dX7_ask_80 (lv_at hl 0 rfl) ?_
            refine g_X4_asksAuth Cx hG hH hi q_fl_X7_158 dX7_ask_82 ?_
            refine lv_if_eq (tgt := 106) hx hb dX7_ask_85 (by decide) (fun h85 => ?_) (fun h85 => ?_)
            · skip
              refine lv_aload hx hb dX7_ask_106 (lv_at hl 0 rfl) ?_
              refine lv_iconst (v := 0) hx hb dX7_ask_108 (by decide) ?_
              refine p_X4_isOpen Cx hG hO hH hS hi (by decide) q_fl_X7_284 dX7_ask_109 (fun H locs hH hS => ?_)
              refine lv_iconst (v := 0) hx hb dX7_ask_112 (by decide) ?_
              exact mv_reti Cx hr hH hS (by rw [askP, if_neg h2, hse]; show _ = (askQ S t i co).1; unfold askQ; rw [if_neg (b0_of h39), if_pos (b1_of h54), if_pos (stOkB_iff.mpr (p1_of h74)), if_pos h85]) (by rw [askP, if_neg h2, hse]; show _ = (askQ S t i co).2; unfold askQ; rw [if_neg (b0_of h39), if_pos (b1_of h54), if_pos (stOkB_iff.mpr (p1_of h74)), if_pos h85]) dX7_ask_113 hlocks
            · skip
              refine lv_aload_n hx hb dX7_ask_88 rfl (lv_at hl 1 rfl) ?_
              refine lv_aload_n hx hb dX7_ask_89 rfl (lv_at hl 2 rfl) ?_
              refine g_X5_auth Cx hG hH ht q_fl_X7_217 dX7_ask_90 ?_
              refine mv_callV (Y := mLC) (C := RX7) (k := 0) (i := 0) (rest := []) Cx hG hH hS (c_X7_askKey l E A hO S 23 t (isC_23 ht)) q_co_X7_askKey q_ml_X7_210 q_im_X7_askKey q_se_X7_askKey q_in_X7 okC_0 rfl rfl hd_X7_askKey ⟨Nat.le_of_ble_eq_true rfl, Nat.le_of_ble_eq_true rfl⟩ rfl hl.1 rfl (Nat.le_of_ble_eq_true rfl) ⟨Nat.le_of_ble_eq_true rfl, Nat.le_of_ble_eq_true rfl⟩ dX7_ask_93 (fun S93 H locs hP93 hH hS => ?_)
              refine W.eq (g2 := F0 m 96 ls [.int (akR S (S.2.1 23 t))]) rfl ?_
              refine lv_istore (lv' := [(5, .int (akR S (S.2.1 23 t))), (4, .ref (mAdC E 19 i)), (0, .ref (mAdC E 0 0)), (1, .ref (mAdC E 22 t)), (2, .int x), (3, .int co)]) hx hb dX7_ask_96 hl (by decide) rfl (fun ls hl => ?_)
              refine lv_iload hx hb dX7_ask_98 (lv_at hl 0 rfl) ?_
              refine lv_if_eq (tgt := 106) hx hb dX7_ask_100 (by decide) (fun h100 => ?_) (fun h100 => ?_)
              · skip
                refine lv_aload hx hb dX7_ask_106 (lv_at hl 1 rfl) ?_
                refine lv_iconst (v := 0) hx hb dX7_ask_108 (by decide) ?_
                refine p_X4_isOpen Cx hG hO hH hS hi (by decide) q_fl_X7_284 dX7_ask_109 (fun H locs hH hS => ?_)
                refine lv_iconst (v := 0) hx hb dX7_ask_112 (by decide) ?_
                exact mv_reti Cx hr hH hS (by rw [askP, if_neg h2, hse]; show _ = (askQ S t i co).1; unfold askQ; rw [if_neg (b0_of h39), if_pos (b1_of h54), if_pos (stOkB_iff.mpr (p1_of h74)), if_neg h85, if_pos h100]) (by rw [hP93]; exact (by rw [askP, if_neg h2, hse]; show _ = (askQ S t i co).2; unfold askQ; rw [if_neg (b0_of h39), if_pos (b1_of h54), if_pos (stOkB_iff.mpr (p1_of h74)), if_neg h85, if_pos h100])) dX7_ask_113 hlocks
              · skip
                refine lv_iload hx hb dX7_ask_103 (lv_at hl 0 rfl) ?_
                exact mv_reti Cx hr hH hS (by rw [askP, if_neg h2, hse]; show _ = (askQ S t i co).1; unfold askQ; rw [if_neg (b0_of h39), if_pos (b1_of h54), if_pos (stOkB_iff.mpr (p1_of h74)), if_neg h85, if_neg h100]) (hP93.trans (by rw [askP, if_neg h2, hse]; show _ = (askQ S t i co).2; unfold askQ; rw [if_neg (b0_of h39), if_pos (b1_of h54), if_pos (stOkB_iff.mpr (p1_of h74)), if_neg h85, if_neg h100])) dX7_ask_105 hlocks
          · skip
            refine lv_bipush (v := (-7 : Int32)) hx hb dX7_ask_77 (by decide) ?_
            exact mv_reti Cx hr hH hS (by rw [askP, if_neg h2, hse]; show _ = (askQ S t i co).1; unfold askQ; rw [if_neg (b0_of h39), if_pos (b1_of h54), if_neg (fun q => p0_of h74 (stOkB_iff.mp q))]) (by rw [askP, if_neg h2, hse]; show _ = (askQ S t i co).2; unfold askQ; rw [if_neg (b0_of h39), if_pos (b1_of h54), if_neg (fun q => p0_of h74 (stOkB_iff.mp q))]) dX7_ask_79 hlocks
  · skip
    refine lv_aload_n hx hb dX7_ask_5 rfl (lv_at hl 0 rfl) ?_
    refine lv_aload_n hx hb dX7_ask_6 rfl (lv_at hl 1 rfl) ?_
    refine g_X5_auth Cx hG hH ht q_fl_X7_217 dX7_ask_7 ?_
    refine mv_callV (Y := mLC) (C := RX7) (k := 0) (i := 0) (rest := []) Cx hG hH hS (c_X7_askKey l E A hO S 23 t (isC_23 ht)) q_co_X7_askKey q_ml_X7_210 q_im_X7_askKey q_se_X7_askKey q_in_X7 okC_0 rfl rfl hd_X7_askKey ⟨Nat.le_of_ble_eq_true rfl, Nat.le_of_ble_eq_true rfl⟩ rfl hl.1 rfl (Nat.le_of_ble_eq_true rfl) ⟨Nat.le_of_ble_eq_true rfl, Nat.le_of_ble_eq_true rfl⟩ dX7_ask_10 (fun S10 H locs hP10 hH hS => ?_)
    refine W.eq (g2 := F0 m 13 ls [.int (akR S (S.2.1 23 t))]) rfl ?_
    exact mv_reti Cx hr hH hS (by rw [askP, if_pos h2]) (by rw [askP, if_pos h2]; exact hP10) dX7_ask_13 hlocks
