/-! ===== the reference: who is asked, and blobs ===== -/
def opO (f : Nat → Int32) (n : Nat) (x : Int32) : Option Nat := if x < 0 then none else if nI n ≤ x then none else if f x.toNatClampNeg = 0 then none else some x.toNatClampNeg
theorem opO_some {f : Nat → Int32} {n : Nat} (hn : n < 2 ^ 31) {x : Int32} {i : Nat} (h : opO f n x = some i) : x = nI i ∧ i < n ∧ ¬ f i = 0 := by
  unfold opO at h
  by_cases h1 : x < 0
  · rw [if_pos h1] at h; cases h
  rw [if_neg h1] at h
  by_cases h2 : nI n ≤ x
  · rw [if_pos h2] at h; cases h
  rw [if_neg h2] at h
  by_cases h3 : f x.toNatClampNeg = 0
  · rw [if_pos h3] at h; cases h
  rw [if_neg h3] at h
  obtain ⟨j, hj, e⟩ := ix_of hn h1 h2
  have hc : x.toNatClampNeg = j := by rw [e]; exact nI_clamp (by omega)
  injection h with h
  rw [hc] at h h3
  subst h
  exact ⟨e, hj, h3⟩
theorem opO_in {f : Nat → Int32} {n : Nat} (hn : n < 2 ^ 31) {i : Nat} (hi : i < n) : opO f n (nI i) = if f i = 0 then none else some i := by
  unfold opO
  rw [if_neg (show ¬ nI i < 0 from fun h => absurd ((nI_ltI (b := 0) (by omega) (by decide)).mp h) (by omega)), if_neg (fun h => absurd ((nI_leI hn (by omega)).mp h) (by omega)), nI_clamp (by omega)]
theorem opO_lo {f : Nat → Int32} {n : Nat} {x : Int32} (h : x < 0) : opO f n x = none := if_pos h
theorem opO_hi {f : Nat → Int32} {n : Nat} {x : Int32} (h : nI n ≤ x) : opO f n x = none := by
  unfold opO
  by_cases h1 : x < 0
  · rw [if_pos h1]
  · rw [if_neg h1, if_pos h]
theorem opO_congr {f g : Nat → Int32} {n : Nat} (hn : n < 2 ^ 31) (h : ∀ i, i < n → f i = g i) (x : Int32) : opO f n x = opO g n x := by
  unfold opO
  by_cases h1 : x < 0
  · rw [if_pos h1, if_pos h1]
  by_cases h2 : nI n ≤ x
  · rw [if_neg h1, if_pos h2, if_neg h1, if_pos h2]
  obtain ⟨j, hj, e⟩ := ix_of hn h1 h2
  have hc : x.toNatClampNeg = j := by rw [e]; exact nI_clamp (by omega)
  rw [hc, h j hj]
/-- an opened session; an object; a value of a kind -/
def msO (S : mSt) (x : Int32) : Option Nat := opO (fun i => S.1 22 0 i) 4 x
def moO (S : mSt) (x : Int32) : Option Nat := opO (fun i => S.1 30 0 i) 4 x
def mtO (S : mSt) (x kd : Int32) : Option Nat := (opO (fun i => S.1 30 0 (4 + i)) 8 x).elim none (fun i => if kd < 0 ∨ S.1 35 0 (4 + i) = kd then some i else none)
theorem mtO_some {S : mSt} {x kd : Int32} {i : Nat} (h : mtO S x kd = some i) : opO (fun i => S.1 30 0 (4 + i)) 8 x = some i ∧ (kd < 0 ∨ S.1 35 0 (4 + i) = kd) := by
  unfold mtO at h
  cases hv : opO (fun i => S.1 30 0 (4 + i)) 8 x with
  | none => rw [hv] at h; cases h
  | some j =>
    rw [hv] at h
    change (if _ then some j else none) = some i at h
    by_cases hk : kd < 0 ∨ S.1 35 0 (4 + j) = kd
    · rw [if_pos hk] at h
      injection h with h
      subst h
      exact ⟨rfl, hk⟩
    · rw [if_neg hk] at h; cases h
def mkR (S : mSt) (g : Nat → Int8) (a : Nat) : Int32 := if S.1 0 0 18 < 4 then (if mEq (S.2.1 14 0) g a = true then 0 else -4) else -5
def mkS (S : mSt) (g : Nat → Int8) (a : Nat) : mSt := if S.1 0 0 18 < 4 then (if mEq (S.2.1 14 0) g a = true then S else mM S 0 0 18 (S.1 0 0 18 + 1)) else S
theorem mkS_0 {S : mSt} {g : Nat → Int8} {a : Nat} (h : mkR S g a = 0) : mkS S g a = S := by
  unfold mkR at h
  unfold mkS
  by_cases h1 : S.1 0 0 18 < 4
  · rw [if_pos h1] at h ⊢
    by_cases h2 : mEq (S.2.1 14 0) g a = true
    · rw [if_pos h2]
    · rw [if_neg h2] at h; exact absurd h (by decide)
  · rw [if_neg h1]
theorem nEq_0 {f g : Nat → Int8} {b : Nat} : nEq f g 0 b = mEq f g b := by simp [nEq]
def mZ (f : Nat → Int8) (a : Nat) : Bool := mEq (fun q => f (a + q)) (fun _ => 0) 0
theorem mZ_iff {f : Nat → Int8} {a : Nat} : mZ f a = true ↔ ∀ q, q < 32 → f (a + q) = 0 := mEq_iff
def mOkB (S : mSt) (i : Nat) (co : Int32) : Bool := (decide (S.1 24 0 i = 0) || decide (S.1 25 0 i = 0)) && ((decide (S.1 28 0 i = 0) || decide (S.1 28 0 i = co)) && (decide (S.1 27 0 i = 0) || decide (S.1 0 0 16 ≤ S.1 29 0 i)))
theorem mOkB_iff {S : mSt} {i : Nat} {co : Int32} : mOkB S i co = true ↔ ((S.1 24 0 i = 0 ∨ S.1 25 0 i = 0) ∧ (S.1 28 0 i = 0 ∨ S.1 28 0 i = co) ∧ (S.1 27 0 i = 0 ∨ S.1 0 0 16 ≤ S.1 29 0 i)) := by simp [mOkB]
def mbQ (S : mSt) (t i : Nat) (co : Int32) : Int32 × mSt :=
  if mZ (S.2.1 32 0) (32 * t) = true then (-7, S) else
  if nEq (S.2.1 32 0) (S.2.1 23 0) (32 * t) (32 * i) = true then
    (if mOkB S i co = true then
      (if S.1 26 0 i = 0 then (0, mM S 22 0 i 0) else
       if mkR S (S.2.1 31 0) (32 * t) = 0 then (0, mM (mkS S (S.2.1 31 0) (32 * t)) 22 0 i 0) else (mkR S (S.2.1 31 0) (32 * t), mkS S (S.2.1 31 0) (32 * t)))
     else (-7, S))
  else (-7, S)
def mbP (S : mSt) (t : Nat) (x co : Int32) : Int32 × mSt := if x = -1 then (mkR S (S.2.1 31 0) (32 * t), mkS S (S.2.1 31 0) (32 * t)) else (msO S x).elim (-1, S) (fun i => mbQ S t i co)
theorem i8_0 {b : Int8} (h : b.toInt32 = 0) : b = 0 := i8inj (h.trans rfl)
set_option maxHeartbeats 4000000 in
set_option maxRecDepth 100000 in
theorem c_X8_isSession (l : Launch) (E : mEv) (A : Nat → Prop) (hO : mOwn mLM E A) (S : mSt) (x : Int32) : Met l yX8_isSession (Cond.code yX8_isSession cX8_isSession 1 (some .boolean) :: mv_ws) (mRm 0 0) (mPc mLM E A S [.int x]) (mQ mLM E A (fun S' => S' = S) (some (.int (if x < 0 then 0 else if (4 : Int32) ≤ x then 0 else 1)))) 0 0 A := by
  refine Met.ofW (cc := cX8_isSession) (maxL := 1) (ret := (some .boolean)) (by decide) rfl ?_
  intro p e s m args below meth c s₁ B hml hv
  obtain ⟨rfl, hG, hH⟩ := hv
  have hx := B.exec
  have hb := B.bytes
  have hr := B.returns
  have hlocks := B.notSynchronized
  have Cx : CallFix p m c cX8_isSession 1 s ([.int x] : List Value).toArray (Cond.code yX8_isSession cX8_isSession 1 (some .boolean) :: mv_ws) RX8 := ⟨hx, hb, hml, findClass_of_methodNamed B.named, atoms_spec (ws := Cond.code yX8_isSession cX8_isSession 1 (some .boolean) :: mv_ws) B.pre⟩
  have hS : va_S A s.heap s.heap [] := va_S.rf
  have hl := lv_entry ([.int x]) (n := 1) (Nat.le_of_ble_eq_true rfl)
  rw [lg_entry_eq]
  generalize (lg_sl ([.int x]) ++ List.replicate (1 - (lg_sl ([.int x])).length) Slot.unset).toArray = ls at hl ⊢
  have hl : lv_has ls 1 [(0, .int x)] := hl
  refine lv_iload_n hx hb dX8_isSession_0 rfl (lv_at hl 0 rfl) ?_
  refine lv_if_lt (tgt := 13) hx hb dX8_isSession_1 (by decide) (fun h1 => ?_) (fun h1 => ?_)
  · skip
    refine lv_iconst (v := 0) hx hb dX8_isSession_13 (by decide) ?_
    exact mv_retz Cx hr hH hS (Or.inl rfl) ((if_pos h1).symm) (rfl) dX8_isSession_14 hlocks
  · skip
    refine lv_iload_n hx hb dX8_isSession_4 rfl (lv_at hl 0 rfl) ?_
    refine lv_iconst (v := 4) hx hb dX8_isSession_5 (by decide) ?_
    refine lv_icmp_ge (tgt := 13) hx hb dX8_isSession_6 (by decide) (fun h6 => ?_) (fun h6 => ?_)
    · skip
      refine lv_iconst (v := 0) hx hb dX8_isSession_13 (by decide) ?_
      exact mv_retz Cx hr hH hS (Or.inl rfl) (((if_neg h1).trans (if_pos h6)).symm) (rfl) dX8_isSession_14 hlocks
    · skip
      refine lv_iconst (v := 1) hx hb dX8_isSession_9 (by decide) ?_
      refine lv_goto (tgt := 14) hx hb dX8_isSession_10 (by decide) ?_
      exact mv_retz Cx hr hH hS (Or.inr rfl) (((if_neg h1).trans (if_neg h6)).symm) (rfl) dX8_isSession_14 hlocks

set_option maxHeartbeats 4000000 in
set_option maxRecDepth 100000 in
theorem c_X8_opened (l : Launch) (E : mEv) (A : Nat → Prop) (hO : mOwn mLM E A) (S : mSt) (x : Int32) : Met l yX8_opened (Cond.code yX8_opened cX8_opened 2 (some .boolean) :: mv_ws) (mRm 1 20) (mPc mLM E A S [.ref (mAdM E 0 0), .int x]) (mQ mLM E A (fun S' => S' = S) (some (.int (if (msO S x).isSome = true then 1 else 0)))) 0 0 A := by
  refine Met.ofW (cc := cX8_opened) (maxL := 2) (ret := (some .boolean)) (by decide) rfl ?_
  intro p e s m args below meth c s₁ B hml hv
  obtain ⟨rfl, hG, hH⟩ := hv
  have hx := B.exec
  have hb := B.bytes
  have hr := B.returns
  have hlocks := B.notSynchronized
  have Cx : CallFix p m c cX8_opened 2 s ([.ref (mAdM E 0 0), .int x] : List Value).toArray (Cond.code yX8_opened cX8_opened 2 (some .boolean) :: mv_ws) RX8 := ⟨hx, hb, hml, findClass_of_methodNamed B.named, atoms_spec (ws := Cond.code yX8_opened cX8_opened 2 (some .boolean) :: mv_ws) B.pre⟩
  have hS : va_S A s.heap s.heap [] := va_S.rf
  have hl := lv_entry ([.ref (mAdM E 0 0), .int x]) (n := 2) (Nat.le_of_ble_eq_true rfl)
  rw [lg_entry_eq]
  generalize (lg_sl ([.ref (mAdM E 0 0), .int x]) ++ List.replicate (2 - (lg_sl ([.ref (mAdM E 0 0), .int x])).length) Slot.unset).toArray = ls at hl ⊢
  have hl : lv_has ls 2 [(0, .ref (mAdM E 0 0)), (1, .int x)] := hl
  refine lv_iload_n hx hb dX8_opened_0 rfl (lv_at hl 1 rfl) ?_
  refine mv_callS (Y := mLM) (rest := []) Cx hG hH hS (c_X8_isSession l E A hO S x) q_co_X8_isSession q_ml_X8_178 q_st_X8_isSession q_in_X8 hd_X8_isSession ⟨Nat.le_of_ble_eq_true rfl, Nat.le_of_ble_eq_true rfl⟩ rfl hl.1 rfl (Nat.le_of_ble_eq_true rfl) ⟨Nat.le_of_ble_eq_true rfl, Nat.le_of_ble_eq_true rfl⟩ dX8_opened_1 (fun S1 H locs hP1 hH hS => ?_)
  refine W.eq (g2 := F0 m 4 ls [.int (if x < 0 then 0 else if (4 : Int32) ≤ x then 0 else 1)]) rfl ?_
  have hH := mv_S hP1 hH
  refine lv_if_eq (tgt := 20) hx hb dX8_opened_4 (by decide) (fun h4 => ?_) (fun h4 => ?_)
  · skip
    have hx0 : (0 : Int32) = if (msO S x).isSome = true then 1 else 0 := by
      by_cases h1 : x < 0
      · rw [show msO S x = none from opO_lo h1]; rfl
      by_cases h2 : (4 : Int32) ≤ x
      · rw [show msO S x = none from opO_hi h2]; rfl
      · rw [if_neg h1, if_neg h2] at h4; exact absurd h4 (by decide)
    refine lv_iconst (v := 0) hx hb dX8_opened_20 (by decide) ?_
    exact mv_retz Cx hr hH hS (Or.inl rfl) (hx0) (rfl) dX8_opened_21 hlocks
  · skip
    have hlo : ¬ x < 0 := fun h => h4 (if_pos h)
    have hhi : ¬ nI 4 ≤ x := fun h => h4 ((if_neg hlo).trans (if_pos h))
    obtain ⟨i, hi, ei⟩ := ix_of (n := 4) (by decide) hlo hhi
    refine lv_aload_n hx hb dX8_opened_7 rfl (lv_at hl 0 rfl) ?_
    refine g_X8_open Cx hG hH q_fl_X8_47 dX8_opened_8 ?_
    refine lv_iload_n hx hb dX8_opened_11 rfl (lv_at hl 1 rfl) ?_
    refine mv_zal Cx hG hH isM_22 i (ei) (hi) dX8_opened_12 ?_
    refine lv_if_eq (tgt := 20) hx hb dX8_opened_13 (by decide) (fun h13 => ?_) (fun h13 => ?_)
    · skip
      refine lv_iconst (v := 0) hx hb dX8_opened_20 (by decide) ?_
      exact mv_retz Cx hr hH hS (Or.inl rfl) (by rw [ei, show msO S (nI i) = none from (opO_in (by decide) hi).trans (if_pos h13)]; rfl) (rfl) dX8_opened_21 hlocks
    · skip
      refine lv_iconst (v := 1) hx hb dX8_opened_16 (by decide) ?_
      refine lv_goto (tgt := 21) hx hb dX8_opened_17 (by decide) ?_
      exact mv_retz Cx hr hH hS (Or.inr rfl) (by rw [ei, show msO S (nI i) = some i from (opO_in (by decide) hi).trans (if_neg h13)]; rfl) (rfl) dX8_opened_21 hlocks

set_option maxHeartbeats 4000000 in
set_option maxRecDepth 100000 in
theorem c_X8_isObject (l : Launch) (E : mEv) (A : Nat → Prop) (hO : mOwn mLM E A) (S : mSt) (x : Int32) : Met l yX8_isObject (Cond.code yX8_isObject cX8_isObject 2 (some .boolean) :: mv_ws) (mRm 0 0) (mPc mLM E A S [.ref (mAdM E 0 0), .int x]) (mQ mLM E A (fun S' => S' = S) (some (.int (if (moO S x).isSome = true then 1 else 0)))) 0 0 A := by
  refine Met.ofW (cc := cX8_isObject) (maxL := 2) (ret := (some .boolean)) (by decide) rfl ?_
  intro p e s m args below meth c s₁ B hml hv
  obtain ⟨rfl, hG, hH⟩ := hv
  have hx := B.exec
  have hb := B.bytes
  have hr := B.returns
  have hlocks := B.notSynchronized
  have Cx : CallFix p m c cX8_isObject 2 s ([.ref (mAdM E 0 0), .int x] : List Value).toArray (Cond.code yX8_isObject cX8_isObject 2 (some .boolean) :: mv_ws) RX8 := ⟨hx, hb, hml, findClass_of_methodNamed B.named, atoms_spec (ws := Cond.code yX8_isObject cX8_isObject 2 (some .boolean) :: mv_ws) B.pre⟩
  have hS : va_S A s.heap s.heap [] := va_S.rf
  have hl := lv_entry ([.ref (mAdM E 0 0), .int x]) (n := 2) (Nat.le_of_ble_eq_true rfl)
  rw [lg_entry_eq]
  generalize (lg_sl ([.ref (mAdM E 0 0), .int x]) ++ List.replicate (2 - (lg_sl ([.ref (mAdM E 0 0), .int x])).length) Slot.unset).toArray = ls at hl ⊢
  have hl : lv_has ls 2 [(0, .ref (mAdM E 0 0)), (1, .int x)] := hl
  refine lv_iload_n hx hb dX8_isObject_0 rfl (lv_at hl 1 rfl) ?_
  refine lv_if_lt (tgt := 22) hx hb dX8_isObject_1 (by decide) (fun h1 => ?_) (fun h1 => ?_)
  · skip
    refine lv_iconst (v := 0) hx hb dX8_isObject_22 (by decide) ?_
    exact mv_retz Cx hr hH hS (Or.inl rfl) (by rw [show moO S x = none from opO_lo h1]; rfl) (rfl) dX8_isObject_23 hlocks
  · skip
    refine lv_iload_n hx hb dX8_isObject_4 rfl (lv_at hl 1 rfl) ?_
    refine lv_iconst (v := 4) hx hb dX8_isObject_5 (by decide) ?_
    refine lv_icmp_ge (tgt := 22) hx hb dX8_isObject_6 (by decide) (fun h6 => ?_) (fun h6 => ?_)
    · skip
      refine lv_iconst (v := 0) hx hb dX8_isObject_22 (by decide) ?_
      exact mv_retz Cx hr hH hS (Or.inl rfl) (by rw [show moO S x = none from opO_hi h6]; rfl) (rfl) dX8_isObject_23 hlocks
    · skip
      obtain ⟨i, hi, ei⟩ := ix_of (n := 4) (by decide) h1 h6
      refine lv_aload_n hx hb dX8_isObject_9 rfl (lv_at hl 0 rfl) ?_
      refine g_X8_there Cx hG hH q_fl_X8_73 dX8_isObject_10 ?_
      refine lv_iload_n hx hb dX8_isObject_13 rfl (lv_at hl 1 rfl) ?_
      refine mv_zal Cx hG hH isM_30 i (ei) (by omega) dX8_isObject_14 ?_
      refine lv_if_eq (tgt := 22) hx hb dX8_isObject_15 (by decide) (fun h15 => ?_) (fun h15 => ?_)
      · skip
        refine lv_iconst (v := 0) hx hb dX8_isObject_22 (by decide) ?_
        exact mv_retz Cx hr hH hS (Or.inl rfl) (by rw [ei, show moO S (nI i) = none from (opO_in (by decide) hi).trans (if_pos h15)]; rfl) (rfl) dX8_isObject_23 hlocks
      · skip
        refine lv_iconst (v := 1) hx hb dX8_isObject_18 (by decide) ?_
        refine lv_goto (tgt := 23) hx hb dX8_isObject_19 (by decide) ?_
        exact mv_retz Cx hr hH hS (Or.inr rfl) (by rw [ei, show moO S (nI i) = some i from (opO_in (by decide) hi).trans (if_neg h15)]; rfl) (rfl) dX8_isObject_23 hlocks

set_option maxHeartbeats 4000000 in
set_option maxRecDepth 100000 in
theorem c_X8_thing (l : Launch) (E : mEv) (A : Nat → Prop) (hO : mOwn mLM E A) (S : mSt) (x kd : Int32) : Met l yX8_thing (Cond.code yX8_thing cX8_thing 3 (some .int) :: mv_ws) (mRm 0 0) (mPc mLM E A S [.ref (mAdM E 0 0), .int x, .int kd]) (mQ mLM E A (fun S' => S' = S) (some (.int ((mtO S x kd).elim (-1) (fun i => nI (4 + i)))))) 0 0 A := by
  refine Met.ofW (cc := cX8_thing) (maxL := 3) (ret := (some .int)) (by decide) rfl ?_
  intro p e s m args below meth c s₁ B hml hv
  obtain ⟨rfl, hG, hH⟩ := hv
  have hx := B.exec
  have hb := B.bytes
  have hr := B.returns
  have hlocks := B.notSynchronized
  have Cx : CallFix p m c cX8_thing 3 s ([.ref (mAdM E 0 0), .int x, .int kd] : List Value).toArray (Cond.code yX8_thing cX8_thing 3 (some .int) :: mv_ws) RX8 := ⟨hx, hb, hml, findClass_of_methodNamed B.named, atoms_spec (ws := Cond.code yX8_thing cX8_thing 3 (some .int) :: mv_ws) B.pre⟩
  have hS : va_S A s.heap s.heap [] := va_S.rf
  have hl := lv_entry ([.ref (mAdM E 0 0), .int x, .int kd]) (n := 3) (Nat.le_of_ble_eq_true rfl)
  rw [lg_entry_eq]
  generalize (lg_sl ([.ref (mAdM E 0 0), .int x, .int kd]) ++ List.replicate (3 - (lg_sl ([.ref (mAdM E 0 0), .int x, .int kd])).length) Slot.unset).toArray = ls at hl ⊢
  have hl : lv_has ls 3 [(0, .ref (mAdM E 0 0)), (1, .int x), (2, .int kd)] := hl
  refine lv_iload_n hx hb dX8_thing_0 rfl (lv_at hl 1 rfl) ?_
  refine lv_if_lt (tgt := 43) hx hb dX8_thing_1 (by decide) (fun h1 => ?_) (fun h1 => ?_)
  · skip
    refine lv_iconst (v := (-1 : Int32)) hx hb dX8_thing_43 (by decide) ?_
    exact mv_reti Cx hr hH hS (by unfold mtO; rw [show opO (fun i => S.1 30 0 (4 + i)) 8 x = none from opO_lo h1]; rfl) (rfl) dX8_thing_44 hlocks
  · skip
    refine lv_iload_n hx hb dX8_thing_4 rfl (lv_at hl 1 rfl) ?_
    refine lv_bipush (v := 8) hx hb dX8_thing_5 (by decide) ?_
    refine lv_icmp_ge (tgt := 43) hx hb dX8_thing_7 (by decide) (fun h7 => ?_) (fun h7 => ?_)
    · skip
      refine lv_iconst (v := (-1 : Int32)) hx hb dX8_thing_43 (by decide) ?_
      exact mv_reti Cx hr hH hS (by unfold mtO; rw [show opO (fun i => S.1 30 0 (4 + i)) 8 x = none from opO_hi h7]; rfl) (rfl) dX8_thing_44 hlocks
    · skip
      obtain ⟨i, hi, ei⟩ := ix_of (n := 8) (by decide) h1 h7
      refine lv_aload_n hx hb dX8_thing_10 rfl (lv_at hl 0 rfl) ?_
      refine g_X8_there Cx hG hH q_fl_X8_73 dX8_thing_11 ?_
      refine lv_iconst (v := 4) hx hb dX8_thing_14 (by decide) ?_
      refine lv_iload_n hx hb dX8_thing_15 rfl (lv_at hl 1 rfl) ?_
      refine lv_iadd hx hb dX8_thing_16 ?_
      refine mv_eqi (x' := nI (4 + i)) (by rw [ei]; exact nI_add 4 i) ?_
      refine mv_zal Cx hG hH isM_30 (4 + i) (rfl) (by omega) dX8_thing_17 ?_
      refine lv_if_eq (tgt := 43) hx hb dX8_thing_18 (by decide) (fun h18 => ?_) (fun h18 => ?_)
      · skip
        refine lv_iconst (v := (-1 : Int32)) hx hb dX8_thing_43 (by decide) ?_
        exact mv_reti Cx hr hH hS (by unfold mtO; rw [show opO (fun i => S.1 30 0 (4 + i)) 8 x = none from by rw [ei]; exact (opO_in (by decide) hi).trans (if_pos h18)]; rfl) (rfl) dX8_thing_44 hlocks
      · skip
        have hsm : opO (fun i => S.1 30 0 (4 + i)) 8 x = some i := by rw [ei]; exact (opO_in (by decide) hi).trans (if_neg h18)
        refine lv_iload_n hx hb dX8_thing_21 rfl (lv_at hl 2 rfl) ?_
        refine lv_if_lt (tgt := 37) hx hb dX8_thing_22 (by decide) (fun h22 => ?_) (fun h22 => ?_)
        · skip
          refine lv_iconst (v := 4) hx hb dX8_thing_37 (by decide) ?_
          refine lv_iload_n hx hb dX8_thing_38 rfl (lv_at hl 1 rfl) ?_
          refine lv_iadd hx hb dX8_thing_39 ?_
          refine mv_eqi (x' := nI (4 + i)) (by rw [ei]; exact nI_add 4 i) ?_
          refine lv_goto (tgt := 44) hx hb dX8_thing_40 (by decide) ?_
          exact mv_reti Cx hr hH hS (by unfold mtO; rw [hsm]; show _ = (if kd < 0 ∨ S.1 35 0 (4 + i) = kd then some i else none).elim (-1) (fun i => nI (4 + i)); rw [if_pos (Or.inl h22)]; rfl) (rfl) dX8_thing_44 hlocks
        · skip
          refine lv_aload_n hx hb dX8_thing_25 rfl (lv_at hl 0 rfl) ?_
          refine g_X8_kind Cx hG hH q_fl_X8_88 dX8_thing_26 ?_
          refine lv_iconst (v := 4) hx hb dX8_thing_29 (by decide) ?_
          refine lv_iload_n hx hb dX8_thing_30 rfl (lv_at hl 1 rfl) ?_
          refine lv_iadd hx hb dX8_thing_31 ?_
          refine mv_eqi (x' := nI (4 + i)) (by rw [ei]; exact nI_add 4 i) ?_
          refine mv_ial Cx hG hH isM_35 (4 + i) (rfl) (by omega) dX8_thing_32 ?_
          refine lv_iload_n hx hb dX8_thing_33 rfl (lv_at hl 2 rfl) ?_
          refine lv_icmp_ne (tgt := 43) hx hb dX8_thing_34 (by decide) (fun h34 => ?_) (fun h34 => ?_)
          · skip
            refine lv_iconst (v := (-1 : Int32)) hx hb dX8_thing_43 (by decide) ?_
            exact mv_reti Cx hr hH hS (by unfold mtO; rw [hsm]; show _ = (if kd < 0 ∨ S.1 35 0 (4 + i) = kd then some i else none).elim (-1) (fun i => nI (4 + i)); rw [if_neg (fun h => h.elim h22 h34)]; rfl) (rfl) dX8_thing_44 hlocks
          · skip
            refine lv_iconst (v := 4) hx hb dX8_thing_37 (by decide) ?_
            refine lv_iload_n hx hb dX8_thing_38 rfl (lv_at hl 1 rfl) ?_
            refine lv_iadd hx hb dX8_thing_39 ?_
            refine mv_eqi (x' := nI (4 + i)) (by rw [ei]; exact nI_add 4 i) ?_
            refine lv_goto (tgt := 44) hx hb dX8_thing_40 (by decide) ?_
            exact mv_reti Cx hr hH hS (by unfold mtO; rw [hsm]; show _ = (if kd < 0 ∨ S.1 35 0 (4 + i) = kd then some i else none).elim (-1) (fun i => nI (4 + i)); rw [if_pos (Or.inr h34)]; rfl) (rfl) dX8_thing_44 hlocks

set_option maxHeartbeats 4000000 in
set_option maxRecDepth 100000 in
theorem c_X8_compared (l : Launch) (E : mEv) (A : Nat → Prop) (hO : mOwn mLM E A) (S : mSt) (k0 n0 : Nat) (hB : mIsB mLM k0 0 n0) (a : Nat) (ha : a + 32 ≤ n0) : Met l yX8_compared (Cond.code yX8_compared cX8_compared 3 (some .int) :: mv_ws) (mRm 1 24) (mPc mLM E A S [.ref (mAdM E 0 0), .ref (mAdM E k0 0), .int (nI a)]) (mQ mLM E A (fun S' => S' = mkS S (S.2.1 k0 0) a) (some (.int (mkR S (S.2.1 k0 0) a)))) 0 0 A := by
  refine Met.ofW (cc := cX8_compared) (maxL := 3) (ret := (some .int)) (by decide) rfl ?_
  intro p e s m args below meth c s₁ B hml hv
  obtain ⟨rfl, hG, hH⟩ := hv
  have hx := B.exec
  have hb := B.bytes
  have hr := B.returns
  have hlocks := B.notSynchronized
  have Cx : CallFix p m c cX8_compared 3 s ([.ref (mAdM E 0 0), .ref (mAdM E k0 0), .int (nI a)] : List Value).toArray (Cond.code yX8_compared cX8_compared 3 (some .int) :: mv_ws) RX8 := ⟨hx, hb, hml, findClass_of_methodNamed B.named, atoms_spec (ws := Cond.code yX8_compared cX8_compared 3 (some .int) :: mv_ws) B.pre⟩
  have hS : va_S A s.heap s.heap [] := va_S.rf
  have hl := lv_entry ([.ref (mAdM E 0 0), .ref (mAdM E k0 0), .int (nI a)]) (n := 3) (Nat.le_of_ble_eq_true rfl)
  rw [lg_entry_eq]
  generalize (lg_sl ([.ref (mAdM E 0 0), .ref (mAdM E k0 0), .int (nI a)]) ++ List.replicate (3 - (lg_sl ([.ref (mAdM E 0 0), .ref (mAdM E k0 0), .int (nI a)])).length) Slot.unset).toArray = ls at hl ⊢
  have hl : lv_has ls 3 [(0, .ref (mAdM E 0 0)), (1, .ref (mAdM E k0 0)), (2, .int (nI a))] := hl
  refine lv_aload_n hx hb dX8_compared_0 rfl (lv_at hl 0 rfl) ?_
  refine g_X8_failures Cx hG hH q_fl_X8_193 dX8_compared_1 ?_
  refine lv_iconst (v := 4) hx hb dX8_compared_4 (by decide) ?_
  refine lv_icmp_lt (tgt := 11) hx hb dX8_compared_5 (by decide) (fun h5 => ?_) (fun h5 => ?_)
  · skip
    refine lv_aload_n hx hb dX8_compared_11 rfl (lv_at hl 0 rfl) ?_
    refine g_X8_keyNow Cx hG hH q_fl_X8_38 dX8_compared_12 ?_
    refine lv_iconst (v := 0) hx hb dX8_compared_15 (by decide) ?_
    refine mv_eqi (x' := nI 0) (rfl) ?_
    refine lv_aload_n hx hb dX8_compared_16 rfl (lv_at hl 1 rfl) ?_
    refine lv_iload_n hx hb dX8_compared_17 rfl (lv_at hl 2 rfl) ?_
    refine mv_callS (Y := mLM) (rest := []) Cx hG hH hS (c_X8_same l E A hO S 14 32 isM_14 0 (by decide) k0 n0 hB a ha) q_co_X8_same q_ml_X8_189 q_st_X8_same q_in_X8 hd_X8_same ⟨Nat.le_of_ble_eq_true rfl, Nat.le_of_ble_eq_true rfl⟩ rfl hl.1 rfl (Nat.le_of_ble_eq_true rfl) ⟨Nat.le_of_ble_eq_true rfl, Nat.le_of_ble_eq_true rfl⟩ dX8_compared_18 (fun S18 H locs hP18 hH hS => ?_)
    refine W.eq (g2 := F0 m 21 ls [.int (if nEq (S.2.1 14 0) (S.2.1 k0 0) 0 a = true then 1 else 0)]) rfl ?_
    have hH := mv_S hP18 hH
    refine lv_if_eq (tgt := 26) hx hb dX8_compared_21 (by decide) (fun h21 => ?_) (fun h21 => ?_)
    · skip
      have hne : ¬ mEq (S.2.1 14 0) (S.2.1 k0 0) a = true := by have := b0_of h21; rwa [nEq_0] at this
      refine lv_aload_n hx hb dX8_compared_26 rfl (lv_at hl 0 rfl) ?_
      refine lv_dup hx hb dX8_compared_27 rfl ?_
      refine g_X8_failures Cx hG hH q_fl_X8_193 dX8_compared_28 ?_
      refine lv_iconst (v := 1) hx hb dX8_compared_31 (by decide) ?_
      refine lv_iadd hx hb dX8_compared_32 ?_
      refine p_X8_failures Cx hG hO hH hS q_fl_X8_193 dX8_compared_33 (fun H locs hH hS => ?_)
      refine lv_bipush (v := (-4 : Int32)) hx hb dX8_compared_36 (by decide) ?_
      exact mv_reti Cx hr hH hS (((if_pos h5).trans (if_neg hne)).symm) (((if_pos h5).trans (if_neg hne)).symm) dX8_compared_38 hlocks
    · skip
      have heq : mEq (S.2.1 14 0) (S.2.1 k0 0) a = true := by have := b1_of h21; rwa [nEq_0] at this
      refine lv_iconst (v := 0) hx hb dX8_compared_24 (by decide) ?_
      exact mv_reti Cx hr hH hS (((if_pos h5).trans (if_pos heq)).symm) (((if_pos h5).trans (if_pos heq)).symm) dX8_compared_25 hlocks
  · skip
    refine lv_bipush (v := (-5 : Int32)) hx hb dX8_compared_8 (by decide) ?_
    exact mv_reti Cx hr hH hS ((if_neg h5).symm) ((if_neg h5).symm) dX8_compared_10 hlocks

set_option maxHeartbeats 4000000 in
set_option maxRecDepth 100000 in
theorem c_X8_owners (l : Launch) (E : mEv) (A : Nat → Prop) (hO : mOwn mLM E A) (S : mSt)  : Met l yX8_owners (Cond.code yX8_owners cX8_owners 1 (some .int) :: mv_ws) (mRm 2 46) (mPc mLM E A S [.ref (mAdM E 0 0)]) (mQ mLM E A (fun S' => S' = mkS S (S.2.1 15 0) 0) (some (.int (mkR S (S.2.1 15 0) 0)))) 0 0 A := by
  refine Met.ofW (cc := cX8_owners) (maxL := 1) (ret := (some .int)) (by decide) rfl ?_
  intro p e s m args below meth c s₁ B hml hv
  obtain ⟨rfl, hG, hH⟩ := hv
  have hx := B.exec
  have hb := B.bytes
  have hr := B.returns
  have hlocks := B.notSynchronized
  have Cx : CallFix p m c cX8_owners 1 s ([.ref (mAdM E 0 0)] : List Value).toArray (Cond.code yX8_owners cX8_owners 1 (some .int) :: mv_ws) RX8 := ⟨hx, hb, hml, findClass_of_methodNamed B.named, atoms_spec (ws := Cond.code yX8_owners cX8_owners 1 (some .int) :: mv_ws) B.pre⟩
  have hS : va_S A s.heap s.heap [] := va_S.rf
  have hl := lv_entry ([.ref (mAdM E 0 0)]) (n := 1) (Nat.le_of_ble_eq_true rfl)
  rw [lg_entry_eq]
  generalize (lg_sl ([.ref (mAdM E 0 0)]) ++ List.replicate (1 - (lg_sl ([.ref (mAdM E 0 0)])).length) Slot.unset).toArray = ls at hl ⊢
  have hl : lv_has ls 1 [(0, .ref (mAdM E 0 0))] := hl
  refine lv_aload_n hx hb dX8_owners_0 rfl (lv_at hl 0 rfl) ?_
  refine lv_aload_n hx hb dX8_owners_1 rfl (lv_at hl 0 rfl) ?_
  refine g_X8_owner Cx hG hH q_fl_X8_41 dX8_owners_2 ?_
  refine lv_iconst (v := 0) hx hb dX8_owners_5 (by decide) ?_
  refine mv_eqi (x' := nI 0) (rfl) ?_
  refine mv_callV (Y := mLM) (C := RX8) (k := 0) (i := 0) (rest := []) Cx hG hH hS (c_X8_compared l E A hO S 15 32 isM_15 0 (by decide)) q_co_X8_compared q_ml_X8_196 q_im_X8_compared q_se_X8_compared q_in_X8 okM_0 rfl rfl hd_X8_compared ⟨Nat.le_of_ble_eq_true rfl, Nat.le_of_ble_eq_true rfl⟩ rfl hl.1 rfl (Nat.le_of_ble_eq_true rfl) ⟨Nat.le_of_ble_eq_true rfl, Nat.le_of_ble_eq_true rfl⟩ dX8_owners_6 (fun S6 H locs hP6 hH hS => ?_)
  refine W.eq (g2 := F0 m 9 ls [.int (mkR S (S.2.1 15 0) 0)]) rfl ?_
  exact mv_reti Cx hr hH hS (rfl) (hP6) dX8_owners_9 hlocks

set_option maxHeartbeats 4000000 in
set_option maxRecDepth 100000 in
theorem c_X8_show (l : Launch) (E : mEv) (A : Nat → Prop) (hO : mOwn mLM E A) (S : mSt) (t n : Nat) (ht12 : t < 12) (hn128 : n ≤ 128) (hsz : S.1 34 0 t = nI n) : Met l yX8_show (Cond.code yX8_show cX8_show 3 (some .int) :: mv_ws) (mRm 0 0) (mPc mLM E A S [.ref (mAdM E 0 0), .int (nI t)]) (mQ mLM E A (fun S' => nHas 3 512 S' (mTk (fun q => S.2.1 33 0 (128 * t + q)) n) ∧ nSame (nX 3) S S') (some (.int (nI n)))) 0 0 A := by
  refine Met.ofW (cc := cX8_show) (maxL := 3) (ret := (some .int)) (by decide) rfl ?_
  intro p e s m args below meth c s₁ B hml hv
  obtain ⟨rfl, hG, hH⟩ := hv
  have hx := B.exec
  have hb := B.bytes
  have hr := B.returns
  have hlocks := B.notSynchronized
  have Cx : CallFix p m c cX8_show 3 s ([.ref (mAdM E 0 0), .int (nI t)] : List Value).toArray (Cond.code yX8_show cX8_show 3 (some .int) :: mv_ws) RX8 := ⟨hx, hb, hml, findClass_of_methodNamed B.named, atoms_spec (ws := Cond.code yX8_show cX8_show 3 (some .int) :: mv_ws) B.pre⟩
  have hS : va_S A s.heap s.heap [] := va_S.rf
  have hl := lv_entry ([.ref (mAdM E 0 0), .int (nI t)]) (n := 3) (Nat.le_of_ble_eq_true rfl)
  rw [lg_entry_eq]
  generalize (lg_sl ([.ref (mAdM E 0 0), .int (nI t)]) ++ List.replicate (3 - (lg_sl ([.ref (mAdM E 0 0), .int (nI t)])).length) Slot.unset).toArray = ls at hl ⊢
  have hl : lv_has ls 3 [(0, .ref (mAdM E 0 0)), (1, .int (nI t))] := hl
  refine lv_aload_n hx hb dX8_show_0 rfl (lv_at hl 0 rfl) ?_
  refine lv_aload_n hx hb dX8_show_1 rfl (lv_at hl 0 rfl) ?_
  refine g_X8_size Cx hG hH q_fl_X8_85 dX8_show_2 ?_
  refine lv_iload_n hx hb dX8_show_5 rfl (lv_at hl 1 rfl) ?_
  refine mv_ial Cx hG hH isM_34 t (rfl) (by omega) dX8_show_6 ?_
  refine mv_eqi (x' := nI n) (hsz) ?_
  refine p_X8_outCount Cx hG hO hH hS q_fl_X8_143 dX8_show_7 (fun H locs hH hS => ?_)
  refine lv_iconst (v := 0) hx hb dX8_show_10 (by decide) ?_
  refine mv_eqi (x' := nI 0) (rfl) ?_
  refine lv_istore_n (lv' := [(2, .int (nI 0)), (0, .ref (mAdM E 0 0)), (1, .int (nI t))]) hx hb dX8_show_11 rfl hl (by decide) rfl (fun ls hl => ?_)
  have lp : ∀ (fu j : Nat) (S1 : mSt) (H : Heap) (locs : List Loc) (ls : Array Slot) , n - j < fu → j ≤ n → (S1.1 0 0 3 = nI n ∧ (∀ q, q < j → S1.2.1 3 0 q = S.2.1 33 0 (128 * t + q)) ∧ nSame (nX 3) S S1) → mHold mLM E S1 H → va_S A s.heap H locs → lv_has ls 3 [(0, .ref (mAdM E 0 0)), (1, .int (nI t)), (2, .int (nI j))] → W p l e (headSpec (Cond.code yX8_show cX8_show 3 (some .int) :: mv_ws) (mRm 0 0)).room s m ([.ref (mAdM E 0 0), .int (nI t)] : List Value).toArray below meth c H locs 0 0 (MQ below (mQ mLM E A (fun S' => nHas 3 512 S' (mTk (fun q => S.2.1 33 0 (128 * t + q)) n) ∧ nSame (nX 3) S S') (some (.int (nI n)))) ([.ref (mAdM E 0 0), .int (nI t)] : List Value).toArray s 0 0 A) (F0 m 12 ls []) := by
    intro fu
    induction fu with
    | zero => intro j S1 H locs ls  hn hj hinv hH hS hl; omega
    | succ fu ih =>
      intro j S1 H locs ls  hn hj hinv hH hS hl
      refine lv_iload_n hx hb dX8_show_12 rfl (lv_at hl 2 rfl) ?_
      refine lv_aload_n hx hb dX8_show_13 rfl (lv_at hl 0 rfl) ?_
      refine g_X8_outCount Cx hG hH q_fl_X8_143 dX8_show_14 ?_
      refine mv_eqi (x' := nI n) (hinv.1) ?_
      refine lv_icmp_ge (tgt := 44) hx hb dX8_show_17 (by decide) (fun h17 => ?_) (fun h17 => ?_)
      · skip
        have hjn : j = n := by have := ge_of (a := n) (b := j) (by omega) (by omega) h17; omega
        rw [hjn] at hinv
        refine lv_aload_n hx hb dX8_show_44 rfl (lv_at hl 0 rfl) ?_
        refine g_X8_outCount Cx hG hH q_fl_X8_143 dX8_show_45 ?_
        refine mv_eqi (x' := nI n) (hinv.1) ?_
        exact mv_reti Cx hr hH hS (rfl) (⟨⟨by rw [mTk_len]; exact hinv.1, by rw [mTk_len]; omega, fun q hq => by rw [mTk_len] at hq; rw [mTk_get _ hq]; exact hinv.2.1 q hq⟩, hinv.2.2⟩) dX8_show_48 hlocks
      · skip
        have hjn : j < n := lt_of (a := n) (b := j) (by omega) (by omega) h17
        refine lv_aload_n hx hb dX8_show_20 rfl (lv_at hl 0 rfl) ?_
        refine g_X8_out Cx hG hH q_fl_X8_13 dX8_show_21 ?_
        refine lv_iload_n hx hb dX8_show_24 rfl (lv_at hl 2 rfl) ?_
        refine lv_aload_n hx hb dX8_show_25 rfl (lv_at hl 0 rfl) ?_
        refine g_X8_data Cx hG hH q_fl_X8_82 dX8_show_26 ?_
        refine lv_sipush (v := 128) hx hb dX8_show_29 (by decide) ?_
        refine lv_iload_n hx hb dX8_show_32 rfl (lv_at hl 1 rfl) ?_
        refine lv_imul hx hb dX8_show_33 ?_
        refine mv_eqi (x' := nI (128 * t)) (pk_mul 128 t) ?_
        refine lv_iload_n hx hb dX8_show_34 rfl (lv_at hl 2 rfl) ?_
        refine lv_iadd hx hb dX8_show_35 ?_
        refine mv_eqi (x' := nI (128 * t + j)) (nI_add _ _) ?_
        refine mv_bal Cx hG hH isM_33 (128 * t + j) (rfl) (by omega) dX8_show_36 ?_
        refine mv_bas8 Cx hG hO hH hS isM_3 j (S1.2.1 33 0 (128 * t + j)) rfl (rfl) (by omega) dX8_show_37 (fun H locs hH hS => ?_)
        refine lv_iinc (v := nI (j + 1)) (lv' := [(2, .int (nI (j + 1))), (0, .ref (mAdM E 0 0)), (1, .int (nI t))]) hx hb dX8_show_38 hl (k := 2) rfl (i2_1 j) (by decide) rfl (fun ls hl => ?_)
        refine lv_goto (tgt := 12) hx hb dX8_show_41 (by decide) ?_
        exact ih (j + 1) (mB S1 3 0 j (S1.2.1 33 0 (128 * t + j))) _ _ ls  (by omega) (by omega) (⟨hinv.1, fun q hq => by by_cases e : q = j; (subst e; exact (show m3 S1.2.1 3 0 q _ 3 0 q = _ by simp [m3]).trans (hinv.2.2 33 _ (by simp [nX])).2.1); (exact (show m3 S1.2.1 3 0 j _ 3 0 q = _ from m3_n _ _ (by omega)).trans (hinv.2.1 q (by omega))), hinv.2.2.tr (nSame.B (X := nX 3) (Or.inr rfl))⟩) hH hS (lv_sub hl [1, 2, 0] rfl)
  exact lp (n - 0 + 1) 0 (mM S 0 0 3 (nI n)) _ _ ls  (by omega) (by omega) (⟨by simp [mM, m3], fun q h => absurd h (Nat.not_lt_zero _), nSame.M (Or.inl ⟨rfl, rfl⟩)⟩) hH hS (lv_sub hl [1, 2, 0] rfl)

set_option maxHeartbeats 4000000 in
set_option maxRecDepth 100000 in
theorem c_X8_by (l : Launch) (E : mEv) (A : Nat → Prop) (hO : mOwn mLM E A) (S : mSt) (t : Nat) (ht12 : t < 12) (x co : Int32) : Met l yX8_by (Cond.code yX8_by cX8_by 6 (some .int) :: mv_ws) (mRm 2 46) (mPc mLM E A S [.ref (mAdM E 0 0), .int (nI t), .int x, .int co]) (mQ mLM E A (fun S' => S' = (mbP S t x co).2) (some (.int (mbP S t x co).1))) 0 0 A := by
  refine Met.ofW (cc := cX8_by) (maxL := 6) (ret := (some .int)) (by decide) rfl ?_
  intro p e s m args below meth c s₁ B hml hv
  obtain ⟨rfl, hG, hH⟩ := hv
  have hx := B.exec
  have hb := B.bytes
  have hr := B.returns
  have hlocks := B.notSynchronized
  have Cx : CallFix p m c cX8_by 6 s ([.ref (mAdM E 0 0), .int (nI t), .int x, .int co] : List Value).toArray (Cond.code yX8_by cX8_by 6 (some .int) :: mv_ws) RX8 := ⟨hx, hb, hml, findClass_of_methodNamed B.named, atoms_spec (ws := Cond.code yX8_by cX8_by 6 (some .int) :: mv_ws) B.pre⟩
  have hS : va_S A s.heap s.heap [] := va_S.rf
  have hl := lv_entry ([.ref (mAdM E 0 0), .int (nI t), .int x, .int co]) (n := 6) (Nat.le_of_ble_eq_true rfl)
  rw [lg_entry_eq]
  generalize (lg_sl ([.ref (mAdM E 0 0), .int (nI t), .int x, .int co]) ++ List.replicate (6 - (lg_sl ([.ref (mAdM E 0 0), .int (nI t), .int x, .int co])).length) Slot.unset).toArray = ls at hl ⊢
  have hl : lv_has ls 6 [(0, .ref (mAdM E 0 0)), (1, .int (nI t)), (2, .int x), (3, .int co)] := hl
  refine lv_iload_n hx hb dX8_by_0 rfl (lv_at hl 2 rfl) ?_
  refine lv_iconst (v := (-1 : Int32)) hx hb dX8_by_1 (by decide) ?_
  refine lv_icmp_ne (tgt := 18) hx hb dX8_by_2 (by decide) (fun h2 => ?_) (fun h2 => ?_)
  · skip
    refine lv_aload_n hx hb dX8_by_18 rfl (lv_at hl 0 rfl) ?_
    refine lv_iload_n hx hb dX8_by_19 rfl (lv_at hl 2 rfl) ?_
    refine mv_callV (Y := mLM) (C := RX8) (k := 0) (i := 0) (rest := []) Cx hG hH hS (c_X8_opened l E A hO S x) q_co_X8_opened q_ml_X8_182 q_im_X8_opened q_se_X8_opened q_in_X8 okM_0 rfl rfl hd_X8_opened ⟨Nat.le_of_ble_eq_true rfl, Nat.le_of_ble_eq_true rfl⟩ rfl hl.1 rfl (Nat.le_of_ble_eq_true rfl) ⟨Nat.le_of_ble_eq_true rfl, Nat.le_of_ble_eq_true rfl⟩ dX8_by_20 (fun S20 H locs hP20 hH hS => ?_)
    refine W.eq (g2 := F0 m 23 ls [.int (if (msO S x).isSome = true then 1 else 0)]) rfl ?_
    have hH := mv_S hP20 hH
    refine lv_if_ne (tgt := 28) hx hb dX8_by_23 (by decide) (fun h23 => ?_) (fun h23 => ?_)
    · skip
      obtain ⟨i, hso⟩ := Option.isSome_iff_exists.mp (b1_of h23)
      obtain ⟨hxi, hi, hop⟩ := opO_some (by decide) hso
      have hmb : mbP S t x co = mbQ S t i co := by unfold mbP; rw [if_neg h2, hso]; rfl
      have hl : lv_has ls 6 [(0, .ref (mAdM E 0 0)), (1, .int (nI t)), (2, .int (nI i)), (3, .int co)] := by rw [← hxi]; exact hl
      refine lv_iconst (v := 1) hx hb dX8_by_28 (by decide) ?_
      refine lv_istore (lv' := [(4, .int 1), (0, .ref (mAdM E 0 0)), (1, .int (nI t)), (2, .int (nI i)), (3, .int co)]) hx hb dX8_by_29 hl (by decide) rfl (fun ls hl => ?_)
      refine lv_iconst (v := 0) hx hb dX8_by_31 (by decide) ?_
      refine mv_eqi (x' := nI 0) (rfl) ?_
      refine lv_istore (lv' := [(5, .int (nI 0)), (4, .int 1), (0, .ref (mAdM E 0 0)), (1, .int (nI t)), (2, .int (nI i)), (3, .int co)]) hx hb dX8_by_32 hl (by decide) rfl (fun ls hl => ?_)
      have lp : ∀ (fu j : Nat) (S1 : mSt) (H : Heap) (locs : List Loc) (ls : Array Slot) (z : Int32), 32 - j < fu → j ≤ 32 → (S1 = S ∧ (z = 1 ↔ ∀ r, r < j → S.2.1 32 0 (32 * t + r) = 0) ∧ (z = 0 ∨ z = 1)) → mHold mLM E S1 H → va_S A s.heap H locs → lv_has ls 6 [(0, .ref (mAdM E 0 0)), (1, .int (nI t)), (2, .int (nI i)), (3, .int co), (4, .int z), (5, .int (nI j))] → W p l e (headSpec (Cond.code yX8_by cX8_by 6 (some .int) :: mv_ws) (mRm 2 46)).room s m ([.ref (mAdM E 0 0), .int (nI t), .int x, .int co] : List Value).toArray below meth c H locs 0 0 (MQ below (mQ mLM E A (fun S' => S' = (mbP S t x co).2) (some (.int (mbP S t x co).1))) ([.ref (mAdM E 0 0), .int (nI t), .int x, .int co] : List Value).toArray s 0 0 A) (F0 m 34 ls []) := by
        intro fu
        induction fu with
        | zero => intro j S1 H locs ls z hn hj hinv hH hS hl; omega
        | succ fu ih =>
          intro j S1 H locs ls z hn hj hinv hH hS hl
          have hH := mv_S hinv.1 hH
          refine lv_iload hx hb dX8_by_34 (lv_at hl 5 rfl) ?_
          refine lv_bipush (v := 32) hx hb dX8_by_36 (by decide) ?_
          refine lv_icmp_ge (tgt := 74) hx hb dX8_by_38 (by decide) (fun h38 => ?_) (fun h38 => ?_)
          · skip
            have hj32 : j = 32 := by have := ge_of (a := 32) (by decide) (by omega) h38; omega
            rw [hj32] at hinv
            refine lv_iload hx hb dX8_by_74 (lv_at hl 4 rfl) ?_
            refine lv_if_ne (tgt := 101) hx hb dX8_by_76 (by decide) (fun h76 => ?_) (fun h76 => ?_)
            · skip
              have hz : mZ (S.2.1 32 0) (32 * t) = true := mZ_iff.mpr (hinv.2.1.mp (hinv.2.2.resolve_left h76))
              refine lv_bipush (v := (-7 : Int32)) hx hb dX8_by_101 (by decide) ?_
              exact mv_reti Cx hr hH hS (by rw [hmb]; unfold mbQ; rw [if_pos hz]) (by rw [hmb]; unfold mbQ; rw [if_pos hz]) dX8_by_103 hlocks
            · skip
              have hz : ¬ mZ (S.2.1 32 0) (32 * t) = true := fun h => absurd (hinv.2.1.mpr (mZ_iff.mp h)) (fun e => absurd (e.symm.trans h76) (by decide))
              refine lv_aload_n hx hb dX8_by_79 rfl (lv_at hl 0 rfl) ?_
              refine g_X8_policy Cx hG hH q_fl_X8_79 dX8_by_80 ?_
              refine lv_bipush (v := 32) hx hb dX8_by_83 (by decide) ?_
              refine lv_iload_n hx hb dX8_by_85 rfl (lv_at hl 1 rfl) ?_
              refine lv_imul hx hb dX8_by_86 ?_
              refine mv_eqi (x' := nI (32 * t)) (pk_mul 32 t) ?_
              refine lv_aload_n hx hb dX8_by_87 rfl (lv_at hl 0 rfl) ?_
              refine g_X8_digest Cx hG hH q_fl_X8_51 dX8_by_88 ?_
              refine lv_bipush (v := 32) hx hb dX8_by_91 (by decide) ?_
              refine lv_iload_n hx hb dX8_by_93 rfl (lv_at hl 2 rfl) ?_
              refine lv_imul hx hb dX8_by_94 ?_
              refine mv_eqi (x' := nI (32 * i)) (pk_mul 32 i) ?_
              refine mv_callS (Y := mLM) (rest := []) Cx hG hH hS (c_X8_same l E A hO S 32 384 isM_32 (32 * t) (by omega) 23 128 isM_23 (32 * i) (by omega)) q_co_X8_same q_ml_X8_189 q_st_X8_same q_in_X8 hd_X8_same ⟨Nat.le_of_ble_eq_true rfl, Nat.le_of_ble_eq_true rfl⟩ rfl hl.1 rfl (Nat.le_of_ble_eq_true rfl) ⟨Nat.le_of_ble_eq_true rfl, Nat.le_of_ble_eq_true rfl⟩ dX8_by_95 (fun S95 H locs hP95 hH hS => ?_)
              refine W.eq (g2 := F0 m 98 ls [.int (if nEq (S.2.1 32 0) (S.2.1 23 0) (32 * t) (32 * i) = true then 1 else 0)]) rfl ?_
              have hH := mv_S hP95 hH
              refine lv_if_ne (tgt := 104) hx hb dX8_by_98 (by decide) (fun h98 => ?_) (fun h98 => ?_)
              · skip
                have hne := b1_of h98
                refine lv_aload_n hx hb dX8_by_104 rfl (lv_at hl 0 rfl) ?_
                refine g_X8_ofRegisters Cx hG hH q_fl_X8_54 dX8_by_105 ?_
                refine lv_iload_n hx hb dX8_by_108 rfl (lv_at hl 2 rfl) ?_
                refine mv_zal Cx hG hH isM_24 i (rfl) (by omega) dX8_by_109 ?_
                refine lv_if_eq (tgt := 122) hx hb dX8_by_110 (by decide) (fun h110 => ?_) (fun h110 => ?_)
                · skip
                  refine lv_aload_n hx hb dX8_by_122 rfl (lv_at hl 0 rfl) ?_
                  refine g_X8_code Cx hG hH q_fl_X8_66 dX8_by_123 ?_
                  refine lv_iload_n hx hb dX8_by_126 rfl (lv_at hl 2 rfl) ?_
                  refine mv_ial Cx hG hH isM_28 i (rfl) (by omega) dX8_by_127 ?_
                  refine lv_if_eq (tgt := 141) hx hb dX8_by_128 (by decide) (fun h128 => ?_) (fun h128 => ?_)
                  · skip
                    refine lv_aload_n hx hb dX8_by_141 rfl (lv_at hl 0 rfl) ?_
                    refine g_X8_ofTime Cx hG hH q_fl_X8_63 dX8_by_142 ?_
                    refine lv_iload_n hx hb dX8_by_145 rfl (lv_at hl 2 rfl) ?_
                    refine mv_zal Cx hG hH isM_27 i (rfl) (by omega) dX8_by_146 ?_
                    refine lv_if_eq (tgt := 166) hx hb dX8_by_147 (by decide) (fun h147 => ?_) (fun h147 => ?_)
                    · skip
                      have hok : mOkB S i co = true := mOkB_iff.mpr ⟨Or.inl h110, Or.inl h128, Or.inl h147⟩
                      refine lv_aload_n hx hb dX8_by_166 rfl (lv_at hl 0 rfl) ?_
                      refine g_X8_ofAuth Cx hG hH q_fl_X8_60 dX8_by_167 ?_
                      refine lv_iload_n hx hb dX8_by_170 rfl (lv_at hl 2 rfl) ?_
                      refine mv_zal Cx hG hH isM_26 i (rfl) (by omega) dX8_by_171 ?_
                      refine lv_if_eq (tgt := 190) hx hb dX8_by_172 (by decide) (fun h172 => ?_) (fun h172 => ?_)
                      · skip
                        refine lv_iconst (v := 0) hx hb dX8_by_190 (by decide) ?_
                        refine lv_istore (lv' := [(5, .int 0), (0, .ref (mAdM E 0 0)), (1, .int (nI t)), (2, .int (nI i)), (3, .int co), (4, .int z)]) hx hb dX8_by_191 hl (by decide) rfl (fun ls hl => ?_)
                        refine lv_iload hx hb dX8_by_193 (lv_at hl 0 rfl) ?_
                        refine lv_if_ne (tgt := 205) hx hb dX8_by_195 (by decide) (fun h195 => ?_) (fun h195 => ?_)
                        · skip
                          exact absurd rfl h195
                        · skip
                          refine lv_aload_n hx hb dX8_by_198 rfl (lv_at hl 1 rfl) ?_
                          refine g_X8_open Cx hG hH q_fl_X8_47 dX8_by_199 ?_
                          refine lv_iload_n hx hb dX8_by_202 rfl (lv_at hl 3 rfl) ?_
                          refine lv_iconst (v := 0) hx hb dX8_by_203 (by decide) ?_
                          refine mv_zas Cx hG hO hH hS isM_22 i (Or.inl rfl) (rfl) (by omega) dX8_by_204 (fun H locs hH hS => ?_)
                          refine lv_iload hx hb dX8_by_205 (lv_at hl 0 rfl) ?_
                          exact mv_reti Cx hr hH hS (by rw [hmb]; unfold mbQ; rw [if_neg hz, if_pos hne, if_pos hok, if_pos h172]) (by rw [hmb]; unfold mbQ; rw [if_neg hz, if_pos hne, if_pos hok, if_pos h172]) dX8_by_207 hlocks
                      · skip
                        refine lv_aload_n hx hb dX8_by_175 rfl (lv_at hl 0 rfl) ?_
                        refine lv_aload_n hx hb dX8_by_176 rfl (lv_at hl 0 rfl) ?_
                        refine g_X8_auth Cx hG hH q_fl_X8_76 dX8_by_177 ?_
                        refine lv_bipush (v := 32) hx hb dX8_by_180 (by decide) ?_
                        refine lv_iload_n hx hb dX8_by_182 rfl (lv_at hl 1 rfl) ?_
                        refine lv_imul hx hb dX8_by_183 ?_
                        refine mv_eqi (x' := nI (32 * t)) (pk_mul 32 t) ?_
                        refine mv_callV (Y := mLM) (C := RX8) (k := 0) (i := 0) (rest := []) Cx hG hH hS (c_X8_compared l E A hO S 31 384 isM_31 (32 * t) (by omega)) q_co_X8_compared q_ml_X8_196 q_im_X8_compared q_se_X8_compared q_in_X8 okM_0 rfl rfl hd_X8_compared ⟨Nat.le_of_ble_eq_true rfl, Nat.le_of_ble_eq_true rfl⟩ rfl hl.1 rfl (Nat.le_of_ble_eq_true rfl) ⟨Nat.le_of_ble_eq_true rfl, Nat.le_of_ble_eq_true rfl⟩ dX8_by_184 (fun S184 H locs hP184 hH hS => ?_)
                        refine W.eq (g2 := F0 m 187 ls [.int (mkR S (S.2.1 31 0) (32 * t))]) rfl ?_
                        have eS := hP184
                        refine lv_goto (tgt := 191) hx hb dX8_by_187 (by decide) ?_
                        refine lv_istore (lv' := [(5, .int (mkR S (S.2.1 31 0) (32 * t))), (0, .ref (mAdM E 0 0)), (1, .int (nI t)), (2, .int (nI i)), (3, .int co), (4, .int z)]) hx hb dX8_by_191 hl (by decide) rfl (fun ls hl => ?_)
                        refine lv_iload hx hb dX8_by_193 (lv_at hl 0 rfl) ?_
                        refine lv_if_ne (tgt := 205) hx hb dX8_by_195 (by decide) (fun h195 => ?_) (fun h195 => ?_)
                        · skip
                          refine lv_iload hx hb dX8_by_205 (lv_at hl 0 rfl) ?_
                          exact mv_reti Cx hr hH hS (by rw [hmb]; unfold mbQ; rw [if_neg hz, if_pos hne, if_pos hok, if_neg h172, if_neg h195]) (by rw [hmb]; unfold mbQ; rw [if_neg hz, if_pos hne, if_pos hok, if_neg h172, if_neg h195]; exact eS) dX8_by_207 hlocks
                        · skip
                          rw [mkS_0 h195] at eS
                          have hH := mv_S eS hH
                          refine lv_aload_n hx hb dX8_by_198 rfl (lv_at hl 1 rfl) ?_
                          refine g_X8_open Cx hG hH q_fl_X8_47 dX8_by_199 ?_
                          refine lv_iload_n hx hb dX8_by_202 rfl (lv_at hl 3 rfl) ?_
                          refine lv_iconst (v := 0) hx hb dX8_by_203 (by decide) ?_
                          refine mv_zas Cx hG hO hH hS isM_22 i (Or.inl rfl) (rfl) (by omega) dX8_by_204 (fun H locs hH hS => ?_)
                          refine lv_iload hx hb dX8_by_205 (lv_at hl 0 rfl) ?_
                          exact mv_reti Cx hr hH hS (by rw [hmb]; unfold mbQ; rw [if_neg hz, if_pos hne, if_pos hok, if_neg h172, if_pos h195]; exact h195) (by rw [hmb]; unfold mbQ; rw [if_neg hz, if_pos hne, if_pos hok, if_neg h172, if_pos h195, mkS_0 h195]) dX8_by_207 hlocks
                    · skip
                      refine lv_aload_n hx hb dX8_by_150 rfl (lv_at hl 0 rfl) ?_
                      refine g_X8_clock Cx hG hH q_fl_X8_163 dX8_by_151 ?_
                      refine lv_aload_n hx hb dX8_by_154 rfl (lv_at hl 0 rfl) ?_
                      refine g_X8_time Cx hG hH q_fl_X8_70 dX8_by_155 ?_
                      refine lv_iload_n hx hb dX8_by_158 rfl (lv_at hl 2 rfl) ?_
                      refine mv_ial Cx hG hH isM_29 i (rfl) (by omega) dX8_by_159 ?_
                      refine lv_icmp_le (tgt := 166) hx hb dX8_by_160 (by decide) (fun h160 => ?_) (fun h160 => ?_)
                      · skip
                        have hok : mOkB S i co = true := mOkB_iff.mpr ⟨Or.inl h110, Or.inl h128, Or.inr h160⟩
                        refine lv_aload_n hx hb dX8_by_166 rfl (lv_at hl 0 rfl) ?_
                        refine g_X8_ofAuth Cx hG hH q_fl_X8_60 dX8_by_167 ?_
                        refine lv_iload_n hx hb dX8_by_170 rfl (lv_at hl 2 rfl) ?_
                        refine mv_zal Cx hG hH isM_26 i (rfl) (by omega) dX8_by_171 ?_
                        refine lv_if_eq (tgt := 190) hx hb dX8_by_172 (by decide) (fun h172 => ?_) (fun h172 => ?_)
                        · skip
                          refine lv_iconst (v := 0) hx hb dX8_by_190 (by decide) ?_
                          refine lv_istore (lv' := [(5, .int 0), (0, .ref (mAdM E 0 0)), (1, .int (nI t)), (2, .int (nI i)), (3, .int co), (4, .int z)]) hx hb dX8_by_191 hl (by decide) rfl (fun ls hl => ?_)
                          refine lv_iload hx hb dX8_by_193 (lv_at hl 0 rfl) ?_
                          refine lv_if_ne (tgt := 205) hx hb dX8_by_195 (by decide) (fun h195 => ?_) (fun h195 => ?_)
                          · skip
                            exact absurd rfl h195
                          · skip
                            refine lv_aload_n hx hb dX8_by_198 rfl (lv_at hl 1 rfl) ?_
                            refine g_X8_open Cx hG hH q_fl_X8_47 dX8_by_199 ?_
                            refine lv_iload_n hx hb dX8_by_202 rfl (lv_at hl 3 rfl) ?_
                            refine lv_iconst (v := 0) hx hb dX8_by_203 (by decide) ?_
                            refine mv_zas Cx hG hO hH hS isM_22 i (Or.inl rfl) (rfl) (by omega) dX8_by_204 (fun H locs hH hS => ?_)
                            refine lv_iload hx hb dX8_by_205 (lv_at hl 0 rfl) ?_
                            exact mv_reti Cx hr hH hS (by rw [hmb]; unfold mbQ; rw [if_neg hz, if_pos hne, if_pos hok, if_pos h172]) (by rw [hmb]; unfold mbQ; rw [if_neg hz, if_pos hne, if_pos hok, if_pos h172]) dX8_by_207 hlocks
                        · skip
                          refine lv_aload_n hx hb dX8_by_175 rfl (lv_at hl 0 rfl) ?_
                          refine lv_aload_n hx hb dX8_by_176 rfl (lv_at hl 0 rfl) ?_
                          refine g_X8_auth Cx hG hH q_fl_X8_76 dX8_by_177 ?_
                          refine lv_bipush (v := 32) hx hb dX8_by_180 (by decide) ?_
                          refine lv_iload_n hx hb dX8_by_182 rfl (lv_at hl 1 rfl) ?_
                          refine lv_imul hx hb dX8_by_183 ?_
                          refine mv_eqi (x' := nI (32 * t)) (pk_mul 32 t) ?_
                          refine mv_callV (Y := mLM) (C := RX8) (k := 0) (i := 0) (rest := []) Cx hG hH hS (c_X8_compared l E A hO S 31 384 isM_31 (32 * t) (by omega)) q_co_X8_compared q_ml_X8_196 q_im_X8_compared q_se_X8_compared q_in_X8 okM_0 rfl rfl hd_X8_compared ⟨Nat.le_of_ble_eq_true rfl, Nat.le_of_ble_eq_true rfl⟩ rfl hl.1 rfl (Nat.le_of_ble_eq_true rfl) ⟨Nat.le_of_ble_eq_true rfl, Nat.le_of_ble_eq_true rfl⟩ dX8_by_184 (fun S184 H locs hP184 hH hS => ?_)
                          refine W.eq (g2 := F0 m 187 ls [.int (mkR S (S.2.1 31 0) (32 * t))]) rfl ?_
                          have eS := hP184
                          refine lv_goto (tgt := 191) hx hb dX8_by_187 (by decide) ?_
                          refine lv_istore (lv' := [(5, .int (mkR S (S.2.1 31 0) (32 * t))), (0, .ref (mAdM E 0 0)), (1, .int (nI t)), (2, .int (nI i)), (3, .int co), (4, .int z)]) hx hb dX8_by_191 hl (by decide) rfl (fun ls hl => ?_)
                          refine lv_iload hx hb dX8_by_193 (lv_at hl 0 rfl) ?_
                          refine lv_if_ne (tgt := 205) hx hb dX8_by_195 (by decide) (fun h195 => ?_) (fun h195 => ?_)
                          · skip
                            refine lv_iload hx hb dX8_by_205 (lv_at hl 0 rfl) ?_
                            exact mv_reti Cx hr hH hS (by rw [hmb]; unfold mbQ; rw [if_neg hz, if_pos hne, if_pos hok, if_neg h172, if_neg h195]) (by rw [hmb]; unfold mbQ; rw [if_neg hz, if_pos hne, if_pos hok, if_neg h172, if_neg h195]; exact eS) dX8_by_207 hlocks
                          · skip
                            rw [mkS_0 h195] at eS
                            have hH := mv_S eS hH
                            refine lv_aload_n hx hb dX8_by_198 rfl (lv_at hl 1 rfl) ?_
                            refine g_X8_open Cx hG hH q_fl_X8_47 dX8_by_199 ?_
                            refine lv_iload_n hx hb dX8_by_202 rfl (lv_at hl 3 rfl) ?_
                            refine lv_iconst (v := 0) hx hb dX8_by_203 (by decide) ?_
                            refine mv_zas Cx hG hO hH hS isM_22 i (Or.inl rfl) (rfl) (by omega) dX8_by_204 (fun H locs hH hS => ?_)
                            refine lv_iload hx hb dX8_by_205 (lv_at hl 0 rfl) ?_
                            exact mv_reti Cx hr hH hS (by rw [hmb]; unfold mbQ; rw [if_neg hz, if_pos hne, if_pos hok, if_neg h172, if_pos h195]; exact h195) (by rw [hmb]; unfold mbQ; rw [if_neg hz, if_pos hne, if_pos hok, if_neg h172, if_pos h195, mkS_0 h195]) dX8_by_207 hlocks
                      · skip
                        have hok : ¬ mOkB S i co = true := fun h => (mOkB_iff.mp h).2.2.elim h147 h160
                        refine lv_bipush (v := (-7 : Int32)) hx hb dX8_by_163 (by decide) ?_
                        exact mv_reti Cx hr hH hS (by rw [hmb]; unfold mbQ; rw [if_neg hz, if_pos hne, if_neg hok]) (by rw [hmb]; unfold mbQ; rw [if_neg hz, if_pos hne, if_neg hok]) dX8_by_165 hlocks
                  · skip
                    refine lv_aload_n hx hb dX8_by_131 rfl (lv_at hl 0 rfl) ?_
                    refine g_X8_code Cx hG hH q_fl_X8_66 dX8_by_132 ?_
                    refine lv_iload_n hx hb dX8_by_135 rfl (lv_at hl 2 rfl) ?_
                    refine mv_ial Cx hG hH isM_28 i (rfl) (by omega) dX8_by_136 ?_
                    refine lv_iload_n hx hb dX8_by_137 rfl (lv_at hl 3 rfl) ?_
                    refine lv_icmp_ne (tgt := 163) hx hb dX8_by_138 (by decide) (fun h138 => ?_) (fun h138 => ?_)
                    · skip
                      have hok : ¬ mOkB S i co = true := fun h => (mOkB_iff.mp h).2.1.elim h128 h138
                      refine lv_bipush (v := (-7 : Int32)) hx hb dX8_by_163 (by decide) ?_
                      exact mv_reti Cx hr hH hS (by rw [hmb]; unfold mbQ; rw [if_neg hz, if_pos hne, if_neg hok]) (by rw [hmb]; unfold mbQ; rw [if_neg hz, if_pos hne, if_neg hok]) dX8_by_165 hlocks
                    · skip
                      refine lv_aload_n hx hb dX8_by_141 rfl (lv_at hl 0 rfl) ?_
                      refine g_X8_ofTime Cx hG hH q_fl_X8_63 dX8_by_142 ?_
                      refine lv_iload_n hx hb dX8_by_145 rfl (lv_at hl 2 rfl) ?_
                      refine mv_zal Cx hG hH isM_27 i (rfl) (by omega) dX8_by_146 ?_
                      refine lv_if_eq (tgt := 166) hx hb dX8_by_147 (by decide) (fun h147 => ?_) (fun h147 => ?_)
                      · skip
                        have hok : mOkB S i co = true := mOkB_iff.mpr ⟨Or.inl h110, Or.inr h138, Or.inl h147⟩
                        refine lv_aload_n hx hb dX8_by_166 rfl (lv_at hl 0 rfl) ?_
                        refine g_X8_ofAuth Cx hG hH q_fl_X8_60 dX8_by_167 ?_
                        refine lv_iload_n hx hb dX8_by_170 rfl (lv_at hl 2 rfl) ?_
                        refine mv_zal Cx hG hH isM_26 i (rfl) (by omega) dX8_by_171 ?_
                        refine lv_if_eq (tgt := 190) hx hb dX8_by_172 (by decide) (fun h172 => ?_) (fun h172 => ?_)
                        · skip
                          refine lv_iconst (v := 0) hx hb dX8_by_190 (by decide) ?_
                          refine lv_istore (lv' := [(5, .int 0), (0, .ref (mAdM E 0 0)), (1, .int (nI t)), (2, .int (nI i)), (3, .int co), (4, .int z)]) hx hb dX8_by_191 hl (by decide) rfl (fun ls hl => ?_)
                          refine lv_iload hx hb dX8_by_193 (lv_at hl 0 rfl) ?_
                          refine lv_if_ne (tgt := 205) hx hb dX8_by_195 (by decide) (fun h195 => ?_) (fun h195 => ?_)
                          · skip
                            exact absurd rfl h195
                          · skip
                            refine lv_aload_n hx hb dX8_by_198 rfl (lv_at hl 1 rfl) ?_
                            refine g_X8_open Cx hG hH q_fl_X8_47 dX8_by_199 ?_
                            refine lv_iload_n hx hb dX8_by_202 rfl (lv_at hl 3 rfl) ?_
                            refine lv_iconst (v := 0) hx hb dX8_by_203 (by decide) ?_
                            refine mv_zas Cx hG hO hH hS isM_22 i (Or.inl rfl) (rfl) (by omega) dX8_by_204 (fun H locs hH hS => ?_)
                            refine lv_iload hx hb dX8_by_205 (lv_at hl 0 rfl) ?_
                            exact mv_reti Cx hr hH hS (by rw [hmb]; unfold mbQ; rw [if_neg hz, if_pos hne, if_pos hok, if_pos h172]) (by rw [hmb]; unfold mbQ; rw [if_neg hz, if_pos hne, if_pos hok, if_pos h172]) dX8_by_207 hlocks
                        · skip
                          refine lv_aload_n hx hb dX8_by_175 rfl (lv_at hl 0 rfl) ?_
                          refine lv_aload_n hx hb dX8_by_176 rfl (lv_at hl 0 rfl) ?_
                          refine g_X8_auth Cx hG hH q_fl_X8_76 dX8_by_177 ?_
                          refine lv_bipush (v := 32) hx hb dX8_by_180 (by decide) ?_
                          refine lv_iload_n hx hb dX8_by_182 rfl (lv_at hl 1 rfl) ?_
                          refine lv_imul hx hb dX8_by_183 ?_
                          refine mv_eqi (x' := nI (32 * t)) (pk_mul 32 t) ?_
                          refine mv_callV (Y := mLM) (C := RX8) (k := 0) (i := 0) (rest := []) Cx hG hH hS (c_X8_compared l E A hO S 31 384 isM_31 (32 * t) (by omega)) q_co_X8_compared q_ml_X8_196 q_im_X8_compared q_se_X8_compared q_in_X8 okM_0 rfl rfl hd_X8_compared ⟨Nat.le_of_ble_eq_true rfl, Nat.le_of_ble_eq_true rfl⟩ rfl hl.1 rfl (Nat.le_of_ble_eq_true rfl) ⟨Nat.le_of_ble_eq_true rfl, Nat.le_of_ble_eq_true rfl⟩ dX8_by_184 (fun S184 H locs hP184 hH hS => ?_)
                          refine W.eq (g2 := F0 m 187 ls [.int (mkR S (S.2.1 31 0) (32 * t))]) rfl ?_
                          have eS := hP184
                          refine lv_goto (tgt := 191) hx hb dX8_by_187 (by decide) ?_
                          refine lv_istore (lv' := [(5, .int (mkR S (S.2.1 31 0) (32 * t))), (0, .ref (mAdM E 0 0)), (1, .int (nI t)), (2, .int (nI i)), (3, .int co), (4, .int z)]) hx hb dX8_by_191 hl (by decide) rfl (fun ls hl => ?_)
                          refine lv_iload hx hb dX8_by_193 (lv_at hl 0 rfl) ?_
                          refine lv_if_ne (tgt := 205) hx hb dX8_by_195 (by decide) (fun h195 => ?_) (fun h195 => ?_)
                          · skip
                            refine lv_iload hx hb dX8_by_205 (lv_at hl 0 rfl) ?_
                            exact mv_reti Cx hr hH hS (by rw [hmb]; unfold mbQ; rw [if_neg hz, if_pos hne, if_pos hok, if_neg h172, if_neg h195]) (by rw [hmb]; unfold mbQ; rw [if_neg hz, if_pos hne, if_pos hok, if_neg h172, if_neg h195]; exact eS) dX8_by_207 hlocks
                          · skip
                            rw [mkS_0 h195] at eS
                            have hH := mv_S eS hH
                            refine lv_aload_n hx hb dX8_by_198 rfl (lv_at hl 1 rfl) ?_
                            refine g_X8_open Cx hG hH q_fl_X8_47 dX8_by_199 ?_
                            refine lv_iload_n hx hb dX8_by_202 rfl (lv_at hl 3 rfl) ?_
                            refine lv_iconst (v := 0) hx hb dX8_by_203 (by decide) ?_
                            refine mv_zas Cx hG hO hH hS isM_22 i (Or.inl rfl) (rfl) (by omega) dX8_by_204 (fun H locs hH hS => ?_)
                            refine lv_iload hx hb dX8_by_205 (lv_at hl 0 rfl) ?_
                            exact mv_reti Cx hr hH hS (by rw [hmb]; unfold mbQ; rw [if_neg hz, if_pos hne, if_pos hok, if_neg h172, if_pos h195]; exact h195) (by rw [hmb]; unfold mbQ; rw [if_neg hz, if_pos hne, if_pos hok, if_neg h172, if_pos h195, mkS_0 h195]) dX8_by_207 hlocks
                      · skip
                        refine lv_aload_n hx hb dX8_by_150 rfl (lv_at hl 0 rfl) ?_
                        refine g_X8_clock Cx hG hH q_fl_X8_163 dX8_by_151 ?_
                        refine lv_aload_n hx hb dX8_by_154 rfl (lv_at hl 0 rfl) ?_
                        refine g_X8_time Cx hG hH q_fl_X8_70 dX8_by_155 ?_
                        refine lv_iload_n hx hb dX8_by_158 rfl (lv_at hl 2 rfl) ?_
                        refine mv_ial Cx hG hH isM_29 i (rfl) (by omega) dX8_by_159 ?_
                        refine lv_icmp_le (tgt := 166) hx hb dX8_by_160 (by decide) (fun h160 => ?_) (fun h160 => ?_)
                        · skip
                          have hok : mOkB S i co = true := mOkB_iff.mpr ⟨Or.inl h110, Or.inr h138, Or.inr h160⟩
                          refine lv_aload_n hx hb dX8_by_166 rfl (lv_at hl 0 rfl) ?_
                          refine g_X8_ofAuth Cx hG hH q_fl_X8_60 dX8_by_167 ?_
                          refine lv_iload_n hx hb dX8_by_170 rfl (lv_at hl 2 rfl) ?_
                          refine mv_zal Cx hG hH isM_26 i (rfl) (by omega) dX8_by_171 ?_
                          refine lv_if_eq (tgt := 190) hx hb dX8_by_172 (by decide) (fun h172 => ?_) (fun h172 => ?_)
                          · skip
                            refine lv_iconst (v := 0) hx hb dX8_by_190 (by decide) ?_
                            refine lv_istore (lv' := [(5, .int 0), (0, .ref (mAdM E 0 0)), (1, .int (nI t)), (2, .int (nI i)), (3, .int co), (4, .int z)]) hx hb dX8_by_191 hl (by decide) rfl (fun ls hl => ?_)
                            refine lv_iload hx hb dX8_by_193 (lv_at hl 0 rfl) ?_
                            refine lv_if_ne (tgt := 205) hx hb dX8_by_195 (by decide) (fun h195 => ?_) (fun h195 => ?_)
                            · skip
                              exact absurd rfl h195
                            · skip
                              refine lv_aload_n hx hb dX8_by_198 rfl (lv_at hl 1 rfl) ?_
                              refine g_X8_open Cx hG hH q_fl_X8_47 dX8_by_199 ?_
                              refine lv_iload_n hx hb dX8_by_202 rfl (lv_at hl 3 rfl) ?_
                              refine lv_iconst (v := 0) hx hb dX8_by_203 (by decide) ?_
                              refine mv_zas Cx hG hO hH hS isM_22 i (Or.inl rfl) (rfl) (by omega) dX8_by_204 (fun H locs hH hS => ?_)
                              refine lv_iload hx hb dX8_by_205 (lv_at hl 0 rfl) ?_
                              exact mv_reti Cx hr hH hS (by rw [hmb]; unfold mbQ; rw [if_neg hz, if_pos hne, if_pos hok, if_pos h172]) (by rw [hmb]; unfold mbQ; rw [if_neg hz, if_pos hne, if_pos hok, if_pos h172]) dX8_by_207 hlocks
                          · skip
                            refine lv_aload_n hx hb dX8_by_175 rfl (lv_at hl 0 rfl) ?_
                            refine lv_aload_n hx hb dX8_by_176 rfl (lv_at hl 0 rfl) ?_
                            refine g_X8_auth Cx hG hH q_fl_X8_76 dX8_by_177 ?_
                            refine lv_bipush (v := 32) hx hb dX8_by_180 (by decide) ?_
                            refine lv_iload_n hx hb dX8_by_182 rfl (lv_at hl 1 rfl) ?_
                            refine lv_imul hx hb dX8_by_183 ?_
                            refine mv_eqi (x' := nI (32 * t)) (pk_mul 32 t) ?_
                            refine mv_callV (Y := mLM) (C := RX8) (k := 0) (i := 0) (rest := []) Cx hG hH hS (c_X8_compared l E A hO S 31 384 isM_31 (32 * t) (by omega)) q_co_X8_compared q_ml_X8_196 q_im_X8_compared q_se_X8_compared q_in_X8 okM_0 rfl rfl hd_X8_compared ⟨Nat.le_of_ble_eq_true rfl, Nat.le_of_ble_eq_true rfl⟩ rfl hl.1 rfl (Nat.le_of_ble_eq_true rfl) ⟨Nat.le_of_ble_eq_true rfl, Nat.le_of_ble_eq_true rfl⟩ dX8_by_184 (fun S184 H locs hP184 hH hS => ?_)
                            refine W.eq (g2 := F0 m 187 ls [.int (mkR S (S.2.1 31 0) (32 * t))]) rfl ?_
                            have eS := hP184
                            refine lv_goto (tgt := 191) hx hb dX8_by_187 (by decide) ?_
                            refine lv_istore (lv' := [(5, .int (mkR S (S.2.1 31 0) (32 * t))), (0, .ref (mAdM E 0 0)), (1, .int (nI t)), (2, .int (nI i)), (3, .int co), (4, .int z)]) hx hb dX8_by_191 hl (by decide) rfl (fun ls hl => ?_)
                            refine lv_iload hx hb dX8_by_193 (lv_at hl 0 rfl) ?_
                            refine lv_if_ne (tgt := 205) hx hb dX8_by_195 (by decide) (fun h195 => ?_) (fun h195 => ?_)
                            · skip
                              refine lv_iload hx hb dX8_by_205 (lv_at hl 0 rfl) ?_
                              exact mv_reti Cx hr hH hS (by rw [hmb]; unfold mbQ; rw [if_neg hz, if_pos hne, if_pos hok, if_neg h172, if_neg h195]) (by rw [hmb]; unfold mbQ; rw [if_neg hz, if_pos hne, if_pos hok, if_neg h172, if_neg h195]; exact eS) dX8_by_207 hlocks
                            · skip
                              rw [mkS_0 h195] at eS
                              have hH := mv_S eS hH
                              refine lv_aload_n hx hb dX8_by_198 rfl (lv_at hl 1 rfl) ?_
                              refine g_X8_open Cx hG hH q_fl_X8_47 dX8_by_199 ?_
                              refine lv_iload_n hx hb dX8_by_202 rfl (lv_at hl 3 rfl) ?_
                              refine lv_iconst (v := 0) hx hb dX8_by_203 (by decide) ?_
                              refine mv_zas Cx hG hO hH hS isM_22 i (Or.inl rfl) (rfl) (by omega) dX8_by_204 (fun H locs hH hS => ?_)
                              refine lv_iload hx hb dX8_by_205 (lv_at hl 0 rfl) ?_
                              exact mv_reti Cx hr hH hS (by rw [hmb]; unfold mbQ; rw [if_neg hz, if_pos hne, if_pos hok, if_neg h172, if_pos h195]; exact h195) (by rw [hmb]; unfold mbQ; rw [if_neg hz, if_pos hne, if_pos hok, if_neg h172, if_pos h195, mkS_0 h195]) dX8_by_207 hlocks
                        · skip
                          have hok : ¬ mOkB S i co = true := fun h => (mOkB_iff.mp h).2.2.elim h147 h160
                          refine lv_bipush (v := (-7 : Int32)) hx hb dX8_by_163 (by decide) ?_
                          exact mv_reti Cx hr hH hS (by rw [hmb]; unfold mbQ; rw [if_neg hz, if_pos hne, if_neg hok]) (by rw [hmb]; unfold mbQ; rw [if_neg hz, if_pos hne, if_neg hok]) dX8_by_165 hlocks
                · skip
                  refine lv_aload_n hx hb dX8_by_113 rfl (lv_at hl 0 rfl) ?_
                  refine g_X8_changed Cx hG hH q_fl_X8_57 dX8_by_114 ?_
                  refine lv_iload_n hx hb dX8_by_117 rfl (lv_at hl 2 rfl) ?_
                  refine mv_zal Cx hG hH isM_25 i (rfl) (by omega) dX8_by_118 ?_
                  refine lv_if_ne (tgt := 163) hx hb dX8_by_119 (by decide) (fun h119 => ?_) (fun h119 => ?_)
                  · skip
                    have hok : ¬ mOkB S i co = true := fun h => (mOkB_iff.mp h).1.elim h110 h119
                    refine lv_bipush (v := (-7 : Int32)) hx hb dX8_by_163 (by decide) ?_
                    exact mv_reti Cx hr hH hS (by rw [hmb]; unfold mbQ; rw [if_neg hz, if_pos hne, if_neg hok]) (by rw [hmb]; unfold mbQ; rw [if_neg hz, if_pos hne, if_neg hok]) dX8_by_165 hlocks
                  · skip
                    refine lv_aload_n hx hb dX8_by_122 rfl (lv_at hl 0 rfl) ?_
                    refine g_X8_code Cx hG hH q_fl_X8_66 dX8_by_123 ?_
                    refine lv_iload_n hx hb dX8_by_126 rfl (lv_at hl 2 rfl) ?_
                    refine mv_ial Cx hG hH isM_28 i (rfl) (by omega) dX8_by_127 ?_
                    refine lv_if_eq (tgt := 141) hx hb dX8_by_128 (by decide) (fun h128 => ?_) (fun h128 => ?_)
                    · skip
                      refine lv_aload_n hx hb dX8_by_141 rfl (lv_at hl 0 rfl) ?_
                      refine g_X8_ofTime Cx hG hH q_fl_X8_63 dX8_by_142 ?_
                      refine lv_iload_n hx hb dX8_by_145 rfl (lv_at hl 2 rfl) ?_
                      refine mv_zal Cx hG hH isM_27 i (rfl) (by omega) dX8_by_146 ?_
                      refine lv_if_eq (tgt := 166) hx hb dX8_by_147 (by decide) (fun h147 => ?_) (fun h147 => ?_)
                      · skip
                        have hok : mOkB S i co = true := mOkB_iff.mpr ⟨Or.inr h119, Or.inl h128, Or.inl h147⟩
                        refine lv_aload_n hx hb dX8_by_166 rfl (lv_at hl 0 rfl) ?_
                        refine g_X8_ofAuth Cx hG hH q_fl_X8_60 dX8_by_167 ?_
                        refine lv_iload_n hx hb dX8_by_170 rfl (lv_at hl 2 rfl) ?_
                        refine mv_zal Cx hG hH isM_26 i (rfl) (by omega) dX8_by_171 ?_
                        refine lv_if_eq (tgt := 190) hx hb dX8_by_172 (by decide) (fun h172 => ?_) (fun h172 => ?_)
                        · skip
                          refine lv_iconst (v := 0) hx hb dX8_by_190 (by decide) ?_
                          refine lv_istore (lv' := [(5, .int 0), (0, .ref (mAdM E 0 0)), (1, .int (nI t)), (2, .int (nI i)), (3, .int co), (4, .int z)]) hx hb dX8_by_191 hl (by decide) rfl (fun ls hl => ?_)
                          refine lv_iload hx hb dX8_by_193 (lv_at hl 0 rfl) ?_
                          refine lv_if_ne (tgt := 205) hx hb dX8_by_195 (by decide) (fun h195 => ?_) (fun h195 => ?_)
                          · skip
                            exact absurd rfl h195
                          · skip
                            refine lv_aload_n hx hb dX8_by_198 rfl (lv_at hl 1 rfl) ?_
                            refine g_X8_open Cx hG hH q_fl_X8_47 dX8_by_199 ?_
                            refine lv_iload_n hx hb dX8_by_202 rfl (lv_at hl 3 rfl) ?_
                            refine lv_iconst (v := 0) hx hb dX8_by_203 (by decide) ?_
                            refine mv_zas Cx hG hO hH hS isM_22 i (Or.inl rfl) (rfl) (by omega) dX8_by_204 (fun H locs hH hS => ?_)
                            refine lv_iload hx hb dX8_by_205 (lv_at hl 0 rfl) ?_
                            exact mv_reti Cx hr hH hS (by rw [hmb]; unfold mbQ; rw [if_neg hz, if_pos hne, if_pos hok, if_pos h172]) (by rw [hmb]; unfold mbQ; rw [if_neg hz, if_pos hne, if_pos hok, if_pos h172]) dX8_by_207 hlocks
                        · skip
                          refine lv_aload_n hx hb dX8_by_175 rfl (lv_at hl 0 rfl) ?_
                          refine lv_aload_n hx hb dX8_by_176 rfl (lv_at hl 0 rfl) ?_
                          refine g_X8_auth Cx hG hH q_fl_X8_76 dX8_by_177 ?_
                          refine lv_bipush (v := 32) hx hb dX8_by_180 (by decide) ?_
                          refine lv_iload_n hx hb dX8_by_182 rfl (lv_at hl 1 rfl) ?_
                          refine lv_imul hx hb dX8_by_183 ?_
                          refine mv_eqi (x' := nI (32 * t)) (pk_mul 32 t) ?_
                          refine mv_callV (Y := mLM) (C := RX8) (k := 0) (i := 0) (rest := []) Cx hG hH hS (c_X8_compared l E A hO S 31 384 isM_31 (32 * t) (by omega)) q_co_X8_compared q_ml_X8_196 q_im_X8_compared q_se_X8_compared q_in_X8 okM_0 rfl rfl hd_X8_compared ⟨Nat.le_of_ble_eq_true rfl, Nat.le_of_ble_eq_true rfl⟩ rfl hl.1 rfl (Nat.le_of_ble_eq_true rfl) ⟨Nat.le_of_ble_eq_true rfl, Nat.le_of_ble_eq_true rfl⟩ dX8_by_184 (fun S184 H locs hP184 hH hS => ?_)
                          refine W.eq (g2 := F0 m 187 ls [.int (mkR S (S.2.1 31 0) (32 * t))]) rfl ?_
                          have eS := hP184
                          refine lv_goto (tgt := 191) hx hb dX8_by_187 (by decide) ?_
                          refine lv_istore (lv' := [(5, .int (mkR S (S.2.1 31 0) (32 * t))), (0, .ref (mAdM E 0 0)), (1, .int (nI t)), (2, .int (nI i)), (3, .int co), (4, .int z)]) hx hb dX8_by_191 hl (by decide) rfl (fun ls hl => ?_)
                          refine lv_iload hx hb dX8_by_193 (lv_at hl 0 rfl) ?_
                          refine lv_if_ne (tgt := 205) hx hb dX8_by_195 (by decide) (fun h195 => ?_) (fun h195 => ?_)
                          · skip
                            refine lv_iload hx hb dX8_by_205 (lv_at hl 0 rfl) ?_
                            exact mv_reti Cx hr hH hS (by rw [hmb]; unfold mbQ; rw [if_neg hz, if_pos hne, if_pos hok, if_neg h172, if_neg h195]) (by rw [hmb]; unfold mbQ; rw [if_neg hz, if_pos hne, if_pos hok, if_neg h172, if_neg h195]; exact eS) dX8_by_207 hlocks
                          · skip
                            rw [mkS_0 h195] at eS
                            have hH := mv_S eS hH
                            refine lv_aload_n hx hb dX8_by_198 rfl (lv_at hl 1 rfl) ?_
                            refine g_X8_open Cx hG hH q_fl_X8_47 dX8_by_199 ?_
                            refine lv_iload_n hx hb dX8_by_202 rfl (lv_at hl 3 rfl) ?_
                            refine lv_iconst (v := 0) hx hb dX8_by_203 (by decide) ?_
                            refine mv_zas Cx hG hO hH hS isM_22 i (Or.inl rfl) (rfl) (by omega) dX8_by_204 (fun H locs hH hS => ?_)
                            refine lv_iload hx hb dX8_by_205 (lv_at hl 0 rfl) ?_
                            exact mv_reti Cx hr hH hS (by rw [hmb]; unfold mbQ; rw [if_neg hz, if_pos hne, if_pos hok, if_neg h172, if_pos h195]; exact h195) (by rw [hmb]; unfold mbQ; rw [if_neg hz, if_pos hne, if_pos hok, if_neg h172, if_pos h195, mkS_0 h195]) dX8_by_207 hlocks
                      · skip
                        refine lv_aload_n hx hb dX8_by_150 rfl (lv_at hl 0 rfl) ?_
                        refine g_X8_clock Cx hG hH q_fl_X8_163 dX8_by_151 ?_
                        refine lv_aload_n hx hb dX8_by_154 rfl (lv_at hl 0 rfl) ?_
                        refine g_X8_time Cx hG hH q_fl_X8_70 dX8_by_155 ?_
                        refine lv_iload_n hx hb dX8_by_158 rfl (lv_at hl 2 rfl) ?_
                        refine mv_ial Cx hG hH isM_29 i (rfl) (by omega) dX8_by_159 ?_
                        refine lv_icmp_le (tgt := 166) hx hb dX8_by_160 (by decide) (fun h160 => ?_) (fun h160 => ?_)
                        · skip
                          have hok : mOkB S i co = true := mOkB_iff.mpr ⟨Or.inr h119, Or.inl h128, Or.inr h160⟩
                          refine lv_aload_n hx hb dX8_by_166 rfl (lv_at hl 0 rfl) ?_
                          refine g_X8_ofAuth Cx hG hH q_fl_X8_60 dX8_by_167 ?_
                          refine lv_iload_n hx hb dX8_by_170 rfl (lv_at hl 2 rfl) ?_
                          refine mv_zal Cx hG hH isM_26 i (rfl) (by omega) dX8_by_171 ?_
                          refine lv_if_eq (tgt := 190) hx hb dX8_by_172 (by decide) (fun h172 => ?_) (fun h172 => ?_)
                          · skip
                            refine lv_iconst (v := 0) hx hb dX8_by_190 (by decide) ?_
                            refine lv_istore (lv' := [(5, .int 0), (0, .ref (mAdM E 0 0)), (1, .int (nI t)), (2, .int (nI i)), (3, .int co), (4, .int z)]) hx hb dX8_by_191 hl (by decide) rfl (fun ls hl => ?_)
                            refine lv_iload hx hb dX8_by_193 (lv_at hl 0 rfl) ?_
                            refine lv_if_ne (tgt := 205) hx hb dX8_by_195 (by decide) (fun h195 => ?_) (fun h195 => ?_)
                            · skip
                              exact absurd rfl h195
                            · skip
                              refine lv_aload_n hx hb dX8_by_198 rfl (lv_at hl 1 rfl) ?_
                              refine g_X8_open Cx hG hH q_fl_X8_47 dX8_by_199 ?_
                              refine lv_iload_n hx hb dX8_by_202 rfl (lv_at hl 3 rfl) ?_
                              refine lv_iconst (v := 0) hx hb dX8_by_203 (by decide) ?_
                              refine mv_zas Cx hG hO hH hS isM_22 i (Or.inl rfl) (rfl) (by omega) dX8_by_204 (fun H locs hH hS => ?_)
                              refine lv_iload hx hb dX8_by_205 (lv_at hl 0 rfl) ?_
                              exact mv_reti Cx hr hH hS (by rw [hmb]; unfold mbQ; rw [if_neg hz, if_pos hne, if_pos hok, if_pos h172]) (by rw [hmb]; unfold mbQ; rw [if_neg hz, if_pos hne, if_pos hok, if_pos h172]) dX8_by_207 hlocks
                          · skip
                            refine lv_aload_n hx hb dX8_by_175 rfl (lv_at hl 0 rfl) ?_
                            refine lv_aload_n hx hb dX8_by_176 rfl (lv_at hl 0 rfl) ?_
                            refine g_X8_auth Cx hG hH q_fl_X8_76 dX8_by_177 ?_
                            refine lv_bipush (v := 32) hx hb dX8_by_180 (by decide) ?_
                            refine lv_iload_n hx hb dX8_by_182 rfl (lv_at hl 1 rfl) ?_
                            refine lv_imul hx hb dX8_by_183 ?_
                            refine mv_eqi (x' := nI (32 * t)) (pk_mul 32 t) ?_
                            refine mv_callV (Y := mLM) (C := RX8) (k := 0) (i := 0) (rest := []) Cx hG hH hS (c_X8_compared l E A hO S 31 384 isM_31 (32 * t) (by omega)) q_co_X8_compared q_ml_X8_196 q_im_X8_compared q_se_X8_compared q_in_X8 okM_0 rfl rfl hd_X8_compared ⟨Nat.le_of_ble_eq_true rfl, Nat.le_of_ble_eq_true rfl⟩ rfl hl.1 rfl (Nat.le_of_ble_eq_true rfl) ⟨Nat.le_of_ble_eq_true rfl, Nat.le_of_ble_eq_true rfl⟩ dX8_by_184 (fun S184 H locs hP184 hH hS => ?_)
                            refine W.eq (g2 := F0 m 187 ls [.int (mkR S (S.2.1 31 0) (32 * t))]) rfl ?_
                            have eS := hP184
                            refine lv_goto (tgt := 191) hx hb dX8_by_187 (by decide) ?_
                            refine lv_istore (lv' := [(5, .int (mkR S (S.2.1 31 0) (32 * t))), (0, .ref (mAdM E 0 0)), (1, .int (nI t)), (2, .int (nI i)), (3, .int co), (4, .int z)]) hx hb dX8_by_191 hl (by decide) rfl (fun ls hl => ?_)
                            refine lv_iload hx hb dX8_by_193 (lv_at hl 0 rfl) ?_
                            refine lv_if_ne (tgt := 205) hx hb dX8_by_195 (by decide) (fun h195 => ?_) (fun h195 => ?_)
                            · skip
                              refine lv_iload hx hb dX8_by_205 (lv_at hl 0 rfl) ?_
                              exact mv_reti Cx hr hH hS (by rw [hmb]; unfold mbQ; rw [if_neg hz, if_pos hne, if_pos hok, if_neg h172, if_neg h195]) (by rw [hmb]; unfold mbQ; rw [if_neg hz, if_pos hne, if_pos hok, if_neg h172, if_neg h195]; exact eS) dX8_by_207 hlocks
                            · skip
                              rw [mkS_0 h195] at eS
                              have hH := mv_S eS hH
                              refine lv_aload_n hx hb dX8_by_198 rfl (lv_at hl 1 rfl) ?_
                              refine g_X8_open Cx hG hH q_fl_X8_47 dX8_by_199 ?_
                              refine lv_iload_n hx hb dX8_by_202 rfl (lv_at hl 3 rfl) ?_
                              refine lv_iconst (v := 0) hx hb dX8_by_203 (by decide) ?_
                              refine mv_zas Cx hG hO hH hS isM_22 i (Or.inl rfl) (rfl) (by omega) dX8_by_204 (fun H locs hH hS => ?_)
                              refine lv_iload hx hb dX8_by_205 (lv_at hl 0 rfl) ?_
                              exact mv_reti Cx hr hH hS (by rw [hmb]; unfold mbQ; rw [if_neg hz, if_pos hne, if_pos hok, if_neg h172, if_pos h195]; exact h195) (by rw [hmb]; unfold mbQ; rw [if_neg hz, if_pos hne, if_pos hok, if_neg h172, if_pos h195, mkS_0 h195]) dX8_by_207 hlocks
                        · skip
                          have hok : ¬ mOkB S i co = true := fun h => (mOkB_iff.mp h).2.2.elim h147 h160
                          refine lv_bipush (v := (-7 : Int32)) hx hb dX8_by_163 (by decide) ?_
                          exact mv_reti Cx hr hH hS (by rw [hmb]; unfold mbQ; rw [if_neg hz, if_pos hne, if_neg hok]) (by rw [hmb]; unfold mbQ; rw [if_neg hz, if_pos hne, if_neg hok]) dX8_by_165 hlocks
                    · skip
                      refine lv_aload_n hx hb dX8_by_131 rfl (lv_at hl 0 rfl) ?_
                      refine g_X8_code Cx hG hH q_fl_X8_66 dX8_by_132 ?_
                      refine lv_iload_n hx hb dX8_by_135 rfl (lv_at hl 2 rfl) ?_
                      refine mv_ial Cx hG hH isM_28 i (rfl) (by omega) dX8_by_136 ?_
                      refine lv_iload_n hx hb dX8_by_137 rfl (lv_at hl 3 rfl) ?_
                      refine lv_icmp_ne (tgt := 163) hx hb dX8_by_138 (by decide) (fun h138 => ?_) (fun h138 => ?_)
                      · skip
                        have hok : ¬ mOkB S i co = true := fun h => (mOkB_iff.mp h).2.1.elim h128 h138
                        refine lv_bipush (v := (-7 : Int32)) hx hb dX8_by_163 (by decide) ?_
                        exact mv_reti Cx hr hH hS (by rw [hmb]; unfold mbQ; rw [if_neg hz, if_pos hne, if_neg hok]) (by rw [hmb]; unfold mbQ; rw [if_neg hz, if_pos hne, if_neg hok]) dX8_by_165 hlocks
                      · skip
                        refine lv_aload_n hx hb dX8_by_141 rfl (lv_at hl 0 rfl) ?_
                        refine g_X8_ofTime Cx hG hH q_fl_X8_63 dX8_by_142 ?_
                        refine lv_iload_n hx hb dX8_by_145 rfl (lv_at hl 2 rfl) ?_
                        refine mv_zal Cx hG hH isM_27 i (rfl) (by omega) dX8_by_146 ?_
                        refine lv_if_eq (tgt := 166) hx hb dX8_by_147 (by decide) (fun h147 => ?_) (fun h147 => ?_)
                        · skip
                          have hok : mOkB S i co = true := mOkB_iff.mpr ⟨Or.inr h119, Or.inr h138, Or.inl h147⟩
                          refine lv_aload_n hx hb dX8_by_166 rfl (lv_at hl 0 rfl) ?_
                          refine g_X8_ofAuth Cx hG hH q_fl_X8_60 dX8_by_167 ?_
                          refine lv_iload_n hx hb dX8_by_170 rfl (lv_at hl 2 rfl) ?_
                          refine mv_zal Cx hG hH isM_26 i (rfl) (by omega) dX8_by_171 ?_
                          refine lv_if_eq (tgt := 190) hx hb dX8_by_172 (by decide) (fun h172 => ?_) (fun h172 => ?_)
                          · skip
                            refine lv_iconst (v := 0) hx hb dX8_by_190 (by decide) ?_
                            refine lv_istore (lv' := [(5, .int 0), (0, .ref (mAdM E 0 0)), (1, .int (nI t)), (2, .int (nI i)), (3, .int co), (4, .int z)]) hx hb dX8_by_191 hl (by decide) rfl (fun ls hl => ?_)
                            refine lv_iload hx hb dX8_by_193 (lv_at hl 0 rfl) ?_
                            refine lv_if_ne (tgt := 205) hx hb dX8_by_195 (by decide) (fun h195 => ?_) (fun h195 => ?_)
                            · skip
                              exact absurd rfl h195
                            · skip
                              refine lv_aload_n hx hb dX8_by_198 rfl (lv_at hl 1 rfl) ?_
                              refine g_X8_open Cx hG hH q_fl_X8_47 dX8_by_199 ?_
                              refine lv_iload_n hx hb dX8_by_202 rfl (lv_at hl 3 rfl) ?_
                              refine lv_iconst (v := 0) hx hb dX8_by_203 (by decide) ?_
                              refine mv_zas Cx hG hO hH hS isM_22 i (Or.inl rfl) (rfl) (by omega) dX8_by_204 (fun H locs hH hS => ?_)
                              refine lv_iload hx hb dX8_by_205 (lv_at hl 0 rfl) ?_
                              exact mv_reti Cx hr hH hS (by rw [hmb]; unfold mbQ; rw [if_neg hz, if_pos hne, if_pos hok, if_pos h172]) (by rw [hmb]; unfold mbQ; rw [if_neg hz, if_pos hne, if_pos hok, if_pos h172]) dX8_by_207 hlocks
                          · skip
                            refine lv_aload_n hx hb dX8_by_175 rfl (lv_at hl 0 rfl) ?_
                            refine lv_aload_n hx hb dX8_by_176 rfl (lv_at hl 0 rfl) ?_
                            refine g_X8_auth Cx hG hH q_fl_X8_76 dX8_by_177 ?_
                            refine lv_bipush (v := 32) hx hb dX8_by_180 (by decide) ?_
                            refine lv_iload_n hx hb dX8_by_182 rfl (lv_at hl 1 rfl) ?_
                            refine lv_imul hx hb dX8_by_183 ?_
                            refine mv_eqi (x' := nI (32 * t)) (pk_mul 32 t) ?_
                            refine mv_callV (Y := mLM) (C := RX8) (k := 0) (i := 0) (rest := []) Cx hG hH hS (c_X8_compared l E A hO S 31 384 isM_31 (32 * t) (by omega)) q_co_X8_compared q_ml_X8_196 q_im_X8_compared q_se_X8_compared q_in_X8 okM_0 rfl rfl hd_X8_compared ⟨Nat.le_of_ble_eq_true rfl, Nat.le_of_ble_eq_true rfl⟩ rfl hl.1 rfl (Nat.le_of_ble_eq_true rfl) ⟨Nat.le_of_ble_eq_true rfl, Nat.le_of_ble_eq_true rfl⟩ dX8_by_184 (fun S184 H locs hP184 hH hS => ?_)
                            refine W.eq (g2 := F0 m 187 ls [.int (mkR S (S.2.1 31 0) (32 * t))]) rfl ?_
                            have eS := hP184
                            refine lv_goto (tgt := 191) hx hb dX8_by_187 (by decide) ?_
                            refine lv_istore (lv' := [(5, .int (mkR S (S.2.1 31 0) (32 * t))), (0, .ref (mAdM E 0 0)), (1, .int (nI t)), (2, .int (nI i)), (3, .int co), (4, .int z)]) hx hb dX8_by_191 hl (by decide) rfl (fun ls hl => ?_)
                            refine lv_iload hx hb dX8_by_193 (lv_at hl 0 rfl) ?_
                            refine lv_if_ne (tgt := 205) hx hb dX8_by_195 (by decide) (fun h195 => ?_) (fun h195 => ?_)
                            · skip
                              refine lv_iload hx hb dX8_by_205 (lv_at hl 0 rfl) ?_
                              exact mv_reti Cx hr hH hS (by rw [hmb]; unfold mbQ; rw [if_neg hz, if_pos hne, if_pos hok, if_neg h172, if_neg h195]) (by rw [hmb]; unfold mbQ; rw [if_neg hz, if_pos hne, if_pos hok, if_neg h172, if_neg h195]; exact eS) dX8_by_207 hlocks
                            · skip
                              rw [mkS_0 h195] at eS
                              have hH := mv_S eS hH
                              refine lv_aload_n hx hb dX8_by_198 rfl (lv_at hl 1 rfl) ?_
                              refine g_X8_open Cx hG hH q_fl_X8_47 dX8_by_199 ?_
                              refine lv_iload_n hx hb dX8_by_202 rfl (lv_at hl 3 rfl) ?_
                              refine lv_iconst (v := 0) hx hb dX8_by_203 (by decide) ?_
                              refine mv_zas Cx hG hO hH hS isM_22 i (Or.inl rfl) (rfl) (by omega) dX8_by_204 (fun H locs hH hS => ?_)
                              refine lv_iload hx hb dX8_by_205 (lv_at hl 0 rfl) ?_
                              exact mv_reti Cx hr hH hS (by rw [hmb]; unfold mbQ; rw [if_neg hz, if_pos hne, if_pos hok, if_neg h172, if_pos h195]; exact h195) (by rw [hmb]; unfold mbQ; rw [if_neg hz, if_pos hne, if_pos hok, if_neg h172, if_pos h195, mkS_0 h195]) dX8_by_207 hlocks
                        · skip
                          refine lv_aload_n hx hb dX8_by_150 rfl (lv_at hl 0 rfl) ?_
                          refine g_X8_clock Cx hG hH q_fl_X8_163 dX8_by_151 ?_
                          refine lv_aload_n hx hb dX8_by_154 rfl (lv_at hl 0 rfl) ?_
                          refine g_X8_time Cx hG hH q_fl_X8_70 dX8_by_155 ?_
                          refine lv_iload_n hx hb dX8_by_158 rfl (lv_at hl 2 rfl) ?_
                          refine mv_ial Cx hG hH isM_29 i (rfl) (by omega) dX8_by_159 ?_
                          refine lv_icmp_le (tgt := 166) hx hb dX8_by_160 (by decide) (fun h160 => ?_) (fun h160 => ?_)
                          · skip
                            have hok : mOkB S i co = true := mOkB_iff.mpr ⟨Or.inr h119, Or.inr h138, Or.inr h160⟩
                            refine lv_aload_n hx hb dX8_by_166 rfl (lv_at hl 0 rfl) ?_
                            refine g_X8_ofAuth Cx hG hH q_fl_X8_60 dX8_by_167 ?_
                            refine lv_iload_n hx hb dX8_by_170 rfl (lv_at hl 2 rfl) ?_
                            refine mv_zal Cx hG hH isM_26 i (rfl) (by omega) dX8_by_171 ?_
                            refine lv_if_eq (tgt := 190) hx hb dX8_by_172 (by decide) (fun h172 => ?_) (fun h172 => ?_)
                            · skip
                              refine lv_iconst (v := 0) hx hb dX8_by_190 (by decide) ?_
                              refine lv_istore (lv' := [(5, .int 0), (0, .ref (mAdM E 0 0)), (1, .int (nI t)), (2, .int (nI i)), (3, .int co), (4, .int z)]) hx hb dX8_by_191 hl (by decide) rfl (fun ls hl => ?_)
                              refine lv_iload hx hb dX8_by_193 (lv_at hl 0 rfl) ?_
                              refine lv_if_ne (tgt := 205) hx hb dX8_by_195 (by decide) (fun h195 => ?_) (fun h195 => ?_)
                              · skip
                                exact absurd rfl h195
                              · skip
                                refine lv_aload_n hx hb dX8_by_198 rfl (lv_at hl 1 rfl) ?_
                                refine g_X8_open Cx hG hH q_fl_X8_47 dX8_by_199 ?_
                                refine lv_iload_n hx hb dX8_by_202 rfl (lv_at hl 3 rfl) ?_
                                refine lv_iconst (v := 0) hx hb dX8_by_203 (by decide) ?_
                                refine mv_zas Cx hG hO hH hS isM_22 i (Or.inl rfl) (rfl) (by omega) dX8_by_204 (fun H locs hH hS => ?_)
                                refine lv_iload hx hb dX8_by_205 (lv_at hl 0 rfl) ?_
                                exact mv_reti Cx hr hH hS (by rw [hmb]; unfold mbQ; rw [if_neg hz, if_pos hne, if_pos hok, if_pos h172]) (by rw [hmb]; unfold mbQ; rw [if_neg hz, if_pos hne, if_pos hok, if_pos h172]) dX8_by_207 hlocks
                            · skip
                              refine lv_aload_n hx hb dX8_by_175 rfl (lv_at hl 0 rfl) ?_
                              refine lv_aload_n hx hb dX8_by_176 rfl (lv_at hl 0 rfl) ?_
                              refine g_X8_auth Cx hG hH q_fl_X8_76 dX8_by_177 ?_
                              refine lv_bipush (v := 32) hx hb dX8_by_180 (by decide) ?_
                              refine lv_iload_n hx hb dX8_by_182 rfl (lv_at hl 1 rfl) ?_
                              refine lv_imul hx hb dX8_by_183 ?_
                              refine mv_eqi (x' := nI (32 * t)) (pk_mul 32 t) ?_
                              refine mv_callV (Y := mLM) (C := RX8) (k := 0) (i := 0) (rest := []) Cx hG hH hS (c_X8_compared l E A hO S 31 384 isM_31 (32 * t) (by omega)) q_co_X8_compared q_ml_X8_196 q_im_X8_compared q_se_X8_compared q_in_X8 okM_0 rfl rfl hd_X8_compared ⟨Nat.le_of_ble_eq_true rfl, Nat.le_of_ble_eq_true rfl⟩ rfl hl.1 rfl (Nat.le_of_ble_eq_true rfl) ⟨Nat.le_of_ble_eq_true rfl, Nat.le_of_ble_eq_true rfl⟩ dX8_by_184 (fun S184 H locs hP184 hH hS => ?_)
                              refine W.eq (g2 := F0 m 187 ls [.int (mkR S (S.2.1 31 0) (32 * t))]) rfl ?_
                              have eS := hP184
                              refine lv_goto (tgt := 191) hx hb dX8_by_187 (by decide) ?_
                              refine lv_istore (lv' := [(5, .int (mkR S (S.2.1 31 0) (32 * t))), (0, .ref (mAdM E 0 0)), (1, .int (nI t)), (2, .int (nI i)), (3, .int co), (4, .int z)]) hx hb dX8_by_191 hl (by decide) rfl (fun ls hl => ?_)
                              refine lv_iload hx hb dX8_by_193 (lv_at hl 0 rfl) ?_
                              refine lv_if_ne (tgt := 205) hx hb dX8_by_195 (by decide) (fun h195 => ?_) (fun h195 => ?_)
                              · skip
                                refine lv_iload hx hb dX8_by_205 (lv_at hl 0 rfl) ?_
                                exact mv_reti Cx hr hH hS (by rw [hmb]; unfold mbQ; rw [if_neg hz, if_pos hne, if_pos hok, if_neg h172, if_neg h195]) (by rw [hmb]; unfold mbQ; rw [if_neg hz, if_pos hne, if_pos hok, if_neg h172, if_neg h195]; exact eS) dX8_by_207 hlocks
                              · skip
                                rw [mkS_0 h195] at eS
                                have hH := mv_S eS hH
                                refine lv_aload_n hx hb dX8_by_198 rfl (lv_at hl 1 rfl) ?_
                                refine g_X8_open Cx hG hH q_fl_X8_47 dX8_by_199 ?_
                                refine lv_iload_n hx hb dX8_by_202 rfl (lv_at hl 3 rfl) ?_
                                refine lv_iconst (v := 0) hx hb dX8_by_203 (by decide) ?_
                                refine mv_zas Cx hG hO hH hS isM_22 i (Or.inl rfl) (rfl) (by omega) dX8_by_204 (fun H locs hH hS => ?_)
                                refine lv_iload hx hb dX8_by_205 (lv_at hl 0 rfl) ?_
                                exact mv_reti Cx hr hH hS (by rw [hmb]; unfold mbQ; rw [if_neg hz, if_pos hne, if_pos hok, if_neg h172, if_pos h195]; exact h195) (by rw [hmb]; unfold mbQ; rw [if_neg hz, if_pos hne, if_pos hok, if_neg h172, if_pos h195, mkS_0 h195]) dX8_by_207 hlocks
                          · skip
                            have hok : ¬ mOkB S i co = true := fun h => (mOkB_iff.mp h).2.2.elim h147 h160
                            refine lv_bipush (v := (-7 : Int32)) hx hb dX8_by_163 (by decide) ?_
                            exact mv_reti Cx hr hH hS (by rw [hmb]; unfold mbQ; rw [if_neg hz, if_pos hne, if_neg hok]) (by rw [hmb]; unfold mbQ; rw [if_neg hz, if_pos hne, if_neg hok]) dX8_by_165 hlocks
              · skip
                refine lv_bipush (v := (-7 : Int32)) hx hb dX8_by_101 (by decide) ?_
                exact mv_reti Cx hr hH hS (by rw [hmb]; unfold mbQ; rw [if_neg hz, if_neg (b0_of h98)]) (by rw [hmb]; unfold mbQ; rw [if_neg hz, if_neg (b0_of h98)]) dX8_by_103 hlocks
          · skip
            have hj32 : j < 32 := lt_of (a := 32) (by decide) (by omega) h38
            refine lv_iload hx hb dX8_by_41 (lv_at hl 4 rfl) ?_
            refine lv_if_eq (tgt := 65) hx hb dX8_by_43 (by decide) (fun h43 => ?_) (fun h43 => ?_)
            · skip
              refine lv_iconst (v := 0) hx hb dX8_by_65 (by decide) ?_
              refine lv_istore (lv' := [(4, .int 0), (0, .ref (mAdM E 0 0)), (1, .int (nI t)), (2, .int (nI i)), (3, .int co), (5, .int (nI j))]) hx hb dX8_by_66 hl (by decide) rfl (fun ls hl => ?_)
              refine lv_iinc (v := nI (j + 1)) (lv' := [(5, .int (nI (j + 1))), (4, .int 0), (0, .ref (mAdM E 0 0)), (1, .int (nI t)), (2, .int (nI i)), (3, .int co)]) hx hb dX8_by_68 hl (k := 5) rfl (i2_1 j) (by decide) rfl (fun ls hl => ?_)
              refine lv_goto (tgt := 34) hx hb dX8_by_71 (by decide) ?_
              exact ih (j + 1) S _ _ ls 0 (by omega) (by omega) (⟨rfl, ⟨fun h => absurd h (by decide), fun h => absurd (hinv.2.1.mpr (fun r hr => h r (by omega))) (fun e => absurd (e.symm.trans h43) (by decide))⟩, Or.inl rfl⟩) hH hS (lv_sub hl [2, 3, 4, 5, 1, 0] rfl)
            · skip
              refine lv_aload_n hx hb dX8_by_46 rfl (lv_at hl 0 rfl) ?_
              refine g_X8_policy Cx hG hH q_fl_X8_79 dX8_by_47 ?_
              refine lv_bipush (v := 32) hx hb dX8_by_50 (by decide) ?_
              refine lv_iload_n hx hb dX8_by_52 rfl (lv_at hl 1 rfl) ?_
              refine lv_imul hx hb dX8_by_53 ?_
              refine mv_eqi (x' := nI (32 * t)) (pk_mul 32 t) ?_
              refine lv_iload hx hb dX8_by_54 (lv_at hl 5 rfl) ?_
              refine lv_iadd hx hb dX8_by_56 ?_
              refine mv_eqi (x' := nI (32 * t + j)) (nI_add _ _) ?_
              refine mv_bal Cx hG hH isM_32 (32 * t + j) (rfl) (by omega) dX8_by_57 ?_
              refine lv_if_ne (tgt := 65) hx hb dX8_by_58 (by decide) (fun h58 => ?_) (fun h58 => ?_)
              · skip
                refine lv_iconst (v := 0) hx hb dX8_by_65 (by decide) ?_
                refine lv_istore (lv' := [(4, .int 0), (0, .ref (mAdM E 0 0)), (1, .int (nI t)), (2, .int (nI i)), (3, .int co), (5, .int (nI j))]) hx hb dX8_by_66 hl (by decide) rfl (fun ls hl => ?_)
                refine lv_iinc (v := nI (j + 1)) (lv' := [(5, .int (nI (j + 1))), (4, .int 0), (0, .ref (mAdM E 0 0)), (1, .int (nI t)), (2, .int (nI i)), (3, .int co)]) hx hb dX8_by_68 hl (k := 5) rfl (i2_1 j) (by decide) rfl (fun ls hl => ?_)
                refine lv_goto (tgt := 34) hx hb dX8_by_71 (by decide) ?_
                exact ih (j + 1) S _ _ ls 0 (by omega) (by omega) (⟨rfl, ⟨fun h => absurd h (by decide), fun h => absurd (congrArg Int8.toInt32 (h j (by omega))) h58⟩, Or.inl rfl⟩) hH hS (lv_sub hl [2, 3, 4, 5, 1, 0] rfl)
              · skip
                refine lv_iconst (v := 1) hx hb dX8_by_61 (by decide) ?_
                refine lv_goto (tgt := 66) hx hb dX8_by_62 (by decide) ?_
                refine lv_istore (lv' := [(4, .int 1), (0, .ref (mAdM E 0 0)), (1, .int (nI t)), (2, .int (nI i)), (3, .int co), (5, .int (nI j))]) hx hb dX8_by_66 hl (by decide) rfl (fun ls hl => ?_)
                refine lv_iinc (v := nI (j + 1)) (lv' := [(5, .int (nI (j + 1))), (4, .int 1), (0, .ref (mAdM E 0 0)), (1, .int (nI t)), (2, .int (nI i)), (3, .int co)]) hx hb dX8_by_68 hl (k := 5) rfl (i2_1 j) (by decide) rfl (fun ls hl => ?_)
                refine lv_goto (tgt := 34) hx hb dX8_by_71 (by decide) ?_
                exact ih (j + 1) S _ _ ls 1 (by omega) (by omega) (⟨rfl, ⟨fun _ r hr => by by_cases e : r = j; (subst e; exact i8_0 h58); (exact hinv.2.1.mp (hinv.2.2.resolve_left h43) r (by omega)), fun _ => rfl⟩, Or.inr rfl⟩) hH hS (lv_sub hl [2, 3, 4, 5, 1, 0] rfl)
      exact lp (32 - 0 + 1) 0 S _ _ ls 1 (by omega) (by omega) (⟨rfl, ⟨fun _ r h => absurd h (Nat.not_lt_zero _), fun _ => rfl⟩, Or.inr rfl⟩) hH hS (lv_sub hl [2, 3, 4, 5, 1, 0] rfl)
    · skip
      have hno : msO S x = none := Option.not_isSome_iff_eq_none.mp (b0_of h23)
      refine lv_iconst (v := (-1 : Int32)) hx hb dX8_by_26 (by decide) ?_
      exact mv_reti Cx hr hH hS (by unfold mbP; rw [if_neg h2, hno]; rfl) (by unfold mbP; rw [if_neg h2, hno]; rfl) dX8_by_27 hlocks
  · skip
    refine lv_aload_n hx hb dX8_by_5 rfl (lv_at hl 0 rfl) ?_
    refine lv_aload_n hx hb dX8_by_6 rfl (lv_at hl 0 rfl) ?_
    refine g_X8_auth Cx hG hH q_fl_X8_76 dX8_by_7 ?_
    refine lv_bipush (v := 32) hx hb dX8_by_10 (by decide) ?_
    refine lv_iload_n hx hb dX8_by_12 rfl (lv_at hl 1 rfl) ?_
    refine lv_imul hx hb dX8_by_13 ?_
    refine mv_eqi (x' := nI (32 * t)) (pk_mul 32 t) ?_
    refine mv_callV (Y := mLM) (C := RX8) (k := 0) (i := 0) (rest := []) Cx hG hH hS (c_X8_compared l E A hO S 31 384 isM_31 (32 * t) (by omega)) q_co_X8_compared q_ml_X8_196 q_im_X8_compared q_se_X8_compared q_in_X8 okM_0 rfl rfl hd_X8_compared ⟨Nat.le_of_ble_eq_true rfl, Nat.le_of_ble_eq_true rfl⟩ rfl hl.1 rfl (Nat.le_of_ble_eq_true rfl) ⟨Nat.le_of_ble_eq_true rfl, Nat.le_of_ble_eq_true rfl⟩ dX8_by_14 (fun S14 H locs hP14 hH hS => ?_)
    refine W.eq (g2 := F0 m 17 ls [.int (mkR S (S.2.1 31 0) (32 * t))]) rfl ?_
    exact mv_reti Cx hr hH hS (by unfold mbP; rw [if_pos h2]) (by unfold mbP; rw [if_pos h2]; exact hP14) dX8_by_17 hlocks
