/-! ===== rows of bytes as lists; what a call leaves as it was ===== -/
/-- the first n of a row -/
def mTk (f : Nat → Int8) (n : Nat) : List Int8 := (List.range n).map f
theorem mTk_len (f : Nat → Int8) (n : Nat) : (mTk f n).length = n := by simp [mTk]
theorem mTk_get (f : Nat → Int8) {n j : Nat} (h : j < n) : (mTk f n).getD j 0 = f j := by simp [mTk, h]
theorem mTk_congr {f g : Nat → Int8} {n : Nat} (h : ∀ j, j < n → f j = g j) : mTk f n = mTk g n := by
  unfold mTk
  exact List.map_congr_left (fun j hj => h j (List.mem_range.mp hj))
/-- all cells but those that X names are as before -/
def mSame (X : Nat → Nat → Prop) (S S' : mSt) : Prop := ∀ k i, ¬ X k i → (∀ j, S'.1 k i j = S.1 k i j) ∧ (∀ j, S'.2.1 k i j = S.2.1 k i j) ∧ ∀ j, S'.2.2 k i j = S.2.2 k i j
theorem mSame.rf {X : Nat → Nat → Prop} {S : mSt} : mSame X S S := fun _ _ _ => ⟨fun _ => rfl, fun _ => rfl, fun _ => rfl⟩
theorem mSame.tr {X : Nat → Nat → Prop} {S S1 S2 : mSt} (h1 : mSame X S S1) (h2 : mSame X S1 S2) : mSame X S S2 := fun k i h => ⟨fun j => ((h2 k i h).1 j).trans ((h1 k i h).1 j), fun j => ((h2 k i h).2.1 j).trans ((h1 k i h).2.1 j), fun j => ((h2 k i h).2.2 j).trans ((h1 k i h).2.2 j)⟩
theorem mSame.wk {X X' : Nat → Nat → Prop} {S S1 : mSt} (h : mSame X S S1) (hX : ∀ k i, X k i → X' k i) : mSame X' S S1 := fun k i q => h k i (fun z => q (hX k i z))
theorem mSame.M {X : Nat → Nat → Prop} {S : mSt} {k i j : Nat} {v : Int32} (h : X k i) : mSame X S (mM S k i j v) := fun k' i' q => ⟨fun j' => m3_ne _ _ (fun z => q (by rw [z.1, z.2]; exact h)) j', fun _ => rfl, fun _ => rfl⟩
theorem mSame.B {X : Nat → Nat → Prop} {S : mSt} {k i j : Nat} {v : Int8} (h : X k i) : mSame X S (mB S k i j v) := fun k' i' q => ⟨fun _ => rfl, fun j' => m3_ne _ _ (fun z => q (by rw [z.1, z.2]; exact h)) j', fun _ => rfl⟩
theorem mSame.J {X : Nat → Nat → Prop} {S : mSt} {k i j : Nat} {v : Int64} (h : X k i) : mSame X S (mJ S k i j v) := fun k' i' q => ⟨fun _ => rfl, fun _ => rfl, fun j' => m3_ne _ _ (fun z => q (by rw [z.1, z.2]; exact h)) j'⟩
theorem mSame.AB {X : Nat → Nat → Prop} {S : mSt} {k i : Nat} {g : Nat → Int8} (h : X k i) : mSame X S (mAB S k i g) := fun k' i' q => ⟨fun _ => rfl, fun j' => mA_ne _ _ (fun z => q (by rw [z.1, z.2]; exact h)) j', fun _ => rfl⟩
theorem mSame.AM {X : Nat → Nat → Prop} {S : mSt} {k i : Nat} {g : Nat → Int32} (h : X k i) : mSame X S (mAM S k i g) := fun k' i' q => ⟨fun j' => mA_ne _ _ (fun z => q (by rw [z.1, z.2]; exact h)) j', fun _ => rfl, fun _ => rfl⟩
/-- a Bytes, number i, holds xs -/
def bHas (S : mSt) (i : Nat) (xs : List Int8) : Prop := S.1 2 i 1 = nI xs.length ∧ xs.length ≤ mLn i ∧ ∀ j, j < xs.length → S.2.1 3 i j = xs.getD j 0
/-- the cells of a Bytes -/
def bX (i : Nat) : Nat → Nat → Prop := fun k i' => (k = 2 ∨ k = 3) ∧ i' = i
/-- four bytes of a number, the highest first -/
def w4 (x : Int32) : List Int8 := [((x.toUInt32 >>> ((24 : Int32).toUInt32 &&& Int32.toUInt32 31)).toInt32).toInt8, ((x.toUInt32 >>> ((16 : Int32).toUInt32 &&& Int32.toUInt32 31)).toInt32).toInt8, ((x.toUInt32 >>> ((8 : Int32).toUInt32 &&& Int32.toUInt32 31)).toInt32).toInt8, x.toInt8]
theorem bHas.keep {X : Nat → Nat → Prop} {S S' : mSt} {i : Nat} {xs : List Int8} (h : bHas S i xs) (hs : mSame X S S') (h2 : ¬ X 2 i) (h3 : ¬ X 3 i) : bHas S' i xs :=
  ⟨((hs 2 i h2).1 1).trans h.1, h.2.1, fun j hj => ((hs 3 i h3).2.1 j).trans (h.2.2 j hj)⟩
theorem bHas.put {S : mSt} {i : Nat} {xs : List Int8} {b : Int8} (h : bHas S i xs) (hle : xs.length + 1 ≤ mLn i) : bHas (mM (mB S 3 i xs.length b) 2 i 1 (nI (xs.length + 1))) i (xs ++ [b]) := by
  refine ⟨by simp [mM, m3], by simpa using hle, fun j hj => ?_⟩
  simp only [mM, mB, m3]
  rw [List.length_append, List.length_singleton] at hj
  by_cases hq : j = xs.length
  · subst hq
    simp
  · have hj' : j < xs.length := by omega
    simp only [hq, and_false, if_false]
    rw [h.2.2 j hj']
    simp [List.getD_eq_getElem?_getD, List.getElem?_append_left hj']
theorem bHas.all {S : mSt} {i : Nat} {xs : List Int8} {f : Nat → Int8} {n : Nat} (h : bHas S i xs) (hle : xs.length + n ≤ mLn i) : bHas (mM (mAB S 3 i (va_cpy f (S.2.1 3 i) 0 xs.length n)) 2 i 1 (nI (xs.length + n))) i (xs ++ mTk f n) := by
  refine ⟨by simp [mM, m3, mTk_len], by simpa [mTk_len] using hle, fun j hj => ?_⟩
  rw [List.length_append, mTk_len] at hj
  show mA S.2.1 3 i (va_cpy f (S.2.1 3 i) 0 xs.length n) 3 i j = _
  rw [mA, if_pos ⟨rfl, rfl⟩]
  by_cases hq : j < xs.length
  · rw [pk_cpy_out (Or.inl hq), h.2.2 j hq]
    simp [List.getD_eq_getElem?_getD, List.getElem?_append_left hq]
  · rw [pk_cpy_in (by omega) (by omega), List.getD_eq_getElem?_getD, List.getElem?_append_right (by omega), ← List.getD_eq_getElem?_getD, mTk_get f (by omega)]
    simp
theorem nI_s (a : Nat) : nI a + nI 1 = nI (a + 1) := nI_add a 1
theorem nI_lit1 : (1 : Int32) = nI 1 := rfl
