/-! ===== the landed class: its cells ===== -/
def mPC : List (Nat × Nat) := [(0, 0), (1, 0), (2, 0), (2, 1), (2, 2), (2, 3), (2, 4), (2, 5), (2, 6), (2, 7), (2, 8), (2, 9), (2, 10), (2, 11), (2, 12), (2, 13), (2, 14), (3, 0), (3, 1), (3, 2), (3, 3), (3, 4), (3, 5), (3, 6), (3, 7), (3, 8), (3, 9), (3, 10), (3, 11), (3, 12), (3, 13), (3, 14), (4, 0), (5, 0), (6, 0), (7, 0), (8, 0), (9, 0), (10, 0), (11, 0), (12, 0), (13, 0), (14, 0), (15, 0), (16, 0), (17, 0), (18, 0), (19, 0), (19, 1), (19, 2), (19, 3), (20, 0), (20, 1), (20, 2), (20, 3), (21, 0), (22, 0), (22, 1), (22, 2), (22, 3), (22, 4), (22, 5), (22, 6), (22, 7), (22, 8), (22, 9), (22, 10), (22, 11), (23, 0), (23, 1), (23, 2), (23, 3), (23, 4), (23, 5), (23, 6), (23, 7), (23, 8), (23, 9), (23, 10), (23, 11), (24, 0), (24, 1), (24, 2), (24, 3), (24, 4), (24, 5), (24, 6), (24, 7), (24, 8), (24, 9), (24, 10), (24, 11), (25, 0), (26, 0), (26, 1), (26, 2), (26, 3), (26, 4), (26, 5), (26, 6), (26, 7)]
def mLn (i : Nat) : Nat := if i = 0 then 400 else if i = 1 then 229 else if i = 2 then 512 else if i < 7 then 128 else 64
def mOffB (i : Nat) : Nat := if i = 0 then 11 else if i = 1 then 13 else if i = 2 then 2 else if i < 7 then 35 + 5 * (i - 3) else 57 + 6 * (i - 7)
def mOffT (i : Nat) : Nat := if i < 4 then 32 + 5 * i else 54 + 6 * (i - 4)
/-- where a cell lies in the block -/
def mOff (k i : Nat) : Nat := match k with
  | 0 => 0
  | 1 => 1
  | 2 => mOffB i
  | 3 => mOffB i + 1
  | 4 => 4
  | 5 => 5
  | 6 => 6
  | 7 => 7
  | 8 => 8
  | 9 => 9
  | 10 => 10
  | 11 => 15
  | 12 => 16
  | 13 => 17
  | 14 => 18
  | 15 => 19
  | 16 => 20
  | 17 => 21
  | 18 => 22
  | 19 => 23 + 2 * i
  | 20 => 24 + 2 * i
  | 21 => 31
  | 22 => mOffT i
  | 23 => mOffT i + 1
  | 24 => mOffT i + 2
  | 25 => 52
  | _ => 53 + 6 * i
def mAdC (E : mEv) (k i : Nat) : Nat := E.2.2 + mOff k i
/-- what a cell holds -/
def mWC (E : mEv) (S : mSt) (k i : Nat) : va_E := match k with
  | 0 => .inr (7, [.ref (mAdC E 1 0), .ref (mAdC E 7 0), .ref (mAdC E 2 0), .ref (mAdC E 2 1), .ref (mAdC E 11 0), .ref (mAdC E 12 0), .ref (mAdC E 13 0), .ref (mAdC E 14 0), .ref (mAdC E 15 0), .ref (mAdC E 18 0), .ref (mAdC E 21 0), .ref (mAdC E 25 0), .long (S.2.2 0 i 12), .int (S.1 0 i 13), .int (S.1 0 i 14), .int (S.1 0 i 15)])
  | 1 => .inr (1, [.ref (mAdC E 2 2), .ref (mAdC E 4 0), .ref (mAdC E 5 0), .ref (mAdC E 6 0)])
  | 2 => .inr (0, [.ref (mAdC E 3 i), .int (S.1 2 i 1)])
  | 3 => .inl (E.2.1 0, mLn i, .inl (fun j => (S.2.1 3 i j).toInt32))
  | 4 => .inl (E.2.1 1, 8, .inl (fun j => S.1 4 i j))
  | 5 => .inl (E.2.1 1, 64, .inl (fun j => S.1 5 i j))
  | 6 => .inl (E.2.1 0, 32, .inl (fun j => (S.2.1 6 i j).toInt32))
  | 7 => .inr (3, [.ref (mAdC E 1 0), .ref (mAdC E 8 0), .ref (mAdC E 9 0), .ref (mAdC E 10 0), .int (S.1 7 i 4)])
  | 8 => .inl (E.2.1 0, 32, .inl (fun j => (S.2.1 8 i j).toInt32))
  | 9 => .inl (E.2.1 0, 32, .inl (fun j => (S.2.1 9 i j).toInt32))
  | 10 => .inl (E.2.1 0, 32, .inl (fun j => (S.2.1 10 i j).toInt32))
  | 11 => .inl (E.2.1 0, 32, .inl (fun j => (S.2.1 11 i j).toInt32))
  | 12 => .inl (E.2.1 0, 32, .inl (fun j => (S.2.1 12 i j).toInt32))
  | 13 => .inl (E.2.1 0, 32, .inl (fun j => (S.2.1 13 i j).toInt32))
  | 14 => .inl (E.2.1 0, 32, .inl (fun j => (S.2.1 14 i j).toInt32))
  | 15 => .inr (2, [.ref (mAdC E 16 0), .ref (mAdC E 17 0), .int (S.1 15 i 2)])
  | 16 => .inl (E.2.1 0, 256, .inl (fun j => (S.2.1 16 i j).toInt32))
  | 17 => .inl (E.2.1 0, 32, .inl (fun j => (S.2.1 17 i j).toInt32))
  | 18 => .inl (E.2.1 4, 4, .inr (.inr (.inr (.inr (fun j => some (mAdC E 19 j))))))
  | 19 => .inr (4, [.ref (mAdC E 20 i), .int (S.1 19 i 1), .int (S.1 19 i 2), .int (S.1 19 i 3), .int (S.1 19 i 4), .int (S.1 19 i 5), .int (S.1 19 i 6), .int (S.1 19 i 7)])
  | 20 => .inl (E.2.1 0, 32, .inl (fun j => (S.2.1 20 i j).toInt32))
  | 21 => .inl (E.2.1 5, 4, .inr (.inr (.inr (.inr (fun j => some (mAdC E 22 j))))))
  | 22 => .inr (5, [.ref (mAdC E 23 i), .ref (mAdC E 24 i), .ref (mAdC E 2 (3 + i)), .int (S.1 22 i 3)])
  | 23 => .inl (E.2.1 0, 32, .inl (fun j => (S.2.1 23 i j).toInt32))
  | 24 => .inl (E.2.1 0, 32, .inl (fun j => (S.2.1 24 i j).toInt32))
  | 25 => .inl (E.2.1 6, 8, .inr (.inr (.inr (.inr (fun j => some (mAdC E 26 j))))))
  | 26 => .inr (6, [.ref (mAdC E 22 (4 + i)), .int (S.1 26 i 1), .int (S.1 26 i 2), .int (S.1 26 i 3), .long (S.2.2 26 i 4)])
  | _ => .inr (0, [])
abbrev mLC : mLY := (mPC, mAdC, mWC)
theorem mGoodC : mGood mLC := by
  refine ⟨by decide +kernel, fun E S S' k i h1 h2 h3 => ?_⟩
  show mWC E S' k i = mWC E S k i
  match k with
  | 0 => simp only [mWC, h1, h2, h3]
  | 1 => simp only [mWC, h1, h2, h3]
  | 2 => simp only [mWC, h1, h2, h3]
  | 3 => simp only [mWC, h1, h2, h3]
  | 4 => simp only [mWC, h1, h2, h3]
  | 5 => simp only [mWC, h1, h2, h3]
  | 6 => simp only [mWC, h1, h2, h3]
  | 7 => simp only [mWC, h1, h2, h3]
  | 8 => simp only [mWC, h1, h2, h3]
  | 9 => simp only [mWC, h1, h2, h3]
  | 10 => simp only [mWC, h1, h2, h3]
  | 11 => simp only [mWC, h1, h2, h3]
  | 12 => simp only [mWC, h1, h2, h3]
  | 13 => simp only [mWC, h1, h2, h3]
  | 14 => simp only [mWC, h1, h2, h3]
  | 15 => simp only [mWC, h1, h2, h3]
  | 16 => simp only [mWC, h1, h2, h3]
  | 17 => simp only [mWC, h1, h2, h3]
  | 18 => simp only [mWC, h1, h2, h3]
  | 19 => simp only [mWC, h1, h2, h3]
  | 20 => simp only [mWC, h1, h2, h3]
  | 21 => simp only [mWC, h1, h2, h3]
  | 22 => simp only [mWC, h1, h2, h3]
  | 23 => simp only [mWC, h1, h2, h3]
  | 24 => simp only [mWC, h1, h2, h3]
  | 25 => simp only [mWC, h1, h2, h3]
  | 26 => simp only [mWC, h1, h2, h3]
  | _ + 27 => simp only [mWC]
theorem okC_0 : (0, 0) ∈ mLC.1 := by decide +kernel
theorem okC_1 : (1, 0) ∈ mLC.1 := by decide +kernel
theorem okC_2 {i : Nat} (h : i < 15) : (2, i) ∈ mLC.1 := (show ∀ i, i < 15 → (2, i) ∈ mPC by decide +kernel) i h
theorem okC_3 {i : Nat} (h : i < 15) : (3, i) ∈ mLC.1 := (show ∀ i, i < 15 → (3, i) ∈ mPC by decide +kernel) i h
theorem okC_4 : (4, 0) ∈ mLC.1 := by decide +kernel
theorem okC_5 : (5, 0) ∈ mLC.1 := by decide +kernel
theorem okC_6 : (6, 0) ∈ mLC.1 := by decide +kernel
theorem okC_7 : (7, 0) ∈ mLC.1 := by decide +kernel
theorem okC_8 : (8, 0) ∈ mLC.1 := by decide +kernel
theorem okC_9 : (9, 0) ∈ mLC.1 := by decide +kernel
theorem okC_10 : (10, 0) ∈ mLC.1 := by decide +kernel
theorem okC_11 : (11, 0) ∈ mLC.1 := by decide +kernel
theorem okC_12 : (12, 0) ∈ mLC.1 := by decide +kernel
theorem okC_13 : (13, 0) ∈ mLC.1 := by decide +kernel
theorem okC_14 : (14, 0) ∈ mLC.1 := by decide +kernel
theorem okC_15 : (15, 0) ∈ mLC.1 := by decide +kernel
theorem okC_16 : (16, 0) ∈ mLC.1 := by decide +kernel
theorem okC_17 : (17, 0) ∈ mLC.1 := by decide +kernel
theorem okC_18 : (18, 0) ∈ mLC.1 := by decide +kernel
theorem okC_19 {i : Nat} (h : i < 4) : (19, i) ∈ mLC.1 := (show ∀ i, i < 4 → (19, i) ∈ mPC by decide +kernel) i h
theorem okC_20 {i : Nat} (h : i < 4) : (20, i) ∈ mLC.1 := (show ∀ i, i < 4 → (20, i) ∈ mPC by decide +kernel) i h
theorem okC_21 : (21, 0) ∈ mLC.1 := by decide +kernel
theorem okC_22 {i : Nat} (h : i < 12) : (22, i) ∈ mLC.1 := (show ∀ i, i < 12 → (22, i) ∈ mPC by decide +kernel) i h
theorem okC_23 {i : Nat} (h : i < 12) : (23, i) ∈ mLC.1 := (show ∀ i, i < 12 → (23, i) ∈ mPC by decide +kernel) i h
theorem okC_24 {i : Nat} (h : i < 12) : (24, i) ∈ mLC.1 := (show ∀ i, i < 12 → (24, i) ∈ mPC by decide +kernel) i h
theorem okC_25 : (25, 0) ∈ mLC.1 := by decide +kernel
theorem okC_26 {i : Nat} (h : i < 8) : (26, i) ∈ mLC.1 := (show ∀ i, i < 8 → (26, i) ∈ mPC by decide +kernel) i h
theorem mLn_lt (i : Nat) : mLn i < 2 ^ 31 := by unfold mLn; (repeat' split) <;> decide
theorem isC_3 {i : Nat} (h : i < 15) : mIsB mLC 3 i (mLn i) := ⟨okC_3 h, mLn_lt i, fun _ _ => rfl⟩
theorem isC_6 : mIsB mLC 6 0 32 := ⟨okC_6, by decide, fun _ _ => rfl⟩
theorem isC_8 : mIsB mLC 8 0 32 := ⟨okC_8, by decide, fun _ _ => rfl⟩
theorem isC_9 : mIsB mLC 9 0 32 := ⟨okC_9, by decide, fun _ _ => rfl⟩
theorem isC_10 : mIsB mLC 10 0 32 := ⟨okC_10, by decide, fun _ _ => rfl⟩
theorem isC_11 : mIsB mLC 11 0 32 := ⟨okC_11, by decide, fun _ _ => rfl⟩
theorem isC_12 : mIsB mLC 12 0 32 := ⟨okC_12, by decide, fun _ _ => rfl⟩
theorem isC_13 : mIsB mLC 13 0 32 := ⟨okC_13, by decide, fun _ _ => rfl⟩
theorem isC_14 : mIsB mLC 14 0 32 := ⟨okC_14, by decide, fun _ _ => rfl⟩
theorem isC_16 : mIsB mLC 16 0 256 := ⟨okC_16, by decide, fun _ _ => rfl⟩
theorem isC_17 : mIsB mLC 17 0 32 := ⟨okC_17, by decide, fun _ _ => rfl⟩
theorem isC_20 {i : Nat} (h : i < 4) : mIsB mLC 20 i (32) := ⟨okC_20 h, by decide, fun _ _ => rfl⟩
theorem isC_23 {i : Nat} (h : i < 12) : mIsB mLC 23 i (32) := ⟨okC_23 h, by decide, fun _ _ => rfl⟩
theorem isC_24 {i : Nat} (h : i < 12) : mIsB mLC 24 i (32) := ⟨okC_24 h, by decide, fun _ _ => rfl⟩
theorem isC_4 : mIsI mLC 4 0 8 := ⟨okC_4, by decide, fun _ _ => rfl⟩
theorem isC_5 : mIsI mLC 5 0 64 := ⟨okC_5, by decide, fun _ _ => rfl⟩
