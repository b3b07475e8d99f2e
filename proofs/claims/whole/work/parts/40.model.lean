/-! ===== the reference: its cells ===== -/
def mPM : List (Nat × Nat) := [(0, 0), (1, 0), (3, 0), (5, 0), (7, 0), (8, 0), (9, 0), (10, 0), (11, 0), (13, 0), (14, 0), (15, 0), (16, 0), (22, 0), (23, 0), (24, 0), (25, 0), (26, 0), (27, 0), (28, 0), (29, 0), (30, 0), (31, 0), (32, 0), (33, 0), (34, 0), (35, 0), (36, 0), (37, 0), (38, 0)]
def mOffM (k : Nat) : Nat := match k with
  | 0 => 0
  | 1 => 1
  | 3 => 2
  | 5 => 3
  | 7 => 4
  | 8 => 5
  | 9 => 6
  | 10 => 7
  | 11 => 8
  | 13 => 9
  | 14 => 10
  | 15 => 11
  | 16 => 12
  | 22 => 13
  | 23 => 14
  | 24 => 15
  | 25 => 16
  | 26 => 17
  | 27 => 18
  | 28 => 19
  | 29 => 20
  | 30 => 21
  | 31 => 22
  | 32 => 23
  | 33 => 24
  | 34 => 25
  | 35 => 26
  | 36 => 27
  | 37 => 28
  | 38 => 29
  | _ => 0
def mAdM (E : mEv) (k i : Nat) : Nat := E.2.2 + mOffM k + 0 * i
def mWM (E : mEv) (S : mSt) (k i : Nat) : va_E := match k with
  | 0 => .inr (8, [.ref (mAdM E 1 0), .int (S.1 0 i 1), .ref (mAdM E 3 0), .int (S.1 0 i 3), .ref (mAdM E 5 0), .int (S.1 0 i 5), .ref (mAdM E 7 0), .ref (mAdM E 8 0), .ref (mAdM E 9 0), .ref (mAdM E 10 0), .ref (mAdM E 11 0), .int (S.1 0 i 11), .ref (mAdM E 13 0), .ref (mAdM E 14 0), .ref (mAdM E 15 0), .ref (mAdM E 16 0), .int (S.1 0 i 16), .int (S.1 0 i 17), .int (S.1 0 i 18), .int (S.1 0 i 19), .long (S.2.2 0 i 20), .ref (mAdM E 22 0), .ref (mAdM E 23 0), .ref (mAdM E 24 0), .ref (mAdM E 25 0), .ref (mAdM E 26 0), .ref (mAdM E 27 0), .ref (mAdM E 28 0), .ref (mAdM E 29 0), .ref (mAdM E 30 0), .ref (mAdM E 31 0), .ref (mAdM E 32 0), .ref (mAdM E 33 0), .ref (mAdM E 34 0), .ref (mAdM E 35 0), .ref (mAdM E 36 0), .ref (mAdM E 37 0), .ref (mAdM E 38 0)])
  | 1 => .inl (E.2.1 0, 400, .inl (fun j => (S.2.1 1 i j).toInt32))
  | 3 => .inl (E.2.1 0, 512, .inl (fun j => (S.2.1 3 i j).toInt32))
  | 5 => .inl (E.2.1 0, 1024, .inl (fun j => (S.2.1 5 i j).toInt32))
  | 7 => .inl (E.2.1 2, 8, .inr (.inl (fun j => S.2.2 7 i j)))
  | 8 => .inl (E.2.1 2, 64, .inr (.inl (fun j => S.2.2 8 i j)))
  | 9 => .inl (E.2.1 0, 32, .inl (fun j => (S.2.1 9 i j).toInt32))
  | 10 => .inl (E.2.1 0, 32, .inl (fun j => (S.2.1 10 i j).toInt32))
  | 11 => .inl (E.2.1 0, 1024, .inl (fun j => (S.2.1 11 i j).toInt32))
  | 13 => .inl (E.2.1 0, 32, .inl (fun j => (S.2.1 13 i j).toInt32))
  | 14 => .inl (E.2.1 0, 32, .inl (fun j => (S.2.1 14 i j).toInt32))
  | 15 => .inl (E.2.1 0, 32, .inl (fun j => (S.2.1 15 i j).toInt32))
  | 16 => .inl (E.2.1 0, 256, .inl (fun j => (S.2.1 16 i j).toInt32))
  | 22 => .inl (E.2.1 3, 4, .inl (fun j => S.1 22 i j))
  | 23 => .inl (E.2.1 0, 128, .inl (fun j => (S.2.1 23 i j).toInt32))
  | 24 => .inl (E.2.1 3, 4, .inl (fun j => S.1 24 i j))
  | 25 => .inl (E.2.1 3, 4, .inl (fun j => S.1 25 i j))
  | 26 => .inl (E.2.1 3, 4, .inl (fun j => S.1 26 i j))
  | 27 => .inl (E.2.1 3, 4, .inl (fun j => S.1 27 i j))
  | 28 => .inl (E.2.1 1, 4, .inl (fun j => S.1 28 i j))
  | 29 => .inl (E.2.1 1, 4, .inl (fun j => S.1 29 i j))
  | 30 => .inl (E.2.1 3, 12, .inl (fun j => S.1 30 i j))
  | 31 => .inl (E.2.1 0, 384, .inl (fun j => (S.2.1 31 i j).toInt32))
  | 32 => .inl (E.2.1 0, 384, .inl (fun j => (S.2.1 32 i j).toInt32))
  | 33 => .inl (E.2.1 0, 1536, .inl (fun j => (S.2.1 33 i j).toInt32))
  | 34 => .inl (E.2.1 1, 12, .inl (fun j => S.1 34 i j))
  | 35 => .inl (E.2.1 1, 12, .inl (fun j => S.1 35 i j))
  | 36 => .inl (E.2.1 3, 12, .inl (fun j => S.1 36 i j))
  | 37 => .inl (E.2.1 3, 12, .inl (fun j => S.1 37 i j))
  | 38 => .inl (E.2.1 0, 32, .inl (fun j => (S.2.1 38 i j).toInt32))
  | _ => .inr (0, [])
abbrev mLM : mLY := (mPM, mAdM, mWM)
theorem mGoodM : mGood mLM := by
  refine ⟨by decide +kernel, fun E S S' k i h1 h2 h3 => ?_⟩
  show mWM E S' k i = mWM E S k i
  match k with
  | 0 => simp only [mWM, h1, h2, h3]
  | 1 => simp only [mWM, h1, h2, h3]
  | 2 => simp only [mWM]
  | 3 => simp only [mWM, h1, h2, h3]
  | 4 => simp only [mWM]
  | 5 => simp only [mWM, h1, h2, h3]
  | 6 => simp only [mWM]
  | 7 => simp only [mWM, h1, h2, h3]
  | 8 => simp only [mWM, h1, h2, h3]
  | 9 => simp only [mWM, h1, h2, h3]
  | 10 => simp only [mWM, h1, h2, h3]
  | 11 => simp only [mWM, h1, h2, h3]
  | 12 => simp only [mWM]
  | 13 => simp only [mWM, h1, h2, h3]
  | 14 => simp only [mWM, h1, h2, h3]
  | 15 => simp only [mWM, h1, h2, h3]
  | 16 => simp only [mWM, h1, h2, h3]
  | 17 => simp only [mWM]
  | 18 => simp only [mWM]
  | 19 => simp only [mWM]
  | 20 => simp only [mWM]
  | 21 => simp only [mWM]
  | 22 => simp only [mWM, h1, h2, h3]
  | 23 => simp only [mWM, h1, h2, h3]
  | 24 => simp only [mWM, h1, h2, h3]
  | 25 => simp only [mWM, h1, h2, h3]
  | 26 => simp only [mWM, h1, h2, h3]
  | 27 => simp only [mWM, h1, h2, h3]
  | 28 => simp only [mWM, h1, h2, h3]
  | 29 => simp only [mWM, h1, h2, h3]
  | 30 => simp only [mWM, h1, h2, h3]
  | 31 => simp only [mWM, h1, h2, h3]
  | 32 => simp only [mWM, h1, h2, h3]
  | 33 => simp only [mWM, h1, h2, h3]
  | 34 => simp only [mWM, h1, h2, h3]
  | 35 => simp only [mWM, h1, h2, h3]
  | 36 => simp only [mWM, h1, h2, h3]
  | 37 => simp only [mWM, h1, h2, h3]
  | 38 => simp only [mWM, h1, h2, h3]
  | _ + 39 => simp only [mWM]
theorem okM_0 : (0, 0) ∈ mLM.1 := by decide +kernel
theorem okM_1 : (1, 0) ∈ mLM.1 := by decide +kernel
theorem okM_3 : (3, 0) ∈ mLM.1 := by decide +kernel
theorem okM_5 : (5, 0) ∈ mLM.1 := by decide +kernel
theorem okM_7 : (7, 0) ∈ mLM.1 := by decide +kernel
theorem okM_8 : (8, 0) ∈ mLM.1 := by decide +kernel
theorem okM_9 : (9, 0) ∈ mLM.1 := by decide +kernel
theorem okM_10 : (10, 0) ∈ mLM.1 := by decide +kernel
theorem okM_11 : (11, 0) ∈ mLM.1 := by decide +kernel
theorem okM_13 : (13, 0) ∈ mLM.1 := by decide +kernel
theorem okM_14 : (14, 0) ∈ mLM.1 := by decide +kernel
theorem okM_15 : (15, 0) ∈ mLM.1 := by decide +kernel
theorem okM_16 : (16, 0) ∈ mLM.1 := by decide +kernel
theorem okM_22 : (22, 0) ∈ mLM.1 := by decide +kernel
theorem okM_23 : (23, 0) ∈ mLM.1 := by decide +kernel
theorem okM_24 : (24, 0) ∈ mLM.1 := by decide +kernel
theorem okM_25 : (25, 0) ∈ mLM.1 := by decide +kernel
theorem okM_26 : (26, 0) ∈ mLM.1 := by decide +kernel
theorem okM_27 : (27, 0) ∈ mLM.1 := by decide +kernel
theorem okM_28 : (28, 0) ∈ mLM.1 := by decide +kernel
theorem okM_29 : (29, 0) ∈ mLM.1 := by decide +kernel
theorem okM_30 : (30, 0) ∈ mLM.1 := by decide +kernel
theorem okM_31 : (31, 0) ∈ mLM.1 := by decide +kernel
theorem okM_32 : (32, 0) ∈ mLM.1 := by decide +kernel
theorem okM_33 : (33, 0) ∈ mLM.1 := by decide +kernel
theorem okM_34 : (34, 0) ∈ mLM.1 := by decide +kernel
theorem okM_35 : (35, 0) ∈ mLM.1 := by decide +kernel
theorem okM_36 : (36, 0) ∈ mLM.1 := by decide +kernel
theorem okM_37 : (37, 0) ∈ mLM.1 := by decide +kernel
theorem okM_38 : (38, 0) ∈ mLM.1 := by decide +kernel
theorem isM_1 : mIsB mLM 1 0 400 := ⟨okM_1, by decide, fun _ _ => rfl⟩
theorem isM_3 : mIsB mLM 3 0 512 := ⟨okM_3, by decide, fun _ _ => rfl⟩
theorem isM_5 : mIsB mLM 5 0 1024 := ⟨okM_5, by decide, fun _ _ => rfl⟩
theorem isM_7 : mIsJ mLM 7 0 8 := ⟨okM_7, by decide, fun _ _ => rfl⟩
theorem isM_8 : mIsJ mLM 8 0 64 := ⟨okM_8, by decide, fun _ _ => rfl⟩
theorem isM_9 : mIsB mLM 9 0 32 := ⟨okM_9, by decide, fun _ _ => rfl⟩
theorem isM_10 : mIsB mLM 10 0 32 := ⟨okM_10, by decide, fun _ _ => rfl⟩
theorem isM_11 : mIsB mLM 11 0 1024 := ⟨okM_11, by decide, fun _ _ => rfl⟩
theorem isM_13 : mIsB mLM 13 0 32 := ⟨okM_13, by decide, fun _ _ => rfl⟩
theorem isM_14 : mIsB mLM 14 0 32 := ⟨okM_14, by decide, fun _ _ => rfl⟩
theorem isM_15 : mIsB mLM 15 0 32 := ⟨okM_15, by decide, fun _ _ => rfl⟩
theorem isM_16 : mIsB mLM 16 0 256 := ⟨okM_16, by decide, fun _ _ => rfl⟩
theorem isM_22 : mIsZ mLM 22 0 4 := ⟨okM_22, by decide, fun _ _ => rfl⟩
theorem isM_23 : mIsB mLM 23 0 128 := ⟨okM_23, by decide, fun _ _ => rfl⟩
theorem isM_24 : mIsZ mLM 24 0 4 := ⟨okM_24, by decide, fun _ _ => rfl⟩
theorem isM_25 : mIsZ mLM 25 0 4 := ⟨okM_25, by decide, fun _ _ => rfl⟩
theorem isM_26 : mIsZ mLM 26 0 4 := ⟨okM_26, by decide, fun _ _ => rfl⟩
theorem isM_27 : mIsZ mLM 27 0 4 := ⟨okM_27, by decide, fun _ _ => rfl⟩
theorem isM_28 : mIsI mLM 28 0 4 := ⟨okM_28, by decide, fun _ _ => rfl⟩
theorem isM_29 : mIsI mLM 29 0 4 := ⟨okM_29, by decide, fun _ _ => rfl⟩
theorem isM_30 : mIsZ mLM 30 0 12 := ⟨okM_30, by decide, fun _ _ => rfl⟩
theorem isM_31 : mIsB mLM 31 0 384 := ⟨okM_31, by decide, fun _ _ => rfl⟩
theorem isM_32 : mIsB mLM 32 0 384 := ⟨okM_32, by decide, fun _ _ => rfl⟩
theorem isM_33 : mIsB mLM 33 0 1536 := ⟨okM_33, by decide, fun _ _ => rfl⟩
theorem isM_34 : mIsI mLM 34 0 12 := ⟨okM_34, by decide, fun _ _ => rfl⟩
theorem isM_35 : mIsI mLM 35 0 12 := ⟨okM_35, by decide, fun _ _ => rfl⟩
theorem isM_36 : mIsZ mLM 36 0 12 := ⟨okM_36, by decide, fun _ _ => rfl⟩
theorem isM_37 : mIsZ mLM 37 0 12 := ⟨okM_37, by decide, fun _ _ => rfl⟩
theorem isM_38 : mIsB mLM 38 0 32 := ⟨okM_38, by decide, fun _ _ => rfl⟩
