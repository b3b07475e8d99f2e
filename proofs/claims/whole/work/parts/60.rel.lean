/-! ===== the class's state and the reference's: what they share ===== -/
def rTape (C M : mSt) : Prop := ∃ ts, bHas C 0 ts ∧ nHas 1 400 M ts
def rOut (C M : mSt) : Prop := ∃ os, bHas C 1 os ∧ nHas 3 512 M os
def rKey (C M : mSt) : Prop := ∀ j, j < 32 → C.2.1 11 0 j = M.2.1 14 0 j
def rOwn (C M : mSt) : Prop := ∀ j, j < 32 → C.2.1 12 0 j = M.2.1 15 0 j
def rSeed (C M : mSt) : Prop := ∀ j, j < 32 → C.2.1 8 0 j = M.2.1 13 0 j
def rNo (C : mSt) : Prop := ∀ j, j < 32 → C.2.1 13 0 j = (0 : Int32).toInt8
def rReg (C M : mSt) : Prop := ∀ j, j < 256 → C.2.1 16 0 j = M.2.1 16 0 j
def rNum (N : Nat) (C M : mSt) : Prop := C.1 0 0 13 = M.1 0 0 16 ∧ C.1 0 0 14 = M.1 0 0 17 ∧ C.1 0 0 15 = M.1 0 0 18 ∧ C.2.2 0 0 12 = M.2.2 0 0 20 ∧ (∃ c, c ≤ 2000000000 ∧ C.1 0 0 13 = nI c) ∧ ∃ f, f ≤ N ∧ C.1 0 0 15 = nI f
def rBlob (C M : mSt) : Prop := C.1 7 0 4 = M.1 0 0 19
def rCh (N : Nat) (C : mSt) : Prop := ∃ ch, ch ≤ 8 * N ∧ C.1 15 0 2 = nI ch
def rSes (N i : Nat) (C M : mSt) : Prop := C.1 19 i 1 = M.1 22 0 i ∧ (¬ C.1 19 i 1 = 0 → (∀ j, j < 32 → C.2.1 20 i j = M.2.1 23 0 (32 * i + j)) ∧ C.1 19 i 2 = M.1 26 0 i ∧ C.1 19 i 3 = M.1 28 0 i ∧ (C.1 19 i 4 = 0 ↔ M.1 24 0 i = 0) ∧ C.1 19 i 6 = M.1 27 0 i ∧ (¬ C.1 19 i 6 = 0 → C.1 19 i 7 = M.1 29 0 i) ∧ (C.1 19 i 4 = 0 → M.1 25 0 i = 0) ∧ (¬ C.1 19 i 4 = 0 → ∃ ct ch, ct ≤ ch ∧ ch ≤ 8 * N ∧ C.1 15 0 2 = nI ch ∧ C.1 19 i 5 = nI ct ∧ (M.1 25 0 i = 0 ↔ ct = ch)))
def rTh (t : Nat) (C M : mSt) : Prop := C.1 22 t 3 = M.1 30 0 t ∧ (¬ C.1 22 t 3 = 0 → (∀ j, j < 32 → C.2.1 23 t j = M.2.1 31 0 (32 * t + j)) ∧ (∀ j, j < 32 → C.2.1 24 t j = M.2.1 32 0 (32 * t + j)) ∧ ∃ n, n ≤ mLn (3 + t) ∧ C.1 2 (3 + t) 1 = nI n ∧ M.1 34 0 t = nI n ∧ ∀ j, j < n → C.2.1 3 (3 + t) j = M.2.1 33 0 (128 * t + j))
def rVal (v : Nat) (C M : mSt) : Prop := ¬ C.1 22 (4 + v) 3 = 0 → C.1 26 v 1 = M.1 35 0 (4 + v) ∧ C.1 26 v 2 = M.1 36 0 (4 + v) ∧ C.1 26 v 3 = M.1 37 0 (4 + v) ∧ (C.1 26 v 1 = 1 → C.1 2 (3 + (4 + v)) 1 = nI 8 ∧ (¬ C.1 26 v 2 = 0 → lx8 (fun q => M.2.1 33 0 (128 * (4 + v) + q)) 8 = C.2.2 26 v 4)) ∧ (C.1 26 v 1 = 2 → C.1 2 (3 + (4 + v)) 1 = nI 32)
def Rel0 (N : Nat) (C M : mSt) : Prop := rOut C M ∧ rKey C M ∧ rOwn C M ∧ rSeed C M ∧ rNo C ∧ rReg C M ∧ rNum N C M ∧ rBlob C M ∧ rCh N C ∧ (∀ i, i < 4 → rSes N i C M) ∧ (∀ t, t < 12 → rTh t C M) ∧ ∀ v, v < 8 → rVal v C M
def Rel (N : Nat) (C M : mSt) : Prop := rTape C M ∧ Rel0 N C M
theorem bHas.kp {X : Nat → Nat → Prop} {S S' : mSt} {i : Nat} {xs : List Int8} (h : bHas S i xs) (hs : mSame X S S') (h2 : ¬ X 2 i) (h3 : ¬ X 3 i) : bHas S' i xs := ⟨((hs 2 i h2).1 1).trans h.1, h.2.1, fun j hj => ((hs 3 i h3).2.1 j).trans (h.2.2 j hj)⟩
section RKP
variable {X Y : Nat → Nat → Prop} {N : Nat} {C C' M M' : mSt}
theorem rTape.kp (h : rTape C M) (hC : mSame X C C') (hM : nSame Y M M') (a : ¬ X 2 0 ∧ ¬ X 3 0) (b : ¬ Y 0 1 ∧ ∀ j, ¬ Y 1 j) : rTape C' M' := by
  obtain ⟨ts, h1, h2⟩ := h
  exact ⟨ts, h1.kp hC a.1 a.2, h2.keep hM b.1 b.2⟩
theorem rOut.kp (h : rOut C M) (hC : mSame X C C') (hM : nSame Y M M') (a : ¬ X 2 1 ∧ ¬ X 3 1) (b : ¬ Y 0 3 ∧ ∀ j, ¬ Y 3 j) : rOut C' M' := by
  obtain ⟨ts, h1, h2⟩ := h
  exact ⟨ts, h1.kp hC a.1 a.2, h2.keep hM b.1 b.2⟩
theorem rKey.kp (h : rKey C M) (hC : mSame X C C') (hM : nSame Y M M') (a : ¬ X 11 0) (b : ∀ j, ¬ Y 14 j) : rKey C' M' := fun j hj => ((hC 11 0 a).2.1 j).trans ((h j hj).trans (hM 14 j (b j)).2.1.symm)
theorem rOwn.kp (h : rOwn C M) (hC : mSame X C C') (hM : nSame Y M M') (a : ¬ X 12 0) (b : ∀ j, ¬ Y 15 j) : rOwn C' M' := fun j hj => ((hC 12 0 a).2.1 j).trans ((h j hj).trans (hM 15 j (b j)).2.1.symm)
theorem rSeed.kp (h : rSeed C M) (hC : mSame X C C') (hM : nSame Y M M') (a : ¬ X 8 0) (b : ∀ j, ¬ Y 13 j) : rSeed C' M' := fun j hj => ((hC 8 0 a).2.1 j).trans ((h j hj).trans (hM 13 j (b j)).2.1.symm)
theorem rNo.kp (h : rNo C) (hC : mSame X C C') (a : ¬ X 13 0) : rNo C' := fun j hj => ((hC 13 0 a).2.1 j).trans (h j hj)
theorem rReg.kp (h : rReg C M) (hC : mSame X C C') (hM : nSame Y M M') (a : ¬ X 16 0) (b : ∀ j, ¬ Y 16 j) : rReg C' M' := fun j hj => ((hC 16 0 a).2.1 j).trans ((h j hj).trans (hM 16 j (b j)).2.1.symm)
theorem rNum.kp (h : rNum N C M) (hC : mSame X C C') (hM : nSame Y M M') (a : ¬ X 0 0) (b : ¬ Y 0 16 ∧ ¬ Y 0 17 ∧ ¬ Y 0 18 ∧ ¬ Y 0 20) : rNum N C' M' := by
  obtain ⟨h1, h2, h3, h4, ⟨c, hc, e⟩, f, hf, ef⟩ := h
  have q := hC 0 0 a
  exact ⟨(q.1 13).trans (h1.trans (hM 0 16 b.1).1.symm), (q.1 14).trans (h2.trans (hM 0 17 b.2.1).1.symm), (q.1 15).trans (h3.trans (hM 0 18 b.2.2.1).1.symm), (q.2.2 12).trans (h4.trans (hM 0 20 b.2.2.2).2.2.symm), ⟨c, hc, (q.1 13).trans e⟩, f, hf, (q.1 15).trans ef⟩
theorem rBlob.kp (h : rBlob C M) (hC : mSame X C C') (hM : nSame Y M M') (a : ¬ X 7 0) (b : ¬ Y 0 19) : rBlob C' M' := ((hC 7 0 a).1 4).trans (h.trans (hM 0 19 b).1.symm)
theorem rCh.kp (h : rCh N C) (hC : mSame X C C') (a : ¬ X 15 0) : rCh N C' := by
  obtain ⟨ch, h1, h2⟩ := h
  exact ⟨ch, h1, ((hC 15 0 a).1 2).trans h2⟩
theorem rSes.kp {i : Nat} (h : rSes N i C M) (hC : mSame X C C') (hM : nSame Y M M') (a : ¬ X 19 i ∧ ¬ X 20 i ∧ ¬ X 15 0) (b : ∀ k j, seM i k j → ¬ Y k j) : rSes N i C' M' := by
  obtain ⟨h1, h2⟩ := h
  have q := (hC 19 i a.1).1
  have q5 := (hC 15 0 a.2.2).1 2
  have m : ∀ k, (k = 22 ∨ k = 24 ∨ k = 25 ∨ k = 26 ∨ k = 27 ∨ k = 28 ∨ k = 29) → M'.1 k 0 i = M.1 k 0 i := fun k hk => (hM k i (b k i (Or.inr ⟨hk, rfl⟩))).1
  refine ⟨(q 1).trans (h1.trans (m 22 (by simp)).symm), fun ho => ?_⟩
  rw [q 1] at ho
  obtain ⟨d, e2, e3, e4, e6, e7, e8, e9⟩ := h2 ho
  rw [q 2, q 3, q 4, q 5, q 6, q 7, q5, m 26 (by simp), m 28 (by simp), m 24 (by simp), m 27 (by simp), m 29 (by simp), m 25 (by simp)]
  exact ⟨fun j hj => ((hC 20 i a.2.1).2.1 j).trans ((d j hj).trans (hM 23 (32 * i + j) (b _ _ (Or.inl ⟨rfl, by omega, by omega⟩))).2.1.symm), e2, e3, e4, e6, e7, e8, e9⟩
def thM (t : Nat) : Nat → Nat → Prop := fun k j => ((k = 30 ∨ k = 34) ∧ j = t) ∨ ((k = 31 ∨ k = 32) ∧ 32 * t ≤ j ∧ j < 32 * t + 32) ∨ (k = 33 ∧ 128 * t ≤ j ∧ j < 128 * t + 128)
theorem mLn_le (i : Nat) (h : 3 ≤ i) : mLn i ≤ 128 := by
  unfold mLn
  rw [if_neg (by omega), if_neg (by omega), if_neg (by omega)]
  split <;> omega
theorem rTh.kp {t : Nat} (h : rTh t C M) (hC : mSame X C C') (hM : nSame Y M M') (a : ¬ X 22 t ∧ ¬ X 23 t ∧ ¬ X 24 t ∧ ¬ X 2 (3 + t) ∧ ¬ X 3 (3 + t)) (b : ∀ k j, thM t k j → ¬ Y k j) : rTh t C' M' := by
  obtain ⟨h1, h2⟩ := h
  have q := (hC 22 t a.1).1 3
  refine ⟨q.trans (h1.trans (hM 30 t (b _ _ (Or.inl ⟨Or.inl rfl, rfl⟩))).1.symm), fun ho => ?_⟩
  rw [q] at ho
  obtain ⟨d, e, n, hn, c1, c2, c3⟩ := h2 ho
  have hl := mLn_le (3 + t) (by omega)
  exact ⟨fun j hj => ((hC 23 t a.2.1).2.1 j).trans ((d j hj).trans (hM 31 _ (b _ _ (Or.inr (Or.inl ⟨Or.inl rfl, by omega, by omega⟩)))).2.1.symm), fun j hj => ((hC 24 t a.2.2.1).2.1 j).trans ((e j hj).trans (hM 32 _ (b _ _ (Or.inr (Or.inl ⟨Or.inr rfl, by omega, by omega⟩)))).2.1.symm), n, hn, ((hC 2 _ a.2.2.2.1).1 1).trans c1, (hM 34 t (b _ _ (Or.inl ⟨Or.inr rfl, rfl⟩))).1.trans c2, fun j hj => ((hC 3 _ a.2.2.2.2).2.1 j).trans ((c3 j hj).trans (hM 33 _ (b _ _ (Or.inr (Or.inr ⟨rfl, by omega, by omega⟩)))).2.1.symm)⟩
theorem lx8_cg {f g : Nat → Int8} (n : Nat) (h : ∀ j, j < n → f j = g j) : lx8 f n = lx8 g n := by
  induction n with
  | zero => rfl
  | succ n ih =>
    show (lx8 f n <<< _) ||| _ = (lx8 g n <<< _) ||| _
    rw [ih (fun j hj => h j (by omega)), h n (by omega)]
def vaM (v : Nat) : Nat → Nat → Prop := fun k j => ((k = 35 ∨ k = 36 ∨ k = 37) ∧ j = 4 + v) ∨ (k = 33 ∧ 128 * (4 + v) ≤ j ∧ j < 128 * (4 + v) + 8)
theorem rVal.kp {v : Nat} (h : rVal v C M) (hC : mSame X C C') (hM : nSame Y M M') (a : ¬ X 22 (4 + v) ∧ ¬ X 26 v ∧ ¬ X 2 (3 + (4 + v))) (b : ∀ k j, vaM v k j → ¬ Y k j) : rVal v C' M' := by
  intro ho
  rw [(hC 22 _ a.1).1 3] at ho
  obtain ⟨e1, e2, e3, e4, e5⟩ := h ho
  have q := hC 26 v a.2.1
  have m : ∀ k, (k = 35 ∨ k = 36 ∨ k = 37) → M'.1 k 0 (4 + v) = M.1 k 0 (4 + v) := fun k hk => (hM k _ (b k _ (Or.inl ⟨hk, rfl⟩))).1
  rw [q.1 1, q.1 2, q.1 3, q.2.2 4, (hC 2 _ a.2.2).1 1, m 35 (by simp), m 36 (by simp), m 37 (by simp)]
  refine ⟨e1, e2, e3, fun hk => ⟨(e4 hk).1, fun hw => ?_⟩, e5⟩
  rw [← (e4 hk).2 hw]
  exact lx8_cg 8 (fun j hj => (hM 33 _ (b _ _ (Or.inr ⟨rfl, by omega, by omega⟩))).2.1)
end RKP
theorem rSes.mono {N N' i : Nat} {C M : mSt} (h : rSes N i C M) (hN : N ≤ N') : rSes N' i C M := by
  obtain ⟨h1, h2⟩ := h
  refine ⟨h1, fun ho => ?_⟩
  obtain ⟨d, e2, e3, e4, e6, e7, e8, e9⟩ := h2 ho
  refine ⟨d, e2, e3, e4, e6, e7, e8, fun q => ?_⟩
  obtain ⟨ct, ch, p1, p2, p3⟩ := e9 q
  exact ⟨ct, ch, p1, by omega, p3⟩
theorem rNum.mono {N N' : Nat} {C M : mSt} (h : rNum N C M) (hN : N ≤ N') : rNum N' C M := by
  obtain ⟨h1, h2, h3, h4, h5, f, hf, ef⟩ := h
  exact ⟨h1, h2, h3, h4, h5, f, by omega, ef⟩
theorem rCh.mono {N N' : Nat} {C : mSt} (h : rCh N C) (hN : N ≤ N') : rCh N' C := by
  obtain ⟨ch, h1, h2⟩ := h
  exact ⟨ch, by omega, h2⟩
theorem Rel0.mono {N N' : Nat} {C M : mSt} (h : Rel0 N C M) (hN : N ≤ N') : Rel0 N' C M := by
  obtain ⟨r1, r2, r3, r4, r5, r6, r7, r8, r9, r10, r11, r12⟩ := h
  exact ⟨r1, r2, r3, r4, r5, r6, r7.mono hN, r8, r9.mono hN, fun i hi => (r10 i hi).mono hN, r11, r12⟩
/-- all is kept -/
def reC (k i : Nat) : Prop := (k = 0 ∧ i = 0) ∨ (k = 2 ∧ ¬ i = 2 ∧ ¬ i = 0) ∨ (k = 3 ∧ ¬ i = 2 ∧ ¬ i = 0) ∨ k = 7 ∨ k = 8 ∨ k = 11 ∨ k = 12 ∨ k = 13 ∨ k = 15 ∨ k = 16 ∨ k = 19 ∨ k = 20 ∨ k = 22 ∨ k = 23 ∨ k = 24 ∨ k = 26
def reM (k j : Nat) : Prop := (k = 0 ∧ (j = 3 ∨ j = 16 ∨ j = 17 ∨ j = 18 ∨ j = 19 ∨ j = 20)) ∨ k = 3 ∨ k = 13 ∨ k = 14 ∨ k = 15 ∨ k = 16 ∨ (22 ≤ k ∧ k ≤ 37)
theorem Rel0.kp {X Y : Nat → Nat → Prop} {N : Nat} {C C' M M' : mSt} (h : Rel0 N C M) (hC : mSame X C C') (hM : nSame Y M M') (a : ∀ k i, reC k i → ¬ X k i) (b : ∀ k j, reM k j → ¬ Y k j) : Rel0 N C' M' := by
  obtain ⟨r1, r2, r3, r4, r5, r6, r7, r8, r9, r10, r11, r12⟩ := h
  refine ⟨r1.kp hC hM ⟨a _ _ (by simp [reC]), a _ _ (by simp [reC])⟩ ⟨b _ _ (by simp [reM]), fun j => b _ _ (by simp [reM])⟩, r2.kp hC hM (a _ _ (by simp [reC])) (fun j => b _ _ (by simp [reM])), r3.kp hC hM (a _ _ (by simp [reC])) (fun j => b _ _ (by simp [reM])), r4.kp hC hM (a _ _ (by simp [reC])) (fun j => b _ _ (by simp [reM])), r5.kp hC (a _ _ (by simp [reC])), r6.kp hC hM (a _ _ (by simp [reC])) (fun j => b _ _ (by simp [reM])), r7.kp hC hM (a _ _ (by simp [reC])) ⟨b _ _ (by simp [reM]), b _ _ (by simp [reM]), b _ _ (by simp [reM]), b _ _ (by simp [reM])⟩, r8.kp hC hM (a _ _ (by simp [reC])) (b _ _ (by simp [reM])), r9.kp hC (a _ _ (by simp [reC])), fun i hi => (r10 i hi).kp hC hM ⟨a _ _ (by simp [reC]), a _ _ (by simp [reC]), a _ _ (by simp [reC])⟩ (fun k j h => b k j (by simp only [seM, reM] at h ⊢; omega)), fun t ht => (r11 t ht).kp hC hM ⟨a _ _ (by simp [reC]), a _ _ (by simp [reC]), a _ _ (by simp [reC]), a _ _ (by unfold reC; omega), a _ _ (by unfold reC; omega)⟩ (fun k j h => b k j (by simp only [thM, reM] at h ⊢; omega)), fun v hv => (r12 v hv).kp hC hM ⟨a _ _ (by simp [reC]), a _ _ (by simp [reC]), a _ _ (by unfold reC; omega)⟩ (fun k j h => b k j (by simp only [vaM, reM] at h ⊢; omega))⟩
/-- the numbers name the same things -/
theorem seO_eq {N : Nat} {C M : mSt} (h : Rel0 N C M) (x : Int32) : seO C x = msO M x := opO_congr (f := fun i => C.1 19 i 1) (g := fun i => M.1 22 0 i) (by decide) (fun i hi => (h.2.2.2.2.2.2.2.2.2.1 i hi).1) x
theorem obO_eq {N : Nat} {C M : mSt} (h : Rel0 N C M) (x : Int32) : obO C x = moO M x := opO_congr (f := fun i => C.1 22 i 3) (g := fun i => M.1 30 0 i) (by decide) (fun i hi => (h.2.2.2.2.2.2.2.2.2.2.1 i (by omega)).1) x
theorem vaO_eq {N : Nat} {C M : mSt} (h : Rel0 N C M) (x : Int32) : vaO C x = opO (fun i => M.1 30 0 (4 + i)) 8 x := opO_congr (f := fun i => C.1 22 (4 + i) 3) (g := fun i => M.1 30 0 (4 + i)) (by decide) (fun i hi => (h.2.2.2.2.2.2.2.2.2.2.1 (4 + i) (by omega)).1) x
theorem mtO_m {N : Nat} {C M : mSt} (h : Rel0 N C M) (x : Int32) : vaO C x = mtO M x (-1) := by
  rw [vaO_eq h]
  unfold mtO
  cases opO (fun i => M.1 30 0 (4 + i)) 8 x with
  | none => rfl
  | some i =>
    show some i = if (-1 : Int32) < 0 ∨ M.1 35 0 (4 + i) = -1 then some i else none
    rw [if_pos (Or.inl (by decide))]
theorem voO_eq {N : Nat} {C M : mSt} (h : Rel0 N C M) (x : Int32) {kd : Int32} (hk : ¬ kd < 0) : voO C x kd = mtO M x kd := by
  unfold voO mtO
  rw [← vaO_eq h]
  cases e : vaO C x with
  | none => rfl
  | some i =>
    obtain ⟨-, hi, ho⟩ := vaO_some e
    have q := (h.2.2.2.2.2.2.2.2.2.2.2 i hi ho).1
    show (if C.1 26 i 1 = kd then some i else none) = if kd < 0 ∨ M.1 35 0 (4 + i) = kd then some i else none
    rw [q]
    by_cases e2 : M.1 35 0 (4 + i) = kd
    · rw [if_pos e2, if_pos (Or.inr e2)]
    · rw [if_neg e2, if_neg (fun z => z.elim hk e2)]
theorem poO_eq {N : Nat} {C M : mSt} (h : Rel0 N C M) {x : Int32} {k i : Nat} (hp : poO C x = some (k, i)) : mpOk M x ∧ ∀ j, j < 32 → C.2.1 k i j = mpF M x j := by
  rcases poO_some hp with ⟨rfl, rfl, rfl⟩ | ⟨hx, rfl, hs⟩
  · exact ⟨Or.inl rfl, fun j hj => (h.2.2.2.2.1 j hj).trans mpF_m.symm⟩
  · obtain ⟨hxi, hi, ho⟩ := seO_some hs
    rw [seO_eq h] at hs
    refine ⟨Or.inr (by rw [hs]; rfl), fun j hj => ?_⟩
    rw [hxi, mpF_s hi]
    exact ((h.2.2.2.2.2.2.2.2.2.1 i hi).2 ho).1 j hj
theorem poO_no {N : Nat} {C M : mSt} (h : Rel0 N C M) {x : Int32} (hp : poO C x = none) : ¬ mpOk M x := by
  unfold poO at hp
  by_cases hx : x = -1
  · rw [if_pos hx] at hp
    cases hp
  · rw [if_neg hx] at hp
    rintro (q | q)
    · exact hx q
    · rw [seO_eq h] at hp
      cases e : msO M x with
      | none => rw [e] at q; cases q
      | some i => rw [e] at hp; cases hp
theorem mEq_cg {f f' g g' : Nat → Int8} {a b : Nat} (hf : ∀ j, j < 32 → f j = f' j) (hg : ∀ j, j < 32 → g (a + j) = g' (b + j)) : mEq f g a = mEq f' g' b := by
  rw [Bool.eq_iff_iff, mEq_iff, mEq_iff]
  exact ⟨fun h j hj => (hf j hj).symm.trans ((h j hj).trans (hg j hj)), fun h j hj => (hf j hj).trans ((h j hj).trans (hg j hj).symm)⟩
