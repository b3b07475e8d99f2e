/-! ===== comparing keys, asking ===== -/
theorem Rel0.fail {N N' : Nat} {C M : mSt} (h0 : Rel0 N C M) (hN : N ≤ N') {v : Int32} {f : Nat} (hf : f ≤ N') (hv : v = nI f) : Rel0 N' (mM C 0 0 15 v) (mM M 0 0 18 v) := by
  obtain ⟨r1, r2, r3, r4, r5, r6, r7, r8, r9, r10, r11, r12⟩ := h0
  have hC : mSame (fun k i => k = 0 ∧ i = 0) C (mM C 0 0 15 v) := mSame.M ⟨rfl, rfl⟩
  have hM : nSame (fun k j => k = 0 ∧ j = 18) M (mM M 0 0 18 v) := nSame.M ⟨rfl, rfl⟩
  exact ⟨r1.kp hC hM ⟨(fun hh => by (try simp [scX, hsX, bX, seX, obX, vaX] at hh) <;> omega), (fun hh => by (try simp [scX, hsX, bX, seX, obX, vaX] at hh) <;> omega)⟩ ⟨(fun hh => by (try simp [scM, nX, hX, seM, rsX, dfX, ldX] at hh) <;> omega), fun j => (fun hh => by (try simp [scM, nX, hX, seM, rsX, dfX, ldX] at hh) <;> omega)⟩,
    r2.kp hC hM (fun hh => by (try simp [scX, hsX, bX, seX, obX, vaX] at hh) <;> omega) (fun j => (fun hh => by (try simp [scM, nX, hX, seM, rsX, dfX, ldX] at hh) <;> omega)),
    r3.kp hC hM (fun hh => by (try simp [scX, hsX, bX, seX, obX, vaX] at hh) <;> omega) (fun j => (fun hh => by (try simp [scM, nX, hX, seM, rsX, dfX, ldX] at hh) <;> omega)),
    r4.kp hC hM (fun hh => by (try simp [scX, hsX, bX, seX, obX, vaX] at hh) <;> omega) (fun j => (fun hh => by (try simp [scM, nX, hX, seM, rsX, dfX, ldX] at hh) <;> omega)),
    r5.kp hC (fun hh => by (try simp [scX, hsX, bX, seX, obX, vaX] at hh) <;> omega),
    r6.kp hC hM (fun hh => by (try simp [scX, hsX, bX, seX, obX, vaX] at hh) <;> omega) (fun j => (fun hh => by (try simp [scM, nX, hX, seM, rsX, dfX, ldX] at hh) <;> omega)),
    ⟨by simpa [mM, m3] using r7.1, by simpa [mM, m3] using r7.2.1, by simp [mM, m3], r7.2.2.2.1, by simpa [mM, m3] using r7.2.2.2.2.1, f, hf, by simpa [mM, m3] using hv⟩,
    r8.kp hC hM (fun hh => by (try simp [scX, hsX, bX, seX, obX, vaX] at hh) <;> omega) (fun hh => by (try simp [scM, nX, hX, seM, rsX, dfX, ldX] at hh) <;> omega),
    (r9.kp hC (fun hh => by (try simp [scX, hsX, bX, seX, obX, vaX] at hh) <;> omega)).mono hN,
    fun i hi => ((r10 i hi).kp hC hM ⟨(fun hh => by (try simp [scX, hsX, bX, seX, obX, vaX] at hh) <;> omega), (fun hh => by (try simp [scX, hsX, bX, seX, obX, vaX] at hh) <;> omega), (fun hh => by (try simp [scX, hsX, bX, seX, obX, vaX] at hh) <;> omega)⟩ (fun k j h hh => by simp only [seM, thM, vaM, scM, nX, hX, rsX, dfX, ldX] at h hh; omega)).mono hN,
    fun t ht => (r11 t ht).kp hC hM ⟨(fun hh => by (try simp [scX, hsX, bX, seX, obX, vaX] at hh) <;> omega), (fun hh => by (try simp [scX, hsX, bX, seX, obX, vaX] at hh) <;> omega), (fun hh => by (try simp [scX, hsX, bX, seX, obX, vaX] at hh) <;> omega), (fun hh => by (try simp [scX, hsX, bX, seX, obX, vaX] at hh) <;> omega), (fun hh => by (try simp [scX, hsX, bX, seX, obX, vaX] at hh) <;> omega)⟩ (fun k j h hh => by simp only [seM, thM, vaM, scM, nX, hX, rsX, dfX, ldX] at h hh; omega),
    fun v hv => (r12 v hv).kp hC hM ⟨(fun hh => by (try simp [scX, hsX, bX, seX, obX, vaX] at hh) <;> omega), (fun hh => by (try simp [scX, hsX, bX, seX, obX, vaX] at hh) <;> omega), (fun hh => by (try simp [scX, hsX, bX, seX, obX, vaX] at hh) <;> omega)⟩ (fun k j h hh => by simp only [seM, thM, vaM, scM, nX, hX, rsX, dfX, ldX] at h hh; omega)⟩
theorem rl_ak {N : Nat} {C M : mSt} (h0 : Rel0 N C M) {f g : Nat → Int8} {a : Nat} (hfg : ∀ j, j < 32 → f j = g (a + j)) : akR C f = mkR M g a ∧ Rel0 (N + 1) (akS C f) (mkS M g a) := by
  have e15 := h0.2.2.2.2.2.2.1.2.2.1
  obtain ⟨fl, hfl, efl⟩ := h0.2.2.2.2.2.2.1.2.2.2.2.2
  have hm : mEq (C.2.1 11 0) f 0 = mEq (M.2.1 14 0) g a := mEq_cg h0.2.1 (fun j hj => by rw [Nat.zero_add]; exact hfg j hj)
  unfold akR akS mkR mkS
  rw [hm, e15]
  by_cases h1 : M.1 0 0 18 < 4
  · simp only [if_pos h1]
    by_cases h2 : mEq (M.2.1 14 0) g a = true
    · simp only [if_pos h2]
      exact ⟨trivial, h0.mono (Nat.le_succ _)⟩
    · simp only [if_neg h2]
      exact ⟨trivial, h0.fail (Nat.le_succ _) (f := fl + 1) (by omega) (by rw [← e15, efl]; exact nI_s fl)⟩
  · simp only [if_neg h1]
    exact ⟨trivial, h0.mono (Nat.le_succ _)⟩
theorem Rel0.close {N : Nat} {C M : mSt} (h0 : Rel0 N C M) (i : Nat) (hi4 : i < 4) : Rel0 N (mM C 19 i 1 0) (mM M 22 0 i 0) := by
  obtain ⟨r1, r2, r3, r4, r5, r6, r7, r8, r9, r10, r11, r12⟩ := h0
  have hC : mSame (fun k i' => k = 19 ∧ i' = i) C (mM C 19 i 1 0) := mSame.M ⟨rfl, rfl⟩
  have hM : nSame (fun k j => k = 22 ∧ j = i) M (mM M 22 0 i 0) := nSame.M ⟨rfl, rfl⟩
  exact ⟨r1.kp hC hM ⟨(fun hh => by (try simp [scX, hsX, bX, seX, obX, vaX] at hh) <;> omega), (fun hh => by (try simp [scX, hsX, bX, seX, obX, vaX] at hh) <;> omega)⟩ ⟨(fun hh => by (try simp [scM, nX, hX, seM, rsX, dfX, ldX] at hh) <;> omega), fun j => (fun hh => by (try simp [scM, nX, hX, seM, rsX, dfX, ldX] at hh) <;> omega)⟩,
    r2.kp hC hM (fun hh => by (try simp [scX, hsX, bX, seX, obX, vaX] at hh) <;> omega) (fun j => (fun hh => by (try simp [scM, nX, hX, seM, rsX, dfX, ldX] at hh) <;> omega)),
    r3.kp hC hM (fun hh => by (try simp [scX, hsX, bX, seX, obX, vaX] at hh) <;> omega) (fun j => (fun hh => by (try simp [scM, nX, hX, seM, rsX, dfX, ldX] at hh) <;> omega)),
    r4.kp hC hM (fun hh => by (try simp [scX, hsX, bX, seX, obX, vaX] at hh) <;> omega) (fun j => (fun hh => by (try simp [scM, nX, hX, seM, rsX, dfX, ldX] at hh) <;> omega)),
    r5.kp hC (fun hh => by (try simp [scX, hsX, bX, seX, obX, vaX] at hh) <;> omega),
    r6.kp hC hM (fun hh => by (try simp [scX, hsX, bX, seX, obX, vaX] at hh) <;> omega) (fun j => (fun hh => by (try simp [scM, nX, hX, seM, rsX, dfX, ldX] at hh) <;> omega)),
    (r7.kp hC hM (fun hh => by (try simp [scX, hsX, bX, seX, obX, vaX] at hh) <;> omega) ⟨(fun hh => by (try simp [scM, nX, hX, seM, rsX, dfX, ldX] at hh) <;> omega), (fun hh => by (try simp [scM, nX, hX, seM, rsX, dfX, ldX] at hh) <;> omega), (fun hh => by (try simp [scM, nX, hX, seM, rsX, dfX, ldX] at hh) <;> omega), (fun hh => by (try simp [scM, nX, hX, seM, rsX, dfX, ldX] at hh) <;> omega)⟩),
    r8.kp hC hM (fun hh => by (try simp [scX, hsX, bX, seX, obX, vaX] at hh) <;> omega) (fun hh => by (try simp [scM, nX, hX, seM, rsX, dfX, ldX] at hh) <;> omega),
    (r9.kp hC (fun hh => by (try simp [scX, hsX, bX, seX, obX, vaX] at hh) <;> omega)),
    fun i' hi => by
      by_cases e : i' = i
      · subst e
        exact ⟨by simp [mM, m3], fun q => absurd (by simp [mM, m3]) q⟩
      · exact (r10 i' hi).kp hC hM ⟨(fun hh => by (try simp [scX, hsX, bX, seX, obX, vaX] at hh) <;> omega), (fun hh => by (try simp [scX, hsX, bX, seX, obX, vaX] at hh) <;> omega), (fun hh => by (try simp [scX, hsX, bX, seX, obX, vaX] at hh) <;> omega)⟩ (fun k j h hh => by simp only [seM, thM, vaM, scM, nX, hX, rsX, dfX, ldX] at h hh; omega),
    fun t ht => (r11 t ht).kp hC hM ⟨(fun hh => by (try simp [scX, hsX, bX, seX, obX, vaX] at hh) <;> omega), (fun hh => by (try simp [scX, hsX, bX, seX, obX, vaX] at hh) <;> omega), (fun hh => by (try simp [scX, hsX, bX, seX, obX, vaX] at hh) <;> omega), (fun hh => by (try simp [scX, hsX, bX, seX, obX, vaX] at hh) <;> omega), (fun hh => by (try simp [scX, hsX, bX, seX, obX, vaX] at hh) <;> omega)⟩ (fun k j h hh => by simp only [seM, thM, vaM, scM, nX, hX, rsX, dfX, ldX] at h hh; omega),
    fun v hv => (r12 v hv).kp hC hM ⟨(fun hh => by (try simp [scX, hsX, bX, seX, obX, vaX] at hh) <;> omega), (fun hh => by (try simp [scX, hsX, bX, seX, obX, vaX] at hh) <;> omega), (fun hh => by (try simp [scX, hsX, bX, seX, obX, vaX] at hh) <;> omega)⟩ (fun k j h hh => by simp only [seM, thM, vaM, scM, nX, hX, rsX, dfX, ldX] at h hh; omega)⟩
theorem rl_ask {N : Nat} {C M : mSt} (h0 : Rel0 N C M) (hN : N ≤ 1000) {t : Nat} (ht : t < 12) (hp : ¬ C.1 22 t 3 = 0) (x co : Int32) : (askP C t x co).1 = (mbP M t x co).1 ∧ Rel0 (N + 1) (askP C t x co).2 (mbP M t x co).2 := by
  have h0' := h0
  obtain ⟨r1, r2, r3, r4, r5, r6, r7, r8, r9, r10, r11, r12⟩ := h0
  obtain ⟨ha, hpo, -⟩ := (r11 t ht).2 hp
  have hak := rl_ak h0' (f := C.2.1 23 t) (g := M.2.1 31 0) (a := 32 * t) ha
  unfold askP mbP
  by_cases hx : x = -1
  · simp only [if_pos hx]
    exact hak
  simp only [if_neg hx]
  rw [seO_eq h0']
  cases e : msO M x with
  | none => exact ⟨rfl, h0'.mono (Nat.le_succ _)⟩
  | some i =>
    show (askQ C t i co).1 = (mbQ M t i co).1 ∧ Rel0 (N + 1) (askQ C t i co).2 (mbQ M t i co).2
    obtain ⟨hxi, hi, ho⟩ := opO_some (by decide) e
    have ho' : ¬ C.1 19 i 1 = 0 := by rw [(r10 i hi).1]; exact ho
    obtain ⟨d, e2, e3, e4, e6, e7, e8, e9⟩ := (r10 i hi).2 ho'
    have q1 : mEq (C.2.1 24 t) (C.2.1 13 0) 0 = mZ (M.2.1 32 0) (32 * t) := mEq_cg hpo (fun j hj => by rw [Nat.zero_add]; exact r5 j hj)
    have q2 : mEq (C.2.1 24 t) (C.2.1 20 i) 0 = nEq (M.2.1 32 0) (M.2.1 23 0) (32 * t) (32 * i) := mEq_cg hpo (fun j hj => by rw [Nat.zero_add]; exact d j hj)
    have q3 : stOkB C i (C.1 15 0 2) co (C.1 0 0 13) = mOkB M i co := by
      rw [Bool.eq_iff_iff, stOkB_iff, mOkB_iff, e3, e6, r7.1]
      refine and_congr ?_ (and_congr Iff.rfl ?_)
      · by_cases z : C.1 19 i 4 = 0
        · exact ⟨fun _ => Or.inl (e4.mp z), fun _ => Or.inl z⟩
        · obtain ⟨ct, ch, p1, p2, p3, p4, p5⟩ := e9 z
          rw [p3, p4]
          constructor
          · rintro (q | q)
            · exact absurd q z
            · exact Or.inr (p5.mpr ((nI_eq (by omega) (by omega)).mp q).symm)
          · rintro (q | q)
            · exact absurd (e4.mpr q) z
            · exact Or.inr (by rw [p5.mp q])
      · by_cases z : M.1 27 0 i = 0
        · exact ⟨fun _ => Or.inl z, fun _ => Or.inl z⟩
        · rw [e7 (by rw [e6]; exact z)]
          exact or_congr Iff.rfl Int32.not_lt
    unfold askQ mbQ
    rw [q1, q2, q3, e2]
    by_cases z1 : mZ (M.2.1 32 0) (32 * t) = true
    · simp only [if_pos z1]
      exact ⟨trivial, h0'.mono (Nat.le_succ _)⟩
    simp only [if_neg z1]
    by_cases z2 : nEq (M.2.1 32 0) (M.2.1 23 0) (32 * t) (32 * i) = true
    · simp only [if_pos z2]
      by_cases z3 : mOkB M i co = true
      · simp only [if_pos z3]
        by_cases z4 : M.1 26 0 i = 0
        · simp only [if_pos z4]
          exact ⟨trivial, (h0'.close i hi).mono (Nat.le_succ _)⟩
        · simp only [if_neg z4]
          rw [hak.1]
          by_cases z5 : mkR M (M.2.1 31 0) (32 * t) = 0
          · simp only [if_pos z5]
            exact ⟨trivial, hak.2.close i hi⟩
          · simp only [if_neg z5]
            exact ⟨trivial, hak.2⟩
      · simp only [if_neg z3]
        exact ⟨trivial, h0'.mono (Nat.le_succ _)⟩
    · simp only [if_neg z2]
      exact ⟨trivial, h0'.mono (Nat.le_succ _)⟩
theorem rl_ac {N : Nat} {C M : mSt} (h0 : Rel0 N C M) (hN : N ≤ 1000) {i : Nat} (hi : i < 8) (hp : ¬ C.1 22 (4 + i) 3 = 0) (x co : Int32) : (acP C i x co).1 = (mcP M i x co).1 ∧ Rel0 (N + 1) (acP C i x co).2 (mcP M i x co).2 := by
  unfold acP mcP
  rw [(h0.2.2.2.2.2.2.2.2.2.2.2 i hi hp).2.2.1]
  by_cases z : M.1 37 0 (4 + i) = 0
  · simp only [if_pos z]
    exact rl_ask h0 hN (by omega) hp x co
  · simp only [if_neg z]
    exact ⟨trivial, h0.mono (Nat.le_succ _)⟩
theorem rT_ask {C M : mSt} (hT : rTape C M) (t : Nat) (x co : Int32) : rTape (askP C t x co).2 (mbP M t x co).2 := hT.kp (askP_same C t x co) (mbP_same M t x co) ⟨(fun hh => by (try simp [scX, hsX, bX, seX, obX, vaX] at hh) <;> omega), (fun hh => by (try simp [scX, hsX, bX, seX, obX, vaX] at hh) <;> omega)⟩ ⟨(fun hh => by (try simp [scM, nX, hX, seM, rsX, dfX, ldX] at hh) <;> omega), fun j => (fun hh => by (try simp [scM, nX, hX, seM, rsX, dfX, ldX] at hh) <;> omega)⟩
theorem rT_ac {C M : mSt} (hT : rTape C M) (i : Nat) (x co : Int32) : rTape (acP C i x co).2 (mcP M i x co).2 := hT.kp (acP_same C i x co) (mcP_same M i x co) ⟨(fun hh => by (try simp [scX, hsX, bX, seX, obX, vaX] at hh) <;> omega), (fun hh => by (try simp [scX, hsX, bX, seX, obX, vaX] at hh) <;> omega)⟩ ⟨(fun hh => by (try simp [scM, nX, hX, seM, rsX, dfX, ldX] at hh) <;> omega), fun j => (fun hh => by (try simp [scM, nX, hX, seM, rsX, dfX, ldX] at hh) <;> omega)⟩
theorem Rel0.cutM {N : Nat} {C M : mSt} (h : Rel0 N C M) : Rel0 N C (mM M 0 0 1 0) := h.kp (mSame.rf (X := fun _ _ => False)) (nSame.M (X := fun k j => k = 0 ∧ j = 1) ⟨rfl, rfl⟩) (fun _ _ _ h => h) (fun k j h hh => by simp only [reM, scM, nX, hX, seM, rsX, dfX, ldX] at h hh; omega)
theorem nil_of {Y : Nat → Nat → Prop} {M M' : mSt} (hs : nSame Y (mM M 0 0 1 0) M') (h : ¬ Y 0 1) : nHas 1 400 M' [] := nHas.nil' ((hs 0 1 h).1.trans (by simp [mM, m3]))
theorem nil_T {M : mSt} : nHas 1 400 (mM M 0 0 1 0) [] := nHas.nil' (by simp [mM, m3])
theorem bnil_T {C : mSt} : bHas (mM C 2 0 1 0) 0 [] := ⟨by simp [mM, m3]; exact nI_0.symm, Nat.zero_le _, fun j h => absurd h (Nat.not_lt_zero _)⟩
theorem regL_cg {f g : Nat → Int8} (h : ∀ j, j < 256 → f j = g j) (x : Int32) : regL f x 8 = regL g x 8 := by
  unfold regL
  rw [List.flatMap_def, List.flatMap_def, List.map_congr_left (fun r hr => ?_)]
  have hr8 := List.mem_range.mp hr
  rw [mTk_congr (f := fun j => f (32 * r + j)) (g := fun j => g (32 * r + j)) (fun j hj => h _ (by omega))]
theorem rReg_upd {r : Nat} {f : Nat → Int8} {C C' M M' : mSt} (h : rReg C M) (c1 : ∀ q, q < 32 → C'.2.1 16 0 (32 * r + q) = f q) (c2 : ∀ q, q < 32 * r ∨ 32 * r + 32 ≤ q → C'.2.1 16 0 q = C.2.1 16 0 q) (m1 : ∀ q, q < 32 → M'.2.1 16 0 (32 * r + q) = f q) (m2 : ∀ q, q < 32 * r ∨ 32 * r + 32 ≤ q → M'.2.1 16 0 q = M.2.1 16 0 q) : rReg C' M' := by
  intro j hj
  by_cases e : j < 32 * r ∨ 32 * r + 32 ≤ j
  · rw [c2 j e, m2 j e]
    exact h j hj
  · have a := c1 (j - 32 * r) (by omega)
    have b := m1 (j - 32 * r) (by omega)
    rw [show 32 * r + (j - 32 * r) = j by omega] at a b
    rw [a, b]
theorem rSes_chg {N i : Nat} {C C' M M' : mSt} (h : rSes N i C M) (hN : N ≤ 1000) (a19 : ∀ j, C'.1 19 i j = C.1 19 i j) (a20 : ∀ j, C'.2.1 20 i j = C.2.1 20 i j) (a15 : C'.1 15 0 2 = C.1 15 0 2 + 1) (b25 : M'.1 25 0 i = if M.1 25 0 i = 0 ∧ M.1 24 0 i = 0 then 0 else 1) (b : ∀ k j, seM i k j → ¬ k = 25 → M'.1 k 0 j = M.1 k 0 j ∧ M'.2.1 k 0 j = M.2.1 k 0 j) : rSes (N + 1) i C' M' := by
  obtain ⟨h1, h2⟩ := h
  have m : ∀ k, (k = 22 ∨ k = 24 ∨ k = 26 ∨ k = 27 ∨ k = 28 ∨ k = 29) → M'.1 k 0 i = M.1 k 0 i := fun k hk => (b k i (Or.inr ⟨by omega, rfl⟩) (by omega)).1
  refine ⟨(a19 1).trans (h1.trans (m 22 (by simp)).symm), fun ho => ?_⟩
  rw [a19 1] at ho
  obtain ⟨d, e2, e3, e4, e6, e7, e8, e9⟩ := h2 ho
  rw [a19 2, a19 3, a19 4, a19 5, a19 6, a19 7, m 26 (by simp), m 28 (by simp), m 24 (by simp), m 27 (by simp), m 29 (by simp)]
  refine ⟨fun j hj => (a20 j).trans ((d j hj).trans (b 23 (32 * i + j) (Or.inl ⟨rfl, by omega, by omega⟩) (by decide)).2.symm), e2, e3, e4, e6, e7, fun q => ?_, fun q => ?_⟩
  · rw [b25, if_pos ⟨e8 q, e4.mp q⟩]
  · obtain ⟨ct, ch, p1, p2, p3, p4, p5⟩ := e9 q
    refine ⟨ct, ch + 1, by omega, by omega, by rw [a15, p3]; exact nI_s ch, p4, ⟨fun z => ?_, fun z => ?_⟩⟩
    · rw [b25, if_neg (fun y => q (e4.mpr y.2))] at z
      exact absurd z (by decide)
    · omega
theorem cntN_cg {f g : Nat → Int32} (n : Nat) (h : ∀ q, q < n → f q = g q) : cntN f n = cntN g n := by
  induction n with
  | zero => rfl
  | succ n ih =>
    show cntN f n + _ = cntN g n + _
    rw [ih (fun q hq => h q (by omega)), h n (by omega)]
theorem orB_cg {d d' f f' : Nat → Int8} (n : Nat) (hd : ∀ j, j < 32 → d j = d' j) (hf : ∀ j, j < 32 * n → f j = f' j) : orB d f n = orB d' f' n := by
  induction n with
  | zero => rfl
  | succ n ih =>
    rw [orB_succ, orB_succ, ih (fun j hj => hf j (by omega)), mEq_cg (f := d) (f' := d') (g := f) (g' := f') (a := 32 * n) (b := 32 * n) hd (fun j hj => hf _ (by omega))]
theorem blobL_cg {s s' p p' a a' : Nat → Int8} {n : Int32} {ts : List Int8} (hs : ∀ j, j < 32 → s j = s' j) (hp : ∀ j, j < 32 → p j = p' j) (ha : ∀ j, j < 32 → a j = a' j) : blobL s n p a ts = blobL s' n p' a' ts := by
  have key : ∀ ms, macL s ms = macL s' ms := fun ms => macL_cg hs
  unfold blobL bl1 blMk bl0
  rw [mTk_congr hp, mTk_congr ha]
  simp only [key]
theorem uw_cg {s s' : Nat → Int8} (ts : List Int8) (hs : ∀ j, j < 32 → s j = s' j) : uwB s ts = uwB s' ts ∧ ∀ j, uwF s ts j = uwF s' ts j := by
  have key : ∀ ms, macL s ms = macL s' ms := fun ms => macL_cg hs
  have k2 : ∀ j, uwF s ts j = uwF s' ts j := fun j => by unfold uwF; rw [key]
  refine ⟨?_, k2⟩
  unfold uwB uwM blMk
  rw [key, k2]
set_option maxHeartbeats 4000000 in
set_option maxRecDepth 100000 in
theorem rl_feed {N : Nat} {C M C' M' : mSt} (a1 a2 a3 a4 a5 : Int32) (ts : List Int8) (htC : bHas C 0 ts) (htM : nHas 1 400 M ts) (h0 : Rel0 N C M) (hN : N ≤ 1000) (hC : (ts.length + 20 ≤ 400 → bHas C' 0 (ts ++ w4 a1 ++ w4 a2 ++ w4 a3 ++ w4 a4 ++ w4 a5) ∧ mSame (bX 0) C C') ∧ (¬ ts.length + 20 ≤ 400 → C' = C)) (hM : (ts.length + 20 ≤ 400 → nHas 1 400 M' (ts ++ w4 a1 ++ w4 a2 ++ w4 a3 ++ w4 a4 ++ w4 a5) ∧ nSame (nX 1) M M') ∧ (¬ ts.length + 20 ≤ 400 → M' = M)) : ((if ts.length + 20 ≤ 400 then nI (ts.length + 20) else -3) : Int32) = (if ts.length + 20 ≤ 400 then nI (ts.length + 20) else -3) ∧ Rel (N + 1) C' M' := by
  by_cases hr : ts.length + 20 ≤ 400
  · exact ⟨rfl, ⟨_, (hC.1 hr).1, (hM.1 hr).1⟩, (h0.kp (hC.1 hr).2 (hM.1 hr).2 (fun k i h hh => by simp only [reC, scX, hsX, bX, seX, obX, vaX] at h hh; omega) (fun k j h hh => by simp only [reM, scM, nX, hX, seM, rsX, dfX, ldX] at h hh; omega)).mono (Nat.le_succ _)⟩
  · rw [hC.2 hr, hM.2 hr]
    exact ⟨rfl, ⟨ts, htC, htM⟩, h0.mono (Nat.le_succ _)⟩

set_option maxHeartbeats 4000000 in
set_option maxRecDepth 100000 in
theorem rl_end {N : Nat} {C M C' M' : mSt} (x : Int32) (ts : List Int8) (htC : bHas C 0 ts) (htM : nHas 1 400 M ts) (h0 : Rel0 N C M) (hN : N ≤ 1000) (hC : ((¬ x < 0 ∧ x ≤ nI ts.length) → bHas C' 0 (ts.take x.toNatClampNeg) ∧ mSame (bX 0) C C') ∧ (¬ (¬ x < 0 ∧ x ≤ nI ts.length) → C' = C)) (hM : ((¬ x < 0 ∧ x ≤ nI ts.length) → nHas 1 400 M' (ts.take x.toNatClampNeg) ∧ nSame (nX 1) M M') ∧ (¬ (¬ x < 0 ∧ x ≤ nI ts.length) → M' = M)) : ((if ¬ x < 0 ∧ x ≤ nI ts.length then x else -1) : Int32) = (if ¬ x < 0 ∧ x ≤ nI ts.length then x else -1) ∧ Rel (N + 1) C' M' := by
  by_cases hr : ¬ x < 0 ∧ x ≤ nI ts.length
  · exact ⟨rfl, ⟨_, (hC.1 hr).1, (hM.1 hr).1⟩, (h0.kp (hC.1 hr).2 (hM.1 hr).2 (fun k i h hh => by simp only [reC, scX, hsX, bX, seX, obX, vaX] at h hh; omega) (fun k j h hh => by simp only [reM, scM, nX, hX, seM, rsX, dfX, ldX] at h hh; omega)).mono (Nat.le_succ _)⟩
  · rw [hC.2 hr, hM.2 hr]
    exact ⟨rfl, ⟨ts, htC, htM⟩, h0.mono (Nat.le_succ _)⟩

set_option maxHeartbeats 4000000 in
set_option maxRecDepth 100000 in
theorem rl_octet {N : Nat} {C M C' M' : mSt} (x : Int32) (hT : rTape C M) (os : List Int8) (h0 : Rel0 N C M) (hN : N ≤ 1000) (hC : C' = C) (hM : M' = M) : ((if x = -1 then nI os.length else if x < 0 then -2 else if x < nI os.length then (os.getD x.toNatClampNeg 0).toInt32 &&& 255 else -2) : Int32) = (if x = -1 then nI os.length else if x < 0 then -2 else if x < nI os.length then (os.getD x.toNatClampNeg 0).toInt32 &&& 255 else -2) ∧ Rel (N + 1) C' M' := by
  rw [hC, hM]
  exact ⟨rfl, hT, h0.mono (Nat.le_succ _)⟩

set_option maxHeartbeats 4000000 in
set_option maxRecDepth 100000 in
theorem rl_back {N : Nat} {C M C' M' : mSt} (ts : List Int8) (htC : bHas C 0 ts) (htM : nHas 1 400 M ts) (os : List Int8) (h0 : Rel0 N C M) (hN : N ≤ 1000) (hC : (ts.length + os.length ≤ 400 → bHas C' 0 (ts ++ os) ∧ mSame (bX 0) C C') ∧ (¬ ts.length + os.length ≤ 400 → C' = C)) (hM : (ts.length + os.length ≤ 400 → nHas 1 400 M' (ts ++ os) ∧ nSame (nX 1) M M') ∧ (¬ ts.length + os.length ≤ 400 → M' = M)) : ((if ts.length + os.length ≤ 400 then nI (ts.length + os.length) else -3) : Int32) = (if ts.length + os.length ≤ 400 then nI (ts.length + os.length) else -3) ∧ Rel (N + 1) C' M' := by
  by_cases hr : ts.length + os.length ≤ 400
  · exact ⟨rfl, ⟨_, (hC.1 hr).1, (hM.1 hr).1⟩, (h0.kp (hC.1 hr).2 (hM.1 hr).2 (fun k i h hh => by simp only [reC, scX, hsX, bX, seX, obX, vaX] at h hh; omega) (fun k j h hh => by simp only [reM, scM, nX, hX, seM, rsX, dfX, ldX] at h hh; omega)).mono (Nat.le_succ _)⟩
  · rw [hC.2 hr, hM.2 hr]
    exact ⟨rfl, ⟨ts, htC, htM⟩, h0.mono (Nat.le_succ _)⟩

set_option maxHeartbeats 4000000 in
set_option maxRecDepth 100000 in
theorem rl_hash {N : Nat} {C M C' M' : mSt} (ts : List Int8) (h0 : Rel0 N C M) (hN : N ≤ 1000) (hC : bHas C' 0 [] ∧ bHas C' 1 (mTk (shaL ts) 32) ∧ mSame (fun k i => scX k i ∨ bX 0 k i ∨ bX 1 k i) C C') (hM : nHas 1 400 M' [] ∧ nHas 3 512 M' (mTk (shaL ts) 32) ∧ nSame (fun k j => scM k j ∨ nX 1 k j ∨ nX 3 k j) M M') : (32 : Int32) = 32 ∧ Rel (N + 1) C' M' := by
  obtain ⟨c1, c2, hC⟩ := hC
  obtain ⟨m1, m2, hM⟩ := hM
  obtain ⟨r1, r2, r3, r4, r5, r6, r7, r8, r9, r10, r11, r12⟩ := h0
  exact ⟨rfl, ⟨_, c1, m1⟩, ⟨⟨_, c2, m2⟩,
      r2.kp hC hM (fun hh => by (try simp [scX, hsX, bX, seX, obX, vaX] at hh) <;> omega) (fun j => (fun hh => by (try simp [scM, nX, hX, seM, rsX, dfX, ldX] at hh) <;> omega)),
      r3.kp hC hM (fun hh => by (try simp [scX, hsX, bX, seX, obX, vaX] at hh) <;> omega) (fun j => (fun hh => by (try simp [scM, nX, hX, seM, rsX, dfX, ldX] at hh) <;> omega)),
      r4.kp hC hM (fun hh => by (try simp [scX, hsX, bX, seX, obX, vaX] at hh) <;> omega) (fun j => (fun hh => by (try simp [scM, nX, hX, seM, rsX, dfX, ldX] at hh) <;> omega)),
      r5.kp hC (fun hh => by (try simp [scX, hsX, bX, seX, obX, vaX] at hh) <;> omega),
      r6.kp hC hM (fun hh => by (try simp [scX, hsX, bX, seX, obX, vaX] at hh) <;> omega) (fun j => (fun hh => by (try simp [scM, nX, hX, seM, rsX, dfX, ldX] at hh) <;> omega)),
      (r7.kp hC hM (fun hh => by (try simp [scX, hsX, bX, seX, obX, vaX] at hh) <;> omega) ⟨(fun hh => by (try simp [scM, nX, hX, seM, rsX, dfX, ldX] at hh) <;> omega), (fun hh => by (try simp [scM, nX, hX, seM, rsX, dfX, ldX] at hh) <;> omega), (fun hh => by (try simp [scM, nX, hX, seM, rsX, dfX, ldX] at hh) <;> omega), (fun hh => by (try simp [scM, nX, hX, seM, rsX, dfX, ldX] at hh) <;> omega)⟩).mono (Nat.le_succ _),
      r8.kp hC hM (fun hh => by (try simp [scX, hsX, bX, seX, obX, vaX] at hh) <;> omega) (fun hh => by (try simp [scM, nX, hX, seM, rsX, dfX, ldX] at hh) <;> omega),
      (r9.kp hC (fun hh => by (try simp [scX, hsX, bX, seX, obX, vaX] at hh) <;> omega)).mono (Nat.le_succ _),
      fun i hi => ((r10 i hi).kp hC hM ⟨(fun hh => by (try simp [scX, hsX, bX, seX, obX, vaX] at hh) <;> omega), (fun hh => by (try simp [scX, hsX, bX, seX, obX, vaX] at hh) <;> omega), (fun hh => by (try simp [scX, hsX, bX, seX, obX, vaX] at hh) <;> omega)⟩ (fun k j h hh => by simp only [seM, thM, vaM, scM, nX, hX, rsX, dfX, ldX] at h hh; omega)).mono (Nat.le_succ _),
      fun t ht => (r11 t ht).kp hC hM ⟨(fun hh => by (try simp [scX, hsX, bX, seX, obX, vaX] at hh) <;> omega), (fun hh => by (try simp [scX, hsX, bX, seX, obX, vaX] at hh) <;> omega), (fun hh => by (try simp [scX, hsX, bX, seX, obX, vaX] at hh) <;> omega), (fun hh => by (try simp [scX, hsX, bX, seX, obX, vaX] at hh) <;> omega), (fun hh => by (try simp [scX, hsX, bX, seX, obX, vaX] at hh) <;> omega)⟩ (fun k j h hh => by simp only [seM, thM, vaM, scM, nX, hX, rsX, dfX, ldX] at h hh; omega),
      fun v hv => (r12 v hv).kp hC hM ⟨(fun hh => by (try simp [scX, hsX, bX, seX, obX, vaX] at hh) <;> omega), (fun hh => by (try simp [scX, hsX, bX, seX, obX, vaX] at hh) <;> omega), (fun hh => by (try simp [scX, hsX, bX, seX, obX, vaX] at hh) <;> omega)⟩ (fun k j h hh => by simp only [seM, thM, vaM, scM, nX, hX, rsX, dfX, ldX] at h hh; omega)⟩⟩

set_option maxHeartbeats 4000000 in
set_option maxRecDepth 100000 in
theorem rl_key {N : Nat} {C M C' M' : mSt} (ts : List Int8) (h0 : Rel0 N C M) (hN : N ≤ 1000) (hC : bHas C' 0 [] ∧ (∀ j, j < 32 → C'.2.1 11 0 j = shaL ts j) ∧ mSame (fun k i => scX k i ∨ bX 0 k i ∨ k = 11) C C') (hM : nHas 1 400 M' [] ∧ (∀ j, j < 32 → M'.2.1 14 0 j = shaL ts j) ∧ nSame (fun k j => scM k j ∨ nX 1 k j ∨ k = 14) M M') : (0 : Int32) = 0 ∧ Rel (N + 1) C' M' := by
  obtain ⟨c1, c2, hC⟩ := hC
  obtain ⟨m1, m2, hM⟩ := hM
  obtain ⟨r1, r2, r3, r4, r5, r6, r7, r8, r9, r10, r11, r12⟩ := h0
  exact ⟨rfl, ⟨_, c1, m1⟩, ⟨r1.kp hC hM ⟨(fun hh => by (try simp [scX, hsX, bX, seX, obX, vaX] at hh) <;> omega), (fun hh => by (try simp [scX, hsX, bX, seX, obX, vaX] at hh) <;> omega)⟩ ⟨(fun hh => by (try simp [scM, nX, hX, seM, rsX, dfX, ldX] at hh) <;> omega), fun j => (fun hh => by (try simp [scM, nX, hX, seM, rsX, dfX, ldX] at hh) <;> omega)⟩,
      fun j hj => (c2 j hj).trans (m2 j hj).symm,
      r3.kp hC hM (fun hh => by (try simp [scX, hsX, bX, seX, obX, vaX] at hh) <;> omega) (fun j => (fun hh => by (try simp [scM, nX, hX, seM, rsX, dfX, ldX] at hh) <;> omega)),
      r4.kp hC hM (fun hh => by (try simp [scX, hsX, bX, seX, obX, vaX] at hh) <;> omega) (fun j => (fun hh => by (try simp [scM, nX, hX, seM, rsX, dfX, ldX] at hh) <;> omega)),
      r5.kp hC (fun hh => by (try simp [scX, hsX, bX, seX, obX, vaX] at hh) <;> omega),
      r6.kp hC hM (fun hh => by (try simp [scX, hsX, bX, seX, obX, vaX] at hh) <;> omega) (fun j => (fun hh => by (try simp [scM, nX, hX, seM, rsX, dfX, ldX] at hh) <;> omega)),
      (r7.kp hC hM (fun hh => by (try simp [scX, hsX, bX, seX, obX, vaX] at hh) <;> omega) ⟨(fun hh => by (try simp [scM, nX, hX, seM, rsX, dfX, ldX] at hh) <;> omega), (fun hh => by (try simp [scM, nX, hX, seM, rsX, dfX, ldX] at hh) <;> omega), (fun hh => by (try simp [scM, nX, hX, seM, rsX, dfX, ldX] at hh) <;> omega), (fun hh => by (try simp [scM, nX, hX, seM, rsX, dfX, ldX] at hh) <;> omega)⟩).mono (Nat.le_succ _),
      r8.kp hC hM (fun hh => by (try simp [scX, hsX, bX, seX, obX, vaX] at hh) <;> omega) (fun hh => by (try simp [scM, nX, hX, seM, rsX, dfX, ldX] at hh) <;> omega),
      (r9.kp hC (fun hh => by (try simp [scX, hsX, bX, seX, obX, vaX] at hh) <;> omega)).mono (Nat.le_succ _),
      fun i hi => ((r10 i hi).kp hC hM ⟨(fun hh => by (try simp [scX, hsX, bX, seX, obX, vaX] at hh) <;> omega), (fun hh => by (try simp [scX, hsX, bX, seX, obX, vaX] at hh) <;> omega), (fun hh => by (try simp [scX, hsX, bX, seX, obX, vaX] at hh) <;> omega)⟩ (fun k j h hh => by simp only [seM, thM, vaM, scM, nX, hX, rsX, dfX, ldX] at h hh; omega)).mono (Nat.le_succ _),
      fun t ht => (r11 t ht).kp hC hM ⟨(fun hh => by (try simp [scX, hsX, bX, seX, obX, vaX] at hh) <;> omega), (fun hh => by (try simp [scX, hsX, bX, seX, obX, vaX] at hh) <;> omega), (fun hh => by (try simp [scX, hsX, bX, seX, obX, vaX] at hh) <;> omega), (fun hh => by (try simp [scX, hsX, bX, seX, obX, vaX] at hh) <;> omega), (fun hh => by (try simp [scX, hsX, bX, seX, obX, vaX] at hh) <;> omega)⟩ (fun k j h hh => by simp only [seM, thM, vaM, scM, nX, hX, rsX, dfX, ldX] at h hh; omega),
      fun v hv => (r12 v hv).kp hC hM ⟨(fun hh => by (try simp [scX, hsX, bX, seX, obX, vaX] at hh) <;> omega), (fun hh => by (try simp [scX, hsX, bX, seX, obX, vaX] at hh) <;> omega), (fun hh => by (try simp [scX, hsX, bX, seX, obX, vaX] at hh) <;> omega)⟩ (fun k j h hh => by simp only [seM, thM, vaM, scM, nX, hX, rsX, dfX, ldX] at h hh; omega)⟩⟩

set_option maxHeartbeats 4000000 in
set_option maxRecDepth 100000 in
theorem rl_state {N : Nat} {C M C' M' : mSt} (x : Int32) (hT : rTape C M) (h0 : Rel0 N C M) (hN : N ≤ 1000) (hC : bHas C' 1 (mTk (shaL (regL (C.2.1 16 0) x 8)) 32) ∧ mSame (fun k i => scX k i ∨ bX 1 k i) C C') (hM : nHas 3 512 M' (mTk (shaL (regL (M.2.1 16 0) x 8)) 32) ∧ nSame (fun k j => scM k j ∨ nX 3 k j) M M') : (32 : Int32) = 32 ∧ Rel (N + 1) C' M' := by
  obtain ⟨c2, hC⟩ := hC
  obtain ⟨m2, hM⟩ := hM
  obtain ⟨r1, r2, r3, r4, r5, r6, r7, r8, r9, r10, r11, r12⟩ := h0
  rw [regL_cg r6] at c2
  exact ⟨rfl, hT.kp hC hM ⟨(fun hh => by (try simp [scX, hsX, bX, seX, obX, vaX] at hh) <;> omega), (fun hh => by (try simp [scX, hsX, bX, seX, obX, vaX] at hh) <;> omega)⟩ ⟨(fun hh => by (try simp [scM, nX, hX, seM, rsX, dfX, ldX] at hh) <;> omega), fun j => (fun hh => by (try simp [scM, nX, hX, seM, rsX, dfX, ldX] at hh) <;> omega)⟩, ⟨⟨_, c2, m2⟩,
      r2.kp hC hM (fun hh => by (try simp [scX, hsX, bX, seX, obX, vaX] at hh) <;> omega) (fun j => (fun hh => by (try simp [scM, nX, hX, seM, rsX, dfX, ldX] at hh) <;> omega)),
      r3.kp hC hM (fun hh => by (try simp [scX, hsX, bX, seX, obX, vaX] at hh) <;> omega) (fun j => (fun hh => by (try simp [scM, nX, hX, seM, rsX, dfX, ldX] at hh) <;> omega)),
      r4.kp hC hM (fun hh => by (try simp [scX, hsX, bX, seX, obX, vaX] at hh) <;> omega) (fun j => (fun hh => by (try simp [scM, nX, hX, seM, rsX, dfX, ldX] at hh) <;> omega)),
      r5.kp hC (fun hh => by (try simp [scX, hsX, bX, seX, obX, vaX] at hh) <;> omega),
      r6.kp hC hM (fun hh => by (try simp [scX, hsX, bX, seX, obX, vaX] at hh) <;> omega) (fun j => (fun hh => by (try simp [scM, nX, hX, seM, rsX, dfX, ldX] at hh) <;> omega)),
      (r7.kp hC hM (fun hh => by (try simp [scX, hsX, bX, seX, obX, vaX] at hh) <;> omega) ⟨(fun hh => by (try simp [scM, nX, hX, seM, rsX, dfX, ldX] at hh) <;> omega), (fun hh => by (try simp [scM, nX, hX, seM, rsX, dfX, ldX] at hh) <;> omega), (fun hh => by (try simp [scM, nX, hX, seM, rsX, dfX, ldX] at hh) <;> omega), (fun hh => by (try simp [scM, nX, hX, seM, rsX, dfX, ldX] at hh) <;> omega)⟩).mono (Nat.le_succ _),
      r8.kp hC hM (fun hh => by (try simp [scX, hsX, bX, seX, obX, vaX] at hh) <;> omega) (fun hh => by (try simp [scM, nX, hX, seM, rsX, dfX, ldX] at hh) <;> omega),
      (r9.kp hC (fun hh => by (try simp [scX, hsX, bX, seX, obX, vaX] at hh) <;> omega)).mono (Nat.le_succ _),
      fun i hi => ((r10 i hi).kp hC hM ⟨(fun hh => by (try simp [scX, hsX, bX, seX, obX, vaX] at hh) <;> omega), (fun hh => by (try simp [scX, hsX, bX, seX, obX, vaX] at hh) <;> omega), (fun hh => by (try simp [scX, hsX, bX, seX, obX, vaX] at hh) <;> omega)⟩ (fun k j h hh => by simp only [seM, thM, vaM, scM, nX, hX, rsX, dfX, ldX] at h hh; omega)).mono (Nat.le_succ _),
      fun t ht => (r11 t ht).kp hC hM ⟨(fun hh => by (try simp [scX, hsX, bX, seX, obX, vaX] at hh) <;> omega), (fun hh => by (try simp [scX, hsX, bX, seX, obX, vaX] at hh) <;> omega), (fun hh => by (try simp [scX, hsX, bX, seX, obX, vaX] at hh) <;> omega), (fun hh => by (try simp [scX, hsX, bX, seX, obX, vaX] at hh) <;> omega), (fun hh => by (try simp [scX, hsX, bX, seX, obX, vaX] at hh) <;> omega)⟩ (fun k j h hh => by simp only [seM, thM, vaM, scM, nX, hX, rsX, dfX, ldX] at h hh; omega),
      fun v hv => (r12 v hv).kp hC hM ⟨(fun hh => by (try simp [scX, hsX, bX, seX, obX, vaX] at hh) <;> omega), (fun hh => by (try simp [scX, hsX, bX, seX, obX, vaX] at hh) <;> omega), (fun hh => by (try simp [scX, hsX, bX, seX, obX, vaX] at hh) <;> omega)⟩ (fun k j h hh => by simp only [seM, thM, vaM, scM, nX, hX, rsX, dfX, ldX] at h hh; omega)⟩⟩

set_option maxHeartbeats 4000000 in
set_option maxRecDepth 100000 in
theorem rl_reset {N : Nat} {C M C' M' : mSt} (x : Int32) (hT : rTape C M) (h0 : Rel0 N C M) (hN : N ≤ 1000) (hC : (∀ r, x.toNatClampNeg = r → (x = 6 ∨ x = 7) → (∀ q, q < 32 → C'.2.1 16 0 (32 * r + q) = (0 : Int32).toInt8) ∧ (∀ q, q < 32 * r ∨ 32 * r + 32 ≤ q → C'.2.1 16 0 q = C.2.1 16 0 q) ∧ C'.1 15 0 2 = C.1 15 0 2 + 1 ∧ mSame (fun k _ => k = 16 ∨ k = 15) C C') ∧ (¬ (x = 6 ∨ x = 7) → C' = C)) (hM : (∀ r, x.toNatClampNeg = r → (x = 6 ∨ x = 7) → (∀ q, q < 32 → M'.2.1 16 0 (32 * r + q) = (0 : Int32).toInt8) ∧ (∀ q, q < 4 → M'.1 25 0 q = if M.1 25 0 q = 0 ∧ M.1 24 0 q = 0 then 0 else 1) ∧ nSame (fun k j => (k = 16 ∧ 32 * r ≤ j ∧ j < 32 * r + 32) ∨ (k = 25 ∧ j < 4)) M M') ∧ (¬ (x = 6 ∨ x = 7) → M' = M)) : ((if x = 6 ∨ x = 7 then 0 else -1) : Int32) = (if x = 6 ∨ x = 7 then 0 else -1) ∧ Rel (N + 1) C' M' := by
  by_cases hr : x = 6 ∨ x = 7
  · obtain ⟨c1, c2, c3, hC⟩ := hC.1 _ rfl hr
    obtain ⟨m1, m2, hM⟩ := hM.1 _ rfl hr
    obtain ⟨r1, r2, r3, r4, r5, r6, r7, r8, r9, r10, r11, r12⟩ := h0
    exact ⟨rfl, hT.kp hC hM ⟨(fun hh => by (try simp [scX, hsX, bX, seX, obX, vaX] at hh) <;> omega), (fun hh => by (try simp [scX, hsX, bX, seX, obX, vaX] at hh) <;> omega)⟩ ⟨(fun hh => by (try simp [scM, nX, hX, seM, rsX, dfX, ldX] at hh) <;> omega), fun j => (fun hh => by (try simp [scM, nX, hX, seM, rsX, dfX, ldX] at hh) <;> omega)⟩, ⟨r1.kp hC hM ⟨(fun hh => by (try simp [scX, hsX, bX, seX, obX, vaX] at hh) <;> omega), (fun hh => by (try simp [scX, hsX, bX, seX, obX, vaX] at hh) <;> omega)⟩ ⟨(fun hh => by (try simp [scM, nX, hX, seM, rsX, dfX, ldX] at hh) <;> omega), fun j => (fun hh => by (try simp [scM, nX, hX, seM, rsX, dfX, ldX] at hh) <;> omega)⟩,
        r2.kp hC hM (fun hh => by (try simp [scX, hsX, bX, seX, obX, vaX] at hh) <;> omega) (fun j => (fun hh => by (try simp [scM, nX, hX, seM, rsX, dfX, ldX] at hh) <;> omega)),
        r3.kp hC hM (fun hh => by (try simp [scX, hsX, bX, seX, obX, vaX] at hh) <;> omega) (fun j => (fun hh => by (try simp [scM, nX, hX, seM, rsX, dfX, ldX] at hh) <;> omega)),
        r4.kp hC hM (fun hh => by (try simp [scX, hsX, bX, seX, obX, vaX] at hh) <;> omega) (fun j => (fun hh => by (try simp [scM, nX, hX, seM, rsX, dfX, ldX] at hh) <;> omega)),
        r5.kp hC (fun hh => by (try simp [scX, hsX, bX, seX, obX, vaX] at hh) <;> omega),
        rReg_upd r6 c1 c2 m1 (fun q hq => (hM 16 q (fun hh => by simp only [] at hh; omega)).2.1),
        (r7.kp hC hM (fun hh => by (try simp [scX, hsX, bX, seX, obX, vaX] at hh) <;> omega) ⟨(fun hh => by (try simp [scM, nX, hX, seM, rsX, dfX, ldX] at hh) <;> omega), (fun hh => by (try simp [scM, nX, hX, seM, rsX, dfX, ldX] at hh) <;> omega), (fun hh => by (try simp [scM, nX, hX, seM, rsX, dfX, ldX] at hh) <;> omega), (fun hh => by (try simp [scM, nX, hX, seM, rsX, dfX, ldX] at hh) <;> omega)⟩).mono (Nat.le_succ _),
        r8.kp hC hM (fun hh => by (try simp [scX, hsX, bX, seX, obX, vaX] at hh) <;> omega) (fun hh => by (try simp [scM, nX, hX, seM, rsX, dfX, ldX] at hh) <;> omega),
        by
          obtain ⟨ch, p1, p2⟩ := r9
          exact ⟨ch + 1, by omega, by rw [c3, p2]; exact nI_s ch⟩,
        fun i hi => rSes_chg (r10 i hi) hN (hC 19 i (fun hh => by (try simp [scX, hsX, bX, seX, obX, vaX] at hh) <;> omega)).1 (hC 20 i (fun hh => by (try simp [scX, hsX, bX, seX, obX, vaX] at hh) <;> omega)).2.1 c3 (m2 i hi) (fun k j h hk => have z := hM k j (fun hh => by simp only [seM, scM, nX, hX] at h hh; omega); ⟨z.1, z.2.1⟩),
        fun t ht => (r11 t ht).kp hC hM ⟨(fun hh => by (try simp [scX, hsX, bX, seX, obX, vaX] at hh) <;> omega), (fun hh => by (try simp [scX, hsX, bX, seX, obX, vaX] at hh) <;> omega), (fun hh => by (try simp [scX, hsX, bX, seX, obX, vaX] at hh) <;> omega), (fun hh => by (try simp [scX, hsX, bX, seX, obX, vaX] at hh) <;> omega), (fun hh => by (try simp [scX, hsX, bX, seX, obX, vaX] at hh) <;> omega)⟩ (fun k j h hh => by simp only [seM, thM, vaM, scM, nX, hX, rsX, dfX, ldX] at h hh; omega),
        fun v hv => (r12 v hv).kp hC hM ⟨(fun hh => by (try simp [scX, hsX, bX, seX, obX, vaX] at hh) <;> omega), (fun hh => by (try simp [scX, hsX, bX, seX, obX, vaX] at hh) <;> omega), (fun hh => by (try simp [scX, hsX, bX, seX, obX, vaX] at hh) <;> omega)⟩ (fun k j h hh => by simp only [seM, thM, vaM, scM, nX, hX, rsX, dfX, ldX] at h hh; omega)⟩⟩
  · rw [hC.2 hr, hM.2 hr]
    exact ⟨rfl, hT, h0.mono (Nat.le_succ _)⟩

set_option maxHeartbeats 4000000 in
set_option maxRecDepth 100000 in
theorem rl_extend {N : Nat} {C M C' M' : mSt} (x : Int32) (ts : List Int8) (h0 : Rel0 N C M) (hN : N ≤ 1000) (hC : bHas C' 0 [] ∧ (∀ r, x.toNatClampNeg = r → (¬ x < 0 ∧ x < nI 8) → (∀ j, j < 32 → C'.2.1 16 0 (32 * r + j) = shaL (mTk (fun j => C.2.1 16 0 (32 * r + j)) 32 ++ mTk (shaL ts) 32) j) ∧ (∀ q, q < 32 * r ∨ 32 * r + 32 ≤ q → C'.2.1 16 0 q = C.2.1 16 0 q) ∧ C'.1 15 0 2 = C.1 15 0 2 + 1 ∧ mSame (fun k i => scX k i ∨ bX 0 k i ∨ k = 16 ∨ k = 15) C C') ∧ (¬ (¬ x < 0 ∧ x < nI 8) → mSame (fun k i => scX k i ∨ bX 0 k i) C C')) (hM : nHas 1 400 M' [] ∧ (∀ r, x.toNatClampNeg = r → (¬ x < 0 ∧ x < nI 8) → (∀ j, j < 32 → M'.2.1 16 0 (32 * r + j) = shaL (mTk (fun j => M.2.1 16 0 (32 * r + j)) 32 ++ mTk (shaL ts) 32) j) ∧ (∀ q, q < 4 → M'.1 25 0 q = if M.1 25 0 q = 0 ∧ M.1 24 0 q = 0 then 0 else 1) ∧ nSame (fun k j => scM k j ∨ nX 1 k j ∨ (k = 16 ∧ 32 * r ≤ j ∧ j < 32 * r + 32) ∨ (k = 25 ∧ j < 4)) M M') ∧ (¬ (¬ x < 0 ∧ x < nI 8) → nSame (nX 1) M M')) : ((if ¬ x < 0 ∧ x < nI 8 then 0 else -1) : Int32) = (if ¬ x < 0 ∧ x < nI 8 then 0 else -1) ∧ Rel (N + 1) C' M' := by
  by_cases hr : ¬ x < 0 ∧ x < nI 8
  · obtain ⟨r, hr8, e⟩ := nI_of_lt (by decide) hr.1 hr.2
    have ec : x.toNatClampNeg = r := by rw [e]; exact nI_clamp (by omega)
    obtain ⟨t1, hC, -⟩ := hC
    obtain ⟨t2, hM, -⟩ := hM
    obtain ⟨c1, c2, c3, hC⟩ := hC r ec hr
    obtain ⟨m1, m2, hM⟩ := hM r ec hr
    obtain ⟨r1, r2, r3, r4, r5, r6, r7, r8, r9, r10, r11, r12⟩ := h0
    rw [mTk_congr (f := fun j => C.2.1 16 0 (32 * r + j)) (g := fun j => M.2.1 16 0 (32 * r + j)) (fun j hj => r6 _ (by omega))] at c1
    exact ⟨rfl, ⟨_, t1, t2⟩, ⟨r1.kp hC hM ⟨(fun hh => by (try simp [scX, hsX, bX, seX, obX, vaX] at hh) <;> omega), (fun hh => by (try simp [scX, hsX, bX, seX, obX, vaX] at hh) <;> omega)⟩ ⟨(fun hh => by (try simp [scM, nX, hX, seM, rsX, dfX, ldX] at hh) <;> omega), fun j => (fun hh => by (try simp [scM, nX, hX, seM, rsX, dfX, ldX] at hh) <;> omega)⟩,
        r2.kp hC hM (fun hh => by (try simp [scX, hsX, bX, seX, obX, vaX] at hh) <;> omega) (fun j => (fun hh => by (try simp [scM, nX, hX, seM, rsX, dfX, ldX] at hh) <;> omega)),
        r3.kp hC hM (fun hh => by (try simp [scX, hsX, bX, seX, obX, vaX] at hh) <;> omega) (fun j => (fun hh => by (try simp [scM, nX, hX, seM, rsX, dfX, ldX] at hh) <;> omega)),
        r4.kp hC hM (fun hh => by (try simp [scX, hsX, bX, seX, obX, vaX] at hh) <;> omega) (fun j => (fun hh => by (try simp [scM, nX, hX, seM, rsX, dfX, ldX] at hh) <;> omega)),
        r5.kp hC (fun hh => by (try simp [scX, hsX, bX, seX, obX, vaX] at hh) <;> omega),
        rReg_upd r6 c1 c2 m1 (fun q hq => (hM 16 q (fun hh => by simp only [scM, nX] at hh; omega)).2.1),
        (r7.kp hC hM (fun hh => by (try simp [scX, hsX, bX, seX, obX, vaX] at hh) <;> omega) ⟨(fun hh => by (try simp [scM, nX, hX, seM, rsX, dfX, ldX] at hh) <;> omega), (fun hh => by (try simp [scM, nX, hX, seM, rsX, dfX, ldX] at hh) <;> omega), (fun hh => by (try simp [scM, nX, hX, seM, rsX, dfX, ldX] at hh) <;> omega), (fun hh => by (try simp [scM, nX, hX, seM, rsX, dfX, ldX] at hh) <;> omega)⟩).mono (Nat.le_succ _),
        r8.kp hC hM (fun hh => by (try simp [scX, hsX, bX, seX, obX, vaX] at hh) <;> omega) (fun hh => by (try simp [scM, nX, hX, seM, rsX, dfX, ldX] at hh) <;> omega),
        by
          obtain ⟨ch, p1, p2⟩ := r9
          exact ⟨ch + 1, by omega, by rw [c3, p2]; exact nI_s ch⟩,
        fun i hi => rSes_chg (r10 i hi) hN (hC 19 i (fun hh => by (try simp [scX, hsX, bX, seX, obX, vaX] at hh) <;> omega)).1 (hC 20 i (fun hh => by (try simp [scX, hsX, bX, seX, obX, vaX] at hh) <;> omega)).2.1 c3 (m2 i hi) (fun k j h hk => have z := hM k j (fun hh => by simp only [seM, scM, nX, hX] at h hh; omega); ⟨z.1, z.2.1⟩),
        fun t ht => (r11 t ht).kp hC hM ⟨(fun hh => by (try simp [scX, hsX, bX, seX, obX, vaX] at hh) <;> omega), (fun hh => by (try simp [scX, hsX, bX, seX, obX, vaX] at hh) <;> omega), (fun hh => by (try simp [scX, hsX, bX, seX, obX, vaX] at hh) <;> omega), (fun hh => by (try simp [scX, hsX, bX, seX, obX, vaX] at hh) <;> omega), (fun hh => by (try simp [scX, hsX, bX, seX, obX, vaX] at hh) <;> omega)⟩ (fun k j h hh => by simp only [seM, thM, vaM, scM, nX, hX, rsX, dfX, ldX] at h hh; omega),
        fun v hv => (r12 v hv).kp hC hM ⟨(fun hh => by (try simp [scX, hsX, bX, seX, obX, vaX] at hh) <;> omega), (fun hh => by (try simp [scX, hsX, bX, seX, obX, vaX] at hh) <;> omega), (fun hh => by (try simp [scX, hsX, bX, seX, obX, vaX] at hh) <;> omega)⟩ (fun k j h hh => by simp only [seM, thM, vaM, scM, nX, hX, rsX, dfX, ldX] at h hh; omega)⟩⟩
  · exact ⟨rfl, ⟨_, hC.1, hM.1⟩, (h0.kp (hC.2.2 hr) (hM.2.2 hr) (fun k i h hh => by simp only [reC, scX, hsX, bX, seX, obX, vaX] at h hh; omega) (fun k j h hh => by simp only [reM, scM, nX, hX, seM, rsX, dfX, ldX] at h hh; omega)).mono (Nat.le_succ _)⟩

set_option maxHeartbeats 4000000 in
set_option maxRecDepth 100000 in
theorem rl_open {N : Nat} {C M C' M' : mSt} (x : Int32) (hT : rTape C M) (h0 : Rel0 N C M) (hN : N ≤ 1000) (hC : (∀ i, x.toNatClampNeg = i → (¬ x < 0 ∧ x < nI 4) → (∀ q, q < 32 → C'.2.1 20 i q = (0 : Int32).toInt8) ∧ C'.1 19 i 1 = 1 ∧ C'.1 19 i 2 = 0 ∧ C'.1 19 i 3 = 0 ∧ C'.1 19 i 4 = 0 ∧ C'.1 19 i 6 = 0 ∧ mSame (seX i) C C') ∧ (¬ (¬ x < 0 ∧ x < nI 4) → C' = C)) (hM : (∀ i, x.toNatClampNeg = i → (¬ x < 0 ∧ x < nI 4) → (∀ q, q < 32 → M'.2.1 23 0 (32 * i + q) = (0 : Int32).toInt8) ∧ M'.1 22 0 i = 1 ∧ M'.1 24 0 i = 0 ∧ M'.1 25 0 i = 0 ∧ M'.1 26 0 i = 0 ∧ M'.1 27 0 i = 0 ∧ M'.1 28 0 i = 0 ∧ nSame (seM i) M M') ∧ (¬ (¬ x < 0 ∧ x < nI 4) → M' = M)) : ((if ¬ x < 0 ∧ x < nI 4 then 0 else -1) : Int32) = (if ¬ x < 0 ∧ x < nI 4 then 0 else -1) ∧ Rel (N + 1) C' M' := by
  by_cases hr : ¬ x < 0 ∧ x < nI 4
  · obtain ⟨i, hi, e⟩ := nI_of_lt (by decide) hr.1 hr.2
    have ec : x.toNatClampNeg = i := by rw [e]; exact nI_clamp (by omega)
    obtain ⟨c1, c2, c3, c4, c5, c6, hC⟩ := hC.1 i ec hr
    obtain ⟨m1, m2, m3', m4, m5, m6, m7, hM⟩ := hM.1 i ec hr
    obtain ⟨r1, r2, r3, r4, r5, r6, r7, r8, r9, r10, r11, r12⟩ := h0
    exact ⟨rfl, hT.kp hC hM ⟨(fun hh => by (try simp [scX, hsX, bX, seX, obX, vaX] at hh) <;> omega), (fun hh => by (try simp [scX, hsX, bX, seX, obX, vaX] at hh) <;> omega)⟩ ⟨(fun hh => by (try simp [scM, nX, hX, seM, rsX, dfX, ldX] at hh) <;> omega), fun j => (fun hh => by (try simp [scM, nX, hX, seM, rsX, dfX, ldX] at hh) <;> omega)⟩, ⟨r1.kp hC hM ⟨(fun hh => by (try simp [scX, hsX, bX, seX, obX, vaX] at hh) <;> omega), (fun hh => by (try simp [scX, hsX, bX, seX, obX, vaX] at hh) <;> omega)⟩ ⟨(fun hh => by (try simp [scM, nX, hX, seM, rsX, dfX, ldX] at hh) <;> omega), fun j => (fun hh => by (try simp [scM, nX, hX, seM, rsX, dfX, ldX] at hh) <;> omega)⟩,
        r2.kp hC hM (fun hh => by (try simp [scX, hsX, bX, seX, obX, vaX] at hh) <;> omega) (fun j => (fun hh => by (try simp [scM, nX, hX, seM, rsX, dfX, ldX] at hh) <;> omega)),
        r3.kp hC hM (fun hh => by (try simp [scX, hsX, bX, seX, obX, vaX] at hh) <;> omega) (fun j => (fun hh => by (try simp [scM, nX, hX, seM, rsX, dfX, ldX] at hh) <;> omega)),
        r4.kp hC hM (fun hh => by (try simp [scX, hsX, bX, seX, obX, vaX] at hh) <;> omega) (fun j => (fun hh => by (try simp [scM, nX, hX, seM, rsX, dfX, ldX] at hh) <;> omega)),
        r5.kp hC (fun hh => by (try simp [scX, hsX, bX, seX, obX, vaX] at hh) <;> omega),
        r6.kp hC hM (fun hh => by (try simp [scX, hsX, bX, seX, obX, vaX] at hh) <;> omega) (fun j => (fun hh => by (try simp [scM, nX, hX, seM, rsX, dfX, ldX] at hh) <;> omega)),
        (r7.kp hC hM (fun hh => by (try simp [scX, hsX, bX, seX, obX, vaX] at hh) <;> omega) ⟨(fun hh => by (try simp [scM, nX, hX, seM, rsX, dfX, ldX] at hh) <;> omega), (fun hh => by (try simp [scM, nX, hX, seM, rsX, dfX, ldX] at hh) <;> omega), (fun hh => by (try simp [scM, nX, hX, seM, rsX, dfX, ldX] at hh) <;> omega), (fun hh => by (try simp [scM, nX, hX, seM, rsX, dfX, ldX] at hh) <;> omega)⟩).mono (Nat.le_succ _),
        r8.kp hC hM (fun hh => by (try simp [scX, hsX, bX, seX, obX, vaX] at hh) <;> omega) (fun hh => by (try simp [scM, nX, hX, seM, rsX, dfX, ldX] at hh) <;> omega),
        (r9.kp hC (fun hh => by (try simp [scX, hsX, bX, seX, obX, vaX] at hh) <;> omega)).mono (Nat.le_succ _),
        fun i' hi' => by
          by_cases e' : i' = i
          · subst e'
            exact ⟨c2.trans m2.symm, fun _ => ⟨fun j hj => (c1 j hj).trans (m1 j hj).symm, c3.trans m5.symm, c4.trans m7.symm, ⟨fun _ => m3', fun _ => c5⟩, c6.trans m6.symm, fun q => absurd c6 q, fun _ => m4, fun q => absurd c5 q⟩⟩
          · exact ((r10 i' hi').kp hC hM ⟨(fun hh => by (try simp [scX, hsX, bX, seX, obX, vaX] at hh) <;> omega), (fun hh => by (try simp [scX, hsX, bX, seX, obX, vaX] at hh) <;> omega), (fun hh => by (try simp [scX, hsX, bX, seX, obX, vaX] at hh) <;> omega)⟩ (fun k j h hh => by simp only [seM, thM, vaM, scM, nX, hX, rsX, dfX, ldX] at h hh; omega)).mono (Nat.le_succ _),
        fun t ht => (r11 t ht).kp hC hM ⟨(fun hh => by (try simp [scX, hsX, bX, seX, obX, vaX] at hh) <;> omega), (fun hh => by (try simp [scX, hsX, bX, seX, obX, vaX] at hh) <;> omega), (fun hh => by (try simp [scX, hsX, bX, seX, obX, vaX] at hh) <;> omega), (fun hh => by (try simp [scX, hsX, bX, seX, obX, vaX] at hh) <;> omega), (fun hh => by (try simp [scX, hsX, bX, seX, obX, vaX] at hh) <;> omega)⟩ (fun k j h hh => by simp only [seM, thM, vaM, scM, nX, hX, rsX, dfX, ldX] at h hh; omega),
        fun v hv => (r12 v hv).kp hC hM ⟨(fun hh => by (try simp [scX, hsX, bX, seX, obX, vaX] at hh) <;> omega), (fun hh => by (try simp [scX, hsX, bX, seX, obX, vaX] at hh) <;> omega), (fun hh => by (try simp [scX, hsX, bX, seX, obX, vaX] at hh) <;> omega)⟩ (fun k j h hh => by simp only [seM, thM, vaM, scM, nX, hX, rsX, dfX, ldX] at h hh; omega)⟩⟩
  · rw [hC.2 hr, hM.2 hr]
    exact ⟨rfl, hT, h0.mono (Nat.le_succ _)⟩

set_option maxHeartbeats 4000000 in
set_option maxRecDepth 100000 in
theorem rl_digest {N : Nat} {C M C' M' : mSt} (x : Int32) (hT : rTape C M) (h0 : Rel0 N C M) (hN : N ≤ 1000) (hC : (seO C x = none → C' = C) ∧ ∀ i, seO C x = some i → bHas C' 1 (mTk (C.2.1 20 i) 32) ∧ mSame (bX 1) C C') (hM : (msO M x = none → M' = M) ∧ ∀ i, msO M x = some i → nHas 3 512 M' (mTk (fun q => M.2.1 23 0 (32 * i + q)) 32) ∧ nSame (nX 3) M M') : (((seO C x).elim (-1) (fun _ => 32)) : Int32) = ((msO M x).elim (-1) (fun _ => 32)) ∧ Rel (N + 1) C' M' := by
  rw [seO_eq h0] at hC ⊢
  cases e : msO M x with
  | none =>
    rw [hC.1 e, hM.1 e]
    exact ⟨rfl, hT, h0.mono (Nat.le_succ _)⟩
  | some i =>
    have hC := hC.2 i e
    have hM := hM.2 i e
    have h0' := h0
    obtain ⟨r1, r2, r3, r4, r5, r6, r7, r8, r9, r10, r11, r12⟩ := h0
    obtain ⟨hxi, hi, ho⟩ := opO_some (by decide) e
    have ho' : ¬ C.1 19 i 1 = 0 := by rw [(r10 i hi).1]; exact ho
    obtain ⟨d, e2, e3, e4, e6, e7, e8, e9⟩ := (r10 i hi).2 ho'
    have hd : mTk (C.2.1 20 i) 32 = mTk (fun q => M.2.1 23 0 (32 * i + q)) 32 := mTk_congr d
    obtain ⟨c2, hC⟩ := hC
    obtain ⟨m2, hM⟩ := hM
    rw [hd] at c2
    exact ⟨rfl, hT.kp hC hM ⟨(fun hh => by (try simp [scX, hsX, bX, seX, obX, vaX] at hh) <;> omega), (fun hh => by (try simp [scX, hsX, bX, seX, obX, vaX] at hh) <;> omega)⟩ ⟨(fun hh => by (try simp [scM, nX, hX, seM, rsX, dfX, ldX] at hh) <;> omega), fun j => (fun hh => by (try simp [scM, nX, hX, seM, rsX, dfX, ldX] at hh) <;> omega)⟩, ⟨⟨_, c2, m2⟩,
        r2.kp hC hM (fun hh => by (try simp [scX, hsX, bX, seX, obX, vaX] at hh) <;> omega) (fun j => (fun hh => by (try simp [scM, nX, hX, seM, rsX, dfX, ldX] at hh) <;> omega)),
        r3.kp hC hM (fun hh => by (try simp [scX, hsX, bX, seX, obX, vaX] at hh) <;> omega) (fun j => (fun hh => by (try simp [scM, nX, hX, seM, rsX, dfX, ldX] at hh) <;> omega)),
        r4.kp hC hM (fun hh => by (try simp [scX, hsX, bX, seX, obX, vaX] at hh) <;> omega) (fun j => (fun hh => by (try simp [scM, nX, hX, seM, rsX, dfX, ldX] at hh) <;> omega)),
        r5.kp hC (fun hh => by (try simp [scX, hsX, bX, seX, obX, vaX] at hh) <;> omega),
        r6.kp hC hM (fun hh => by (try simp [scX, hsX, bX, seX, obX, vaX] at hh) <;> omega) (fun j => (fun hh => by (try simp [scM, nX, hX, seM, rsX, dfX, ldX] at hh) <;> omega)),
        (r7.kp hC hM (fun hh => by (try simp [scX, hsX, bX, seX, obX, vaX] at hh) <;> omega) ⟨(fun hh => by (try simp [scM, nX, hX, seM, rsX, dfX, ldX] at hh) <;> omega), (fun hh => by (try simp [scM, nX, hX, seM, rsX, dfX, ldX] at hh) <;> omega), (fun hh => by (try simp [scM, nX, hX, seM, rsX, dfX, ldX] at hh) <;> omega), (fun hh => by (try simp [scM, nX, hX, seM, rsX, dfX, ldX] at hh) <;> omega)⟩).mono (Nat.le_succ _),
        r8.kp hC hM (fun hh => by (try simp [scX, hsX, bX, seX, obX, vaX] at hh) <;> omega) (fun hh => by (try simp [scM, nX, hX, seM, rsX, dfX, ldX] at hh) <;> omega),
        (r9.kp hC (fun hh => by (try simp [scX, hsX, bX, seX, obX, vaX] at hh) <;> omega)).mono (Nat.le_succ _),
        fun i hi => ((r10 i hi).kp hC hM ⟨(fun hh => by (try simp [scX, hsX, bX, seX, obX, vaX] at hh) <;> omega), (fun hh => by (try simp [scX, hsX, bX, seX, obX, vaX] at hh) <;> omega), (fun hh => by (try simp [scX, hsX, bX, seX, obX, vaX] at hh) <;> omega)⟩ (fun k j h hh => by simp only [seM, thM, vaM, scM, nX, hX, rsX, dfX, ldX] at h hh; omega)).mono (Nat.le_succ _),
        fun t ht => (r11 t ht).kp hC hM ⟨(fun hh => by (try simp [scX, hsX, bX, seX, obX, vaX] at hh) <;> omega), (fun hh => by (try simp [scX, hsX, bX, seX, obX, vaX] at hh) <;> omega), (fun hh => by (try simp [scX, hsX, bX, seX, obX, vaX] at hh) <;> omega), (fun hh => by (try simp [scX, hsX, bX, seX, obX, vaX] at hh) <;> omega), (fun hh => by (try simp [scX, hsX, bX, seX, obX, vaX] at hh) <;> omega)⟩ (fun k j h hh => by simp only [seM, thM, vaM, scM, nX, hX, rsX, dfX, ldX] at h hh; omega),
        fun v hv => (r12 v hv).kp hC hM ⟨(fun hh => by (try simp [scX, hsX, bX, seX, obX, vaX] at hh) <;> omega), (fun hh => by (try simp [scX, hsX, bX, seX, obX, vaX] at hh) <;> omega), (fun hh => by (try simp [scX, hsX, bX, seX, obX, vaX] at hh) <;> omega)⟩ (fun k j h hh => by simp only [seM, thM, vaM, scM, nX, hX, rsX, dfX, ldX] at h hh; omega)⟩⟩

set_option maxHeartbeats 4000000 in
set_option maxRecDepth 100000 in
theorem rl_policyAuth {N : Nat} {C M C' M' : mSt} (x : Int32) (hT : rTape C M) (h0 : Rel0 N C M) (hN : N ≤ 1000) (hC : (seO C x = none → C' = C) ∧ ∀ i, seO C x = some i → (∀ j, j < 32 → C'.2.1 20 i j = shaL (mTk (C.2.1 20 i) 32 ++ [(2 : Int32).toInt8]) j) ∧ C'.1 19 i 2 = 1 ∧ (∀ q, ¬ q = 2 → C'.1 19 i q = C.1 19 i q) ∧ mSame (fun k i' => scX k i' ∨ seX i k i') C C') (hM : (msO M x = none → M' = M) ∧ ∀ i, msO M x = some i → (∀ j, j < 32 → M'.2.1 23 0 (32 * i + j) = shaL (mTk (fun q => M.2.1 23 0 (32 * i + q)) 32 ++ [(2 : Int32).toInt8]) j) ∧ M'.1 26 0 i = 1 ∧ nSame (fun k j => scM k j ∨ (k = 23 ∧ 32 * i ≤ j ∧ j < 32 * i + 32) ∨ (k = 26 ∧ j = i)) M M') : (((seO C x).elim (-1) (fun _ => 0)) : Int32) = ((msO M x).elim (-1) (fun _ => 0)) ∧ Rel (N + 1) C' M' := by
  rw [seO_eq h0] at hC ⊢
  cases e : msO M x with
  | none =>
    rw [hC.1 e, hM.1 e]
    exact ⟨rfl, hT, h0.mono (Nat.le_succ _)⟩
  | some i =>
    have hC := hC.2 i e
    have hM := hM.2 i e
    have h0' := h0
    obtain ⟨r1, r2, r3, r4, r5, r6, r7, r8, r9, r10, r11, r12⟩ := h0
    obtain ⟨hxi, hi, ho⟩ := opO_some (by decide) e
    have ho' : ¬ C.1 19 i 1 = 0 := by rw [(r10 i hi).1]; exact ho
    obtain ⟨d, e2, e3, e4, e6, e7, e8, e9⟩ := (r10 i hi).2 ho'
    have hd : mTk (C.2.1 20 i) 32 = mTk (fun q => M.2.1 23 0 (32 * i + q)) 32 := mTk_congr d
    obtain ⟨c1, c2, c3, hC⟩ := hC
    obtain ⟨m1, m2, hM⟩ := hM
    rw [hd] at c1
    exact ⟨rfl, hT.kp hC hM ⟨(fun hh => by (try simp [scX, hsX, bX, seX, obX, vaX] at hh) <;> omega), (fun hh => by (try simp [scX, hsX, bX, seX, obX, vaX] at hh) <;> omega)⟩ ⟨(fun hh => by (try simp [scM, nX, hX, seM, rsX, dfX, ldX] at hh) <;> omega), fun j => (fun hh => by (try simp [scM, nX, hX, seM, rsX, dfX, ldX] at hh) <;> omega)⟩, ⟨r1.kp hC hM ⟨(fun hh => by (try simp [scX, hsX, bX, seX, obX, vaX] at hh) <;> omega), (fun hh => by (try simp [scX, hsX, bX, seX, obX, vaX] at hh) <;> omega)⟩ ⟨(fun hh => by (try simp [scM, nX, hX, seM, rsX, dfX, ldX] at hh) <;> omega), fun j => (fun hh => by (try simp [scM, nX, hX, seM, rsX, dfX, ldX] at hh) <;> omega)⟩,
        r2.kp hC hM (fun hh => by (try simp [scX, hsX, bX, seX, obX, vaX] at hh) <;> omega) (fun j => (fun hh => by (try simp [scM, nX, hX, seM, rsX, dfX, ldX] at hh) <;> omega)),
        r3.kp hC hM (fun hh => by (try simp [scX, hsX, bX, seX, obX, vaX] at hh) <;> omega) (fun j => (fun hh => by (try simp [scM, nX, hX, seM, rsX, dfX, ldX] at hh) <;> omega)),
        r4.kp hC hM (fun hh => by (try simp [scX, hsX, bX, seX, obX, vaX] at hh) <;> omega) (fun j => (fun hh => by (try simp [scM, nX, hX, seM, rsX, dfX, ldX] at hh) <;> omega)),
        r5.kp hC (fun hh => by (try simp [scX, hsX, bX, seX, obX, vaX] at hh) <;> omega),
        r6.kp hC hM (fun hh => by (try simp [scX, hsX, bX, seX, obX, vaX] at hh) <;> omega) (fun j => (fun hh => by (try simp [scM, nX, hX, seM, rsX, dfX, ldX] at hh) <;> omega)),
        (r7.kp hC hM (fun hh => by (try simp [scX, hsX, bX, seX, obX, vaX] at hh) <;> omega) ⟨(fun hh => by (try simp [scM, nX, hX, seM, rsX, dfX, ldX] at hh) <;> omega), (fun hh => by (try simp [scM, nX, hX, seM, rsX, dfX, ldX] at hh) <;> omega), (fun hh => by (try simp [scM, nX, hX, seM, rsX, dfX, ldX] at hh) <;> omega), (fun hh => by (try simp [scM, nX, hX, seM, rsX, dfX, ldX] at hh) <;> omega)⟩).mono (Nat.le_succ _),
        r8.kp hC hM (fun hh => by (try simp [scX, hsX, bX, seX, obX, vaX] at hh) <;> omega) (fun hh => by (try simp [scM, nX, hX, seM, rsX, dfX, ldX] at hh) <;> omega),
        (r9.kp hC (fun hh => by (try simp [scX, hsX, bX, seX, obX, vaX] at hh) <;> omega)).mono (Nat.le_succ _),
        fun i' hi' => by
          by_cases e' : i' = i
          · subst e'
            exact ⟨(c3 1 (by decide)).trans ((r10 i' hi').1.trans (hM 22 i' (fun hh => by (try simp [scM, nX, hX, seM, rsX, dfX, ldX] at hh) <;> omega)).1.symm), fun _ => ⟨(fun j hj => (c1 j hj).trans (m1 j hj).symm), c2.trans m2.symm, (c3 3 (by decide)).trans (e3.trans (hM 28 i' (fun hh => by (try simp [scM, nX, hX, seM, rsX, dfX, ldX] at hh) <;> omega)).1.symm), by rw [c3 4 (by decide), (hM 24 i' (fun hh => by (try simp [scM, nX, hX, seM, rsX, dfX, ldX] at hh) <;> omega)).1]; exact e4, (c3 6 (by decide)).trans (e6.trans (hM 27 i' (fun hh => by (try simp [scM, nX, hX, seM, rsX, dfX, ldX] at hh) <;> omega)).1.symm), fun q => (c3 7 (by decide)).trans ((e7 (fun z => q ((c3 6 (by decide)).trans z))).trans (hM 29 i' (fun hh => by (try simp [scM, nX, hX, seM, rsX, dfX, ldX] at hh) <;> omega)).1.symm), fun q => (hM 25 i' (fun hh => by (try simp [scM, nX, hX, seM, rsX, dfX, ldX] at hh) <;> omega)).1.trans (e8 ((c3 4 (by decide)).symm.trans q)), fun q => by
              obtain ⟨ct, ch, p1, p2, p3, p4, p5⟩ := e9 (fun z => q ((c3 4 (by decide)).trans z))
              exact ⟨ct, ch, p1, by omega, ((hC 15 0 (fun hh => by (try simp [scX, hsX, bX, seX, obX, vaX] at hh) <;> omega)).1 2).trans p3, (c3 5 (by decide)).trans p4, by rw [(hM 25 i' (fun hh => by (try simp [scM, nX, hX, seM, rsX, dfX, ldX] at hh) <;> omega)).1]; exact p5⟩⟩⟩
          · exact ((r10 i' hi').kp hC hM ⟨(fun hh => by (try simp [scX, hsX, bX, seX, obX, vaX] at hh) <;> omega), (fun hh => by (try simp [scX, hsX, bX, seX, obX, vaX] at hh) <;> omega), (fun hh => by (try simp [scX, hsX, bX, seX, obX, vaX] at hh) <;> omega)⟩ (fun k j h hh => by simp only [seM, thM, vaM, scM, nX, hX, rsX, dfX, ldX] at h hh; omega)).mono (Nat.le_succ _),
        fun t ht => (r11 t ht).kp hC hM ⟨(fun hh => by (try simp [scX, hsX, bX, seX, obX, vaX] at hh) <;> omega), (fun hh => by (try simp [scX, hsX, bX, seX, obX, vaX] at hh) <;> omega), (fun hh => by (try simp [scX, hsX, bX, seX, obX, vaX] at hh) <;> omega), (fun hh => by (try simp [scX, hsX, bX, seX, obX, vaX] at hh) <;> omega), (fun hh => by (try simp [scX, hsX, bX, seX, obX, vaX] at hh) <;> omega)⟩ (fun k j h hh => by simp only [seM, thM, vaM, scM, nX, hX, rsX, dfX, ldX] at h hh; omega),
        fun v hv => (r12 v hv).kp hC hM ⟨(fun hh => by (try simp [scX, hsX, bX, seX, obX, vaX] at hh) <;> omega), (fun hh => by (try simp [scX, hsX, bX, seX, obX, vaX] at hh) <;> omega), (fun hh => by (try simp [scX, hsX, bX, seX, obX, vaX] at hh) <;> omega)⟩ (fun k j h hh => by simp only [seM, thM, vaM, scM, nX, hX, rsX, dfX, ldX] at h hh; omega)⟩⟩

set_option maxHeartbeats 4000000 in
set_option maxRecDepth 100000 in
theorem rl_policyTime {N : Nat} {C M C' M' : mSt} (x y : Int32) (hT : rTape C M) (h0 : Rel0 N C M) (hN : N ≤ 1000) (hC : (seO C x = none → C' = C) ∧ ∀ i, seO C x = some i → (∀ j, j < 32 → C'.2.1 20 i j = shaL (mTk (C.2.1 20 i) 32 ++ [(4 : Int32).toInt8] ++ w4 y) j) ∧ C'.1 19 i 6 = 1 ∧ C'.1 19 i 7 = (if C.1 19 i 6 = 0 then y else if y < C.1 19 i 7 then y else C.1 19 i 7) ∧ (∀ q, ¬ q = 6 → ¬ q = 7 → C'.1 19 i q = C.1 19 i q) ∧ mSame (fun k i' => scX k i' ∨ seX i k i') C C') (hM : (msO M x = none → M' = M) ∧ ∀ i, msO M x = some i → (∀ j, j < 32 → M'.2.1 23 0 (32 * i + j) = shaL (mTk (fun q => M.2.1 23 0 (32 * i + q)) 32 ++ [(4 : Int32).toInt8] ++ w4 y) j) ∧ M'.1 27 0 i = 1 ∧ M'.1 29 0 i = (if M.1 27 0 i = 0 then y else if y < M.1 29 0 i then y else M.1 29 0 i) ∧ nSame (fun k j => scM k j ∨ (k = 23 ∧ 32 * i ≤ j ∧ j < 32 * i + 32) ∨ ((k = 27 ∨ k = 29) ∧ j = i)) M M') : (((seO C x).elim (-1) (fun _ => 0)) : Int32) = ((msO M x).elim (-1) (fun _ => 0)) ∧ Rel (N + 1) C' M' := by
  rw [seO_eq h0] at hC ⊢
  cases e : msO M x with
  | none =>
    rw [hC.1 e, hM.1 e]
    exact ⟨rfl, hT, h0.mono (Nat.le_succ _)⟩
  | some i =>
    have hC := hC.2 i e
    have hM := hM.2 i e
    have h0' := h0
    obtain ⟨r1, r2, r3, r4, r5, r6, r7, r8, r9, r10, r11, r12⟩ := h0
    obtain ⟨hxi, hi, ho⟩ := opO_some (by decide) e
    have ho' : ¬ C.1 19 i 1 = 0 := by rw [(r10 i hi).1]; exact ho
    obtain ⟨d, e2, e3, e4, e6, e7, e8, e9⟩ := (r10 i hi).2 ho'
    have hd : mTk (C.2.1 20 i) 32 = mTk (fun q => M.2.1 23 0 (32 * i + q)) 32 := mTk_congr d
    obtain ⟨c1, c2, c4, c3, hC⟩ := hC
    obtain ⟨m1, m2, m4, hM⟩ := hM
    rw [hd] at c1
    exact ⟨rfl, hT.kp hC hM ⟨(fun hh => by (try simp [scX, hsX, bX, seX, obX, vaX] at hh) <;> omega), (fun hh => by (try simp [scX, hsX, bX, seX, obX, vaX] at hh) <;> omega)⟩ ⟨(fun hh => by (try simp [scM, nX, hX, seM, rsX, dfX, ldX] at hh) <;> omega), fun j => (fun hh => by (try simp [scM, nX, hX, seM, rsX, dfX, ldX] at hh) <;> omega)⟩, ⟨r1.kp hC hM ⟨(fun hh => by (try simp [scX, hsX, bX, seX, obX, vaX] at hh) <;> omega), (fun hh => by (try simp [scX, hsX, bX, seX, obX, vaX] at hh) <;> omega)⟩ ⟨(fun hh => by (try simp [scM, nX, hX, seM, rsX, dfX, ldX] at hh) <;> omega), fun j => (fun hh => by (try simp [scM, nX, hX, seM, rsX, dfX, ldX] at hh) <;> omega)⟩,
        r2.kp hC hM (fun hh => by (try simp [scX, hsX, bX, seX, obX, vaX] at hh) <;> omega) (fun j => (fun hh => by (try simp [scM, nX, hX, seM, rsX, dfX, ldX] at hh) <;> omega)),
        r3.kp hC hM (fun hh => by (try simp [scX, hsX, bX, seX, obX, vaX] at hh) <;> omega) (fun j => (fun hh => by (try simp [scM, nX, hX, seM, rsX, dfX, ldX] at hh) <;> omega)),
        r4.kp hC hM (fun hh => by (try simp [scX, hsX, bX, seX, obX, vaX] at hh) <;> omega) (fun j => (fun hh => by (try simp [scM, nX, hX, seM, rsX, dfX, ldX] at hh) <;> omega)),
        r5.kp hC (fun hh => by (try simp [scX, hsX, bX, seX, obX, vaX] at hh) <;> omega),
        r6.kp hC hM (fun hh => by (try simp [scX, hsX, bX, seX, obX, vaX] at hh) <;> omega) (fun j => (fun hh => by (try simp [scM, nX, hX, seM, rsX, dfX, ldX] at hh) <;> omega)),
        (r7.kp hC hM (fun hh => by (try simp [scX, hsX, bX, seX, obX, vaX] at hh) <;> omega) ⟨(fun hh => by (try simp [scM, nX, hX, seM, rsX, dfX, ldX] at hh) <;> omega), (fun hh => by (try simp [scM, nX, hX, seM, rsX, dfX, ldX] at hh) <;> omega), (fun hh => by (try simp [scM, nX, hX, seM, rsX, dfX, ldX] at hh) <;> omega), (fun hh => by (try simp [scM, nX, hX, seM, rsX, dfX, ldX] at hh) <;> omega)⟩).mono (Nat.le_succ _),
        r8.kp hC hM (fun hh => by (try simp [scX, hsX, bX, seX, obX, vaX] at hh) <;> omega) (fun hh => by (try simp [scM, nX, hX, seM, rsX, dfX, ldX] at hh) <;> omega),
        (r9.kp hC (fun hh => by (try simp [scX, hsX, bX, seX, obX, vaX] at hh) <;> omega)).mono (Nat.le_succ _),
        fun i' hi' => by
          by_cases e' : i' = i
          · subst e'
            exact ⟨(c3 1 (by decide) (by decide)).trans ((r10 i' hi').1.trans (hM 22 i' (fun hh => by (try simp [scM, nX, hX, seM, rsX, dfX, ldX] at hh) <;> omega)).1.symm), fun _ => ⟨(fun j hj => (c1 j hj).trans (m1 j hj).symm), (c3 2 (by decide) (by decide)).trans (e2.trans (hM 26 i' (fun hh => by (try simp [scM, nX, hX, seM, rsX, dfX, ldX] at hh) <;> omega)).1.symm), (c3 3 (by decide) (by decide)).trans (e3.trans (hM 28 i' (fun hh => by (try simp [scM, nX, hX, seM, rsX, dfX, ldX] at hh) <;> omega)).1.symm), by rw [c3 4 (by decide) (by decide), (hM 24 i' (fun hh => by (try simp [scM, nX, hX, seM, rsX, dfX, ldX] at hh) <;> omega)).1]; exact e4, c2.trans m2.symm, fun _ => by
              rw [c4, m4, e6]
              by_cases z : M.1 27 0 i' = 0
              · rw [if_pos z, if_pos z]
              · rw [if_neg z, if_neg z, e7 (by rw [e6]; exact z)], fun q => (hM 25 i' (fun hh => by (try simp [scM, nX, hX, seM, rsX, dfX, ldX] at hh) <;> omega)).1.trans (e8 ((c3 4 (by decide) (by decide)).symm.trans q)), fun q => by
              obtain ⟨ct, ch, p1, p2, p3, p4, p5⟩ := e9 (fun z => q ((c3 4 (by decide) (by decide)).trans z))
              exact ⟨ct, ch, p1, by omega, ((hC 15 0 (fun hh => by (try simp [scX, hsX, bX, seX, obX, vaX] at hh) <;> omega)).1 2).trans p3, (c3 5 (by decide) (by decide)).trans p4, by rw [(hM 25 i' (fun hh => by (try simp [scM, nX, hX, seM, rsX, dfX, ldX] at hh) <;> omega)).1]; exact p5⟩⟩⟩
          · exact ((r10 i' hi').kp hC hM ⟨(fun hh => by (try simp [scX, hsX, bX, seX, obX, vaX] at hh) <;> omega), (fun hh => by (try simp [scX, hsX, bX, seX, obX, vaX] at hh) <;> omega), (fun hh => by (try simp [scX, hsX, bX, seX, obX, vaX] at hh) <;> omega)⟩ (fun k j h hh => by simp only [seM, thM, vaM, scM, nX, hX, rsX, dfX, ldX] at h hh; omega)).mono (Nat.le_succ _),
        fun t ht => (r11 t ht).kp hC hM ⟨(fun hh => by (try simp [scX, hsX, bX, seX, obX, vaX] at hh) <;> omega), (fun hh => by (try simp [scX, hsX, bX, seX, obX, vaX] at hh) <;> omega), (fun hh => by (try simp [scX, hsX, bX, seX, obX, vaX] at hh) <;> omega), (fun hh => by (try simp [scX, hsX, bX, seX, obX, vaX] at hh) <;> omega), (fun hh => by (try simp [scX, hsX, bX, seX, obX, vaX] at hh) <;> omega)⟩ (fun k j h hh => by simp only [seM, thM, vaM, scM, nX, hX, rsX, dfX, ldX] at h hh; omega),
        fun v hv => (r12 v hv).kp hC hM ⟨(fun hh => by (try simp [scX, hsX, bX, seX, obX, vaX] at hh) <;> omega), (fun hh => by (try simp [scX, hsX, bX, seX, obX, vaX] at hh) <;> omega), (fun hh => by (try simp [scX, hsX, bX, seX, obX, vaX] at hh) <;> omega)⟩ (fun k j h hh => by simp only [seM, thM, vaM, scM, nX, hX, rsX, dfX, ldX] at h hh; omega)⟩⟩

set_option maxHeartbeats 4000000 in
set_option maxRecDepth 100000 in
theorem rl_policyCode {N : Nat} {C M C' M' : mSt} (x y : Int32) (hT : rTape C M) (h0 : Rel0 N C M) (hN : N ≤ 1000) (hC : (seO C x = none → C' = C) ∧ ∀ i, seO C x = some i → ((C.1 19 i 3 = 0 ∧ ¬ y < 1 ∧ y ≤ 6) → (∀ j, j < 32 → C'.2.1 20 i j = shaL (mTk (C.2.1 20 i) 32 ++ [(3 : Int32).toInt8] ++ [y.toInt8]) j) ∧ C'.1 19 i 3 = y ∧ (∀ q, ¬ q = 3 → C'.1 19 i q = C.1 19 i q) ∧ mSame (fun k i' => scX k i' ∨ seX i k i') C C') ∧ (¬ (C.1 19 i 3 = 0 ∧ ¬ y < 1 ∧ y ≤ 6) → C' = C)) (hM : (msO M x = none → M' = M) ∧ ∀ i, msO M x = some i → ((M.1 28 0 i = 0 ∧ ¬ y < 1 ∧ y ≤ 6) → (∀ j, j < 32 → M'.2.1 23 0 (32 * i + j) = shaL (mTk (fun q => M.2.1 23 0 (32 * i + q)) 32 ++ [(3 : Int32).toInt8] ++ [y.toInt8]) j) ∧ M'.1 28 0 i = y ∧ nSame (fun k j => scM k j ∨ (k = 23 ∧ 32 * i ≤ j ∧ j < 32 * i + 32) ∨ (k = 28 ∧ j = i)) M M') ∧ (¬ (M.1 28 0 i = 0 ∧ ¬ y < 1 ∧ y ≤ 6) → M' = M)) : (((seO C x).elim (-1) (fun i => if (C.1 19 i 3 = 0 ∧ ¬ y < 1 ∧ y ≤ 6) then 0 else -1)) : Int32) = ((msO M x).elim (-1) (fun i => if (M.1 28 0 i = 0 ∧ ¬ y < 1 ∧ y ≤ 6) then 0 else -1)) ∧ Rel (N + 1) C' M' := by
  rw [seO_eq h0] at hC ⊢
  cases e : msO M x with
  | none =>
    rw [hC.1 e, hM.1 e]
    exact ⟨rfl, hT, h0.mono (Nat.le_succ _)⟩
  | some i =>
    have hC := hC.2 i e
    have hM := hM.2 i e
    have h0' := h0
    obtain ⟨r1, r2, r3, r4, r5, r6, r7, r8, r9, r10, r11, r12⟩ := h0
    obtain ⟨hxi, hi, ho⟩ := opO_some (by decide) e
    have ho' : ¬ C.1 19 i 1 = 0 := by rw [(r10 i hi).1]; exact ho
    obtain ⟨d, e2, e3, e4, e6, e7, e8, e9⟩ := (r10 i hi).2 ho'
    have hd : mTk (C.2.1 20 i) 32 = mTk (fun q => M.2.1 23 0 (32 * i + q)) 32 := mTk_congr d
    rw [e3] at hC
    show (if C.1 19 i 3 = 0 ∧ ¬ y < 1 ∧ y ≤ 6 then (0 : Int32) else -1) = (if M.1 28 0 i = 0 ∧ ¬ y < 1 ∧ y ≤ 6 then 0 else -1) ∧ _
    rw [e3]
    by_cases hr : M.1 28 0 i = 0 ∧ ¬ y < 1 ∧ y ≤ 6
    · obtain ⟨c1, c2, c3, hC⟩ := hC.1 hr
      obtain ⟨m1, m2, hM⟩ := hM.1 hr
      rw [hd] at c1
      exact ⟨rfl, hT.kp hC hM ⟨(fun hh => by (try simp [scX, hsX, bX, seX, obX, vaX] at hh) <;> omega), (fun hh => by (try simp [scX, hsX, bX, seX, obX, vaX] at hh) <;> omega)⟩ ⟨(fun hh => by (try simp [scM, nX, hX, seM, rsX, dfX, ldX] at hh) <;> omega), fun j => (fun hh => by (try simp [scM, nX, hX, seM, rsX, dfX, ldX] at hh) <;> omega)⟩, ⟨r1.kp hC hM ⟨(fun hh => by (try simp [scX, hsX, bX, seX, obX, vaX] at hh) <;> omega), (fun hh => by (try simp [scX, hsX, bX, seX, obX, vaX] at hh) <;> omega)⟩ ⟨(fun hh => by (try simp [scM, nX, hX, seM, rsX, dfX, ldX] at hh) <;> omega), fun j => (fun hh => by (try simp [scM, nX, hX, seM, rsX, dfX, ldX] at hh) <;> omega)⟩,
          r2.kp hC hM (fun hh => by (try simp [scX, hsX, bX, seX, obX, vaX] at hh) <;> omega) (fun j => (fun hh => by (try simp [scM, nX, hX, seM, rsX, dfX, ldX] at hh) <;> omega)),
          r3.kp hC hM (fun hh => by (try simp [scX, hsX, bX, seX, obX, vaX] at hh) <;> omega) (fun j => (fun hh => by (try simp [scM, nX, hX, seM, rsX, dfX, ldX] at hh) <;> omega)),
          r4.kp hC hM (fun hh => by (try simp [scX, hsX, bX, seX, obX, vaX] at hh) <;> omega) (fun j => (fun hh => by (try simp [scM, nX, hX, seM, rsX, dfX, ldX] at hh) <;> omega)),
          r5.kp hC (fun hh => by (try simp [scX, hsX, bX, seX, obX, vaX] at hh) <;> omega),
          r6.kp hC hM (fun hh => by (try simp [scX, hsX, bX, seX, obX, vaX] at hh) <;> omega) (fun j => (fun hh => by (try simp [scM, nX, hX, seM, rsX, dfX, ldX] at hh) <;> omega)),
          (r7.kp hC hM (fun hh => by (try simp [scX, hsX, bX, seX, obX, vaX] at hh) <;> omega) ⟨(fun hh => by (try simp [scM, nX, hX, seM, rsX, dfX, ldX] at hh) <;> omega), (fun hh => by (try simp [scM, nX, hX, seM, rsX, dfX, ldX] at hh) <;> omega), (fun hh => by (try simp [scM, nX, hX, seM, rsX, dfX, ldX] at hh) <;> omega), (fun hh => by (try simp [scM, nX, hX, seM, rsX, dfX, ldX] at hh) <;> omega)⟩).mono (Nat.le_succ _),
          r8.kp hC hM (fun hh => by (try simp [scX, hsX, bX, seX, obX, vaX] at hh) <;> omega) (fun hh => by (try simp [scM, nX, hX, seM, rsX, dfX, ldX] at hh) <;> omega),
          (r9.kp hC (fun hh => by (try simp [scX, hsX, bX, seX, obX, vaX] at hh) <;> omega)).mono (Nat.le_succ _),
          fun i' hi' => by
            by_cases e' : i' = i
            · subst e'
              exact ⟨(c3 1 (by decide)).trans ((r10 i' hi').1.trans (hM 22 i' (fun hh => by (try simp [scM, nX, hX, seM, rsX, dfX, ldX] at hh) <;> omega)).1.symm), fun _ => ⟨(fun j hj => (c1 j hj).trans (m1 j hj).symm), (c3 2 (by decide)).trans (e2.trans (hM 26 i' (fun hh => by (try simp [scM, nX, hX, seM, rsX, dfX, ldX] at hh) <;> omega)).1.symm), c2.trans m2.symm, by rw [c3 4 (by decide), (hM 24 i' (fun hh => by (try simp [scM, nX, hX, seM, rsX, dfX, ldX] at hh) <;> omega)).1]; exact e4, (c3 6 (by decide)).trans (e6.trans (hM 27 i' (fun hh => by (try simp [scM, nX, hX, seM, rsX, dfX, ldX] at hh) <;> omega)).1.symm), fun q => (c3 7 (by decide)).trans ((e7 (fun z => q ((c3 6 (by decide)).trans z))).trans (hM 29 i' (fun hh => by (try simp [scM, nX, hX, seM, rsX, dfX, ldX] at hh) <;> omega)).1.symm), fun q => (hM 25 i' (fun hh => by (try simp [scM, nX, hX, seM, rsX, dfX, ldX] at hh) <;> omega)).1.trans (e8 ((c3 4 (by decide)).symm.trans q)), fun q => by
                obtain ⟨ct, ch, p1, p2, p3, p4, p5⟩ := e9 (fun z => q ((c3 4 (by decide)).trans z))
                exact ⟨ct, ch, p1, by omega, ((hC 15 0 (fun hh => by (try simp [scX, hsX, bX, seX, obX, vaX] at hh) <;> omega)).1 2).trans p3, (c3 5 (by decide)).trans p4, by rw [(hM 25 i' (fun hh => by (try simp [scM, nX, hX, seM, rsX, dfX, ldX] at hh) <;> omega)).1]; exact p5⟩⟩⟩
            · exact ((r10 i' hi').kp hC hM ⟨(fun hh => by (try simp [scX, hsX, bX, seX, obX, vaX] at hh) <;> omega), (fun hh => by (try simp [scX, hsX, bX, seX, obX, vaX] at hh) <;> omega), (fun hh => by (try simp [scX, hsX, bX, seX, obX, vaX] at hh) <;> omega)⟩ (fun k j h hh => by simp only [seM, thM, vaM, scM, nX, hX, rsX, dfX, ldX] at h hh; omega)).mono (Nat.le_succ _),
          fun t ht => (r11 t ht).kp hC hM ⟨(fun hh => by (try simp [scX, hsX, bX, seX, obX, vaX] at hh) <;> omega), (fun hh => by (try simp [scX, hsX, bX, seX, obX, vaX] at hh) <;> omega), (fun hh => by (try simp [scX, hsX, bX, seX, obX, vaX] at hh) <;> omega), (fun hh => by (try simp [scX, hsX, bX, seX, obX, vaX] at hh) <;> omega), (fun hh => by (try simp [scX, hsX, bX, seX, obX, vaX] at hh) <;> omega)⟩ (fun k j h hh => by simp only [seM, thM, vaM, scM, nX, hX, rsX, dfX, ldX] at h hh; omega),
          fun v hv => (r12 v hv).kp hC hM ⟨(fun hh => by (try simp [scX, hsX, bX, seX, obX, vaX] at hh) <;> omega), (fun hh => by (try simp [scX, hsX, bX, seX, obX, vaX] at hh) <;> omega), (fun hh => by (try simp [scX, hsX, bX, seX, obX, vaX] at hh) <;> omega)⟩ (fun k j h hh => by simp only [seM, thM, vaM, scM, nX, hX, rsX, dfX, ldX] at h hh; omega)⟩⟩
    · rw [hC.2 hr, hM.2 hr]
      exact ⟨rfl, hT, h0'.mono (Nat.le_succ _)⟩

set_option maxHeartbeats 4000000 in
set_option maxRecDepth 100000 in
theorem rl_policyState {N : Nat} {C M C' M' : mSt} (x y : Int32) (hT : rTape C M) (h0 : Rel0 N C M) (hN : N ≤ 1000) (hC : (seO C x = none → C' = C) ∧ ∀ i, seO C x = some i → (∀ j, j < 32 → C'.2.1 20 i j = shaL (mTk (C.2.1 20 i) 32 ++ [(1 : Int32).toInt8] ++ [y.toInt8] ++ mTk (shaL (regL (C.2.1 16 0) y 8)) 32) j) ∧ (∀ q, C'.1 19 i q = (if C.1 19 i 4 = 0 then (if q = 4 then 1 else if q = 5 then C.1 15 0 2 else C.1 19 i q) else C.1 19 i q)) ∧ mSame (fun k i' => scX k i' ∨ seX i k i') C C') (hM : (msO M x = none → M' = M) ∧ ∀ i, msO M x = some i → (∀ j, j < 32 → M'.2.1 23 0 (32 * i + j) = shaL (mTk (fun q => M.2.1 23 0 (32 * i + q)) 32 ++ [(1 : Int32).toInt8] ++ [y.toInt8] ++ mTk (shaL (regL (M.2.1 16 0) y 8)) 32) j) ∧ M'.1 24 0 i = 1 ∧ nSame (fun k j => scM k j ∨ (k = 23 ∧ 32 * i ≤ j ∧ j < 32 * i + 32) ∨ (k = 24 ∧ j = i)) M M') : (((seO C x).elim (-1) (fun _ => 0)) : Int32) = ((msO M x).elim (-1) (fun _ => 0)) ∧ Rel (N + 1) C' M' := by
  rw [seO_eq h0] at hC ⊢
  cases e : msO M x with
  | none =>
    rw [hC.1 e, hM.1 e]
    exact ⟨rfl, hT, h0.mono (Nat.le_succ _)⟩
  | some i =>
    have hC := hC.2 i e
    have hM := hM.2 i e
    have h0' := h0
    obtain ⟨r1, r2, r3, r4, r5, r6, r7, r8, r9, r10, r11, r12⟩ := h0
    obtain ⟨hxi, hi, ho⟩ := opO_some (by decide) e
    have ho' : ¬ C.1 19 i 1 = 0 := by rw [(r10 i hi).1]; exact ho
    obtain ⟨d, e2, e3, e4, e6, e7, e8, e9⟩ := (r10 i hi).2 ho'
    have hd : mTk (C.2.1 20 i) 32 = mTk (fun q => M.2.1 23 0 (32 * i + q)) 32 := mTk_congr d
    obtain ⟨c1, c3, hC⟩ := hC
    obtain ⟨m1, m2, hM⟩ := hM
    rw [hd, regL_cg r6] at c1
    exact ⟨rfl, hT.kp hC hM ⟨(fun hh => by (try simp [scX, hsX, bX, seX, obX, vaX] at hh) <;> omega), (fun hh => by (try simp [scX, hsX, bX, seX, obX, vaX] at hh) <;> omega)⟩ ⟨(fun hh => by (try simp [scM, nX, hX, seM, rsX, dfX, ldX] at hh) <;> omega), fun j => (fun hh => by (try simp [scM, nX, hX, seM, rsX, dfX, ldX] at hh) <;> omega)⟩, ⟨r1.kp hC hM ⟨(fun hh => by (try simp [scX, hsX, bX, seX, obX, vaX] at hh) <;> omega), (fun hh => by (try simp [scX, hsX, bX, seX, obX, vaX] at hh) <;> omega)⟩ ⟨(fun hh => by (try simp [scM, nX, hX, seM, rsX, dfX, ldX] at hh) <;> omega), fun j => (fun hh => by (try simp [scM, nX, hX, seM, rsX, dfX, ldX] at hh) <;> omega)⟩,
        r2.kp hC hM (fun hh => by (try simp [scX, hsX, bX, seX, obX, vaX] at hh) <;> omega) (fun j => (fun hh => by (try simp [scM, nX, hX, seM, rsX, dfX, ldX] at hh) <;> omega)),
        r3.kp hC hM (fun hh => by (try simp [scX, hsX, bX, seX, obX, vaX] at hh) <;> omega) (fun j => (fun hh => by (try simp [scM, nX, hX, seM, rsX, dfX, ldX] at hh) <;> omega)),
        r4.kp hC hM (fun hh => by (try simp [scX, hsX, bX, seX, obX, vaX] at hh) <;> omega) (fun j => (fun hh => by (try simp [scM, nX, hX, seM, rsX, dfX, ldX] at hh) <;> omega)),
        r5.kp hC (fun hh => by (try simp [scX, hsX, bX, seX, obX, vaX] at hh) <;> omega),
        r6.kp hC hM (fun hh => by (try simp [scX, hsX, bX, seX, obX, vaX] at hh) <;> omega) (fun j => (fun hh => by (try simp [scM, nX, hX, seM, rsX, dfX, ldX] at hh) <;> omega)),
        (r7.kp hC hM (fun hh => by (try simp [scX, hsX, bX, seX, obX, vaX] at hh) <;> omega) ⟨(fun hh => by (try simp [scM, nX, hX, seM, rsX, dfX, ldX] at hh) <;> omega), (fun hh => by (try simp [scM, nX, hX, seM, rsX, dfX, ldX] at hh) <;> omega), (fun hh => by (try simp [scM, nX, hX, seM, rsX, dfX, ldX] at hh) <;> omega), (fun hh => by (try simp [scM, nX, hX, seM, rsX, dfX, ldX] at hh) <;> omega)⟩).mono (Nat.le_succ _),
        r8.kp hC hM (fun hh => by (try simp [scX, hsX, bX, seX, obX, vaX] at hh) <;> omega) (fun hh => by (try simp [scM, nX, hX, seM, rsX, dfX, ldX] at hh) <;> omega),
        (r9.kp hC (fun hh => by (try simp [scX, hsX, bX, seX, obX, vaX] at hh) <;> omega)).mono (Nat.le_succ _),
        fun i' hi' => by
          by_cases e' : i' = i
          · subst e'
            exact ⟨((c3 1).trans (by by_cases z : C.1 19 i' 4 = 0; (rw [if_pos z]; rfl); (rw [if_neg z]))).trans ((r10 i' hi').1.trans (hM 22 i' (fun hh => by (try simp [scM, nX, hX, seM, rsX, dfX, ldX] at hh) <;> omega)).1.symm), fun _ => ⟨(fun j hj => (c1 j hj).trans (m1 j hj).symm), ((c3 2).trans (by by_cases z : C.1 19 i' 4 = 0; (rw [if_pos z]; rfl); (rw [if_neg z]))).trans (e2.trans (hM 26 i' (fun hh => by (try simp [scM, nX, hX, seM, rsX, dfX, ldX] at hh) <;> omega)).1.symm), ((c3 3).trans (by by_cases z : C.1 19 i' 4 = 0; (rw [if_pos z]; rfl); (rw [if_neg z]))).trans (e3.trans (hM 28 i' (fun hh => by (try simp [scM, nX, hX, seM, rsX, dfX, ldX] at hh) <;> omega)).1.symm), ⟨fun q => by
              rw [c3 4] at q
              by_cases z : C.1 19 i' 4 = 0
              · rw [if_pos z, if_pos rfl] at q
                exact absurd q (by decide)
              · rw [if_neg z] at q
                exact absurd q z, fun q => absurd (m2.symm.trans q) (by decide)⟩, ((c3 6).trans (by by_cases z : C.1 19 i' 4 = 0; (rw [if_pos z]; rfl); (rw [if_neg z]))).trans (e6.trans (hM 27 i' (fun hh => by (try simp [scM, nX, hX, seM, rsX, dfX, ldX] at hh) <;> omega)).1.symm), fun q => ((c3 7).trans (by by_cases z : C.1 19 i' 4 = 0; (rw [if_pos z]; rfl); (rw [if_neg z]))).trans ((e7 (fun z => q (((c3 6).trans (by by_cases z : C.1 19 i' 4 = 0; (rw [if_pos z]; rfl); (rw [if_neg z]))).trans z))).trans (hM 29 i' (fun hh => by (try simp [scM, nX, hX, seM, rsX, dfX, ldX] at hh) <;> omega)).1.symm), fun q => by
              rw [c3 4] at q
              by_cases z : C.1 19 i' 4 = 0
              · rw [if_pos z, if_pos rfl] at q
                exact absurd q (by decide)
              · rw [if_neg z] at q
                exact absurd q z, fun _ => by
              by_cases z : C.1 19 i' 4 = 0
              · obtain ⟨ch, p1, p2⟩ := r9
                refine ⟨ch, ch, Nat.le_refl _, by omega, ((hC 15 0 (fun hh => by (try simp [scX, hsX, bX, seX, obX, vaX] at hh) <;> omega)).1 2).trans p2, (c3 5).trans ?_, ⟨fun _ => rfl, fun _ => (hM 25 i' (fun hh => by (try simp [scM, nX, hX, seM, rsX, dfX, ldX] at hh) <;> omega)).1.trans (e8 z)⟩⟩
                rw [if_pos z, if_neg (by decide), if_pos rfl]
                exact p2
              · obtain ⟨ct, ch, p1, p2, p3, p4, p5⟩ := e9 z
                exact ⟨ct, ch, p1, by omega, ((hC 15 0 (fun hh => by (try simp [scX, hsX, bX, seX, obX, vaX] at hh) <;> omega)).1 2).trans p3, (c3 5).trans ((if_neg z).trans p4), by rw [(hM 25 i' (fun hh => by (try simp [scM, nX, hX, seM, rsX, dfX, ldX] at hh) <;> omega)).1]; exact p5⟩⟩⟩
          · exact ((r10 i' hi').kp hC hM ⟨(fun hh => by (try simp [scX, hsX, bX, seX, obX, vaX] at hh) <;> omega), (fun hh => by (try simp [scX, hsX, bX, seX, obX, vaX] at hh) <;> omega), (fun hh => by (try simp [scX, hsX, bX, seX, obX, vaX] at hh) <;> omega)⟩ (fun k j h hh => by simp only [seM, thM, vaM, scM, nX, hX, rsX, dfX, ldX] at h hh; omega)).mono (Nat.le_succ _),
        fun t ht => (r11 t ht).kp hC hM ⟨(fun hh => by (try simp [scX, hsX, bX, seX, obX, vaX] at hh) <;> omega), (fun hh => by (try simp [scX, hsX, bX, seX, obX, vaX] at hh) <;> omega), (fun hh => by (try simp [scX, hsX, bX, seX, obX, vaX] at hh) <;> omega), (fun hh => by (try simp [scX, hsX, bX, seX, obX, vaX] at hh) <;> omega), (fun hh => by (try simp [scX, hsX, bX, seX, obX, vaX] at hh) <;> omega)⟩ (fun k j h hh => by simp only [seM, thM, vaM, scM, nX, hX, rsX, dfX, ldX] at h hh; omega),
        fun v hv => (r12 v hv).kp hC hM ⟨(fun hh => by (try simp [scX, hsX, bX, seX, obX, vaX] at hh) <;> omega), (fun hh => by (try simp [scX, hsX, bX, seX, obX, vaX] at hh) <;> omega), (fun hh => by (try simp [scX, hsX, bX, seX, obX, vaX] at hh) <;> omega)⟩ (fun k j h hh => by simp only [seM, thM, vaM, scM, nX, hX, rsX, dfX, ldX] at h hh; omega)⟩⟩
