/-! ===== the relation is kept: the other methods ===== -/
theorem ffO_eq {N : Nat} {C M : mSt} (h0 : Rel0 N C M) : ffO C = mfO M := by
  have q := h0.2.2.2.2.2.2.2.2.2.2.1
  unfold ffO mfO
  rw [(q 0 (by decide)).1, (q 1 (by decide)).1, (q 2 (by decide)).1, (q 3 (by decide)).1]
theorem mfO_some {M : mSt} {i : Nat} (h : mfO M = some i) : i < 4 := by
  unfold mfO at h
  split at h
  · cases h; decide
  · split at h
    · cases h; decide
    · split at h
      · cases h; decide
      · split at h
        · cases h; decide
        · cases h
theorem bHas_of {C : mSt} {i n : Nat} (h1 : C.1 2 i 1 = nI n) (h2 : n ≤ mLn i) : bHas C i (mTk (C.2.1 3 i) n) := ⟨by rw [mTk_len]; exact h1, by rw [mTk_len]; exact h2, fun j hj => by rw [mTk_len] at hj; rw [mTk_get _ hj]⟩
theorem tk_div {c n : Nat} (h : c + n ≤ 2000000000) : (nI c + nI n) / 100 - nI c / 100 = nI ((c + n) / 100 - c / 100) := by
  rw [nI_add, show (100 : Int32) = nI 100 from rfl, pk_div (a := c + n) (d := 100) (by omega) (by decide) (by decide), pk_div (a := c) (d := 100) (by omega) (by decide) (by decide)]
  exact pk_sub (by omega)
theorem tk_fail {f t : Nat} (hf : f ≤ 1000000) (ht : t ≤ 1000000) : (if 0 < nI f - nI t then nI f - nI t else 0) = nI (f - t) ∧ (if nI t < nI f then nI f - nI t else 0) = nI (f - t) := by
  by_cases e : t < f
  · have q : nI f - nI t = nI (f - t) := pk_sub (by omega)
    rw [q, if_pos (show (0 : Int32) < nI (f - t) from (nI_ltI (b := f - t) (a := 0) (by decide) (by omega)).mpr (by omega)), if_pos ((nI_ltI (by omega) (by omega)).mpr e)]
    exact ⟨rfl, rfl⟩
  · have z : nI (f - t) = 0 := by rw [show f - t = 0 by omega]; exact nI_0
    rw [z, if_neg (fun q => e ((nI_ltI (by omega) (by omega)).mp q)), if_neg (fun q => ?_)]
    · exact ⟨rfl, rfl⟩
    · have h1 := Int32.lt_iff_toInt_lt.mp q
      rw [Int32.toInt_sub, nI_toInt (by omega), nI_toInt (by omega), Int32.toInt_zero] at h1
      simp only [Int.bmod] at h1
      split at h1
      · omega
      · omega
theorem w_iff {y : Int32} {n L : Nat} (hn : n ≤ 64) (hL : L ≤ 400) : (¬ y < 0 ∧ ¬ nI n < y ∧ nI L ≤ nI n - y) ↔ (¬ y < 0 ∧ y ≤ nI n - nI L) := by
  constructor
  · rintro ⟨h1, h2, h3⟩
    obtain ⟨a, ha, e⟩ := nI_of h1
    subst e
    have q1 : a ≤ n := Nat.not_lt.mp (fun q => h2 ((nI_ltI (by omega) (by omega)).mpr q))
    rw [pk_sub q1] at h3
    have q2 := (nI_leI (by omega) (by omega)).mp h3
    refine ⟨h1, ?_⟩
    rw [pk_sub (show L ≤ n by omega)]
    exact (nI_leI (by omega) (by omega)).mpr (by omega)
  · rintro ⟨h1, h2⟩
    obtain ⟨a, e, q⟩ := sub_le (by omega) (by omega) h1 h2
    subst e
    refine ⟨h1, fun z => ?_, ?_⟩
    · have := (nI_ltI (by omega) (by omega)).mp z
      omega
    · rw [pk_sub (show a ≤ n by omega)]
      exact (nI_leI (by omega) (by omega)).mpr (by omega)
set_option maxHeartbeats 4000000 in
set_option maxRecDepth 100000 in
theorem rl_policyOr {N : Nat} {C M C' M' : mSt} (x : Int32) (ts : List Int8) (htC : bHas C 0 ts) (htM : nHas 1 400 M ts) (h0 : Rel0 N C M) (hN : N ≤ 1000) (hC : bHas C' 0 [] ∧ (seO C x = none → mSame (bX 0) C C') ∧ ∀ i, seO C x = some i → ((orOk ts ∧ orB (C.2.1 20 i) (C.2.1 3 0) (ts.length / 32) = true) → (∀ j, j < 32 → C'.2.1 20 i j = shaL (mTk (C.2.1 13 0) 32 ++ [(5 : Int32).toInt8] ++ ts) j) ∧ mSame (fun k i' => scX k i' ∨ (k = 20 ∧ i' = i) ∨ bX 0 k i') C C') ∧ (¬ (orOk ts ∧ orB (C.2.1 20 i) (C.2.1 3 0) (ts.length / 32) = true) → mSame (bX 0) C C')) (hM : (msO (mM M 0 0 1 0) x = none → M' = (mM M 0 0 1 0)) ∧ ∀ i, msO (mM M 0 0 1 0) x = some i → ((orOk ts ∧ orB (fun q => M.2.1 23 0 (32 * i + q)) (M.2.1 1 0) (ts.length / 32) = true) → (∀ j, j < 32 → M'.2.1 23 0 (32 * i + j) = shaL (mTk (fun _ => (0 : Int32).toInt8) 32 ++ [(5 : Int32).toInt8] ++ ts) j) ∧ nSame (fun k j => scM k j ∨ (k = 23 ∧ 32 * i ≤ j ∧ j < 32 * i + 32)) (mM M 0 0 1 0) M') ∧ (¬ (orOk ts ∧ orB (fun q => M.2.1 23 0 (32 * i + q)) (M.2.1 1 0) (ts.length / 32) = true) → M' = (mM M 0 0 1 0))) : (((seO C x).elim (-1) (fun i => orR C i ts)) : Int32) = ((msO (mM M 0 0 1 0) x).elim (-1) (fun i => if orOk ts then (if orB (fun q => M.2.1 23 0 (32 * i + q)) (M.2.1 1 0) (ts.length / 32) = true then 0 else -7) else -1)) ∧ Rel (N + 1) C' M' := by
  have hT0 := h0.cutM
  rw [seO_eq hT0] at hC ⊢
  cases e : msO (mM M 0 0 1 0) x with
  | none =>
    rw [hM.1 e]
    exact ⟨rfl, ⟨_, hC.1, nil_T⟩, (hT0.kp (hC.2.1 e) (nSame.rf (X := fun _ _ => False)) (fun k i h hh => by simp only [reC, scX, hsX, bX, seX, obX, vaX] at h hh; omega) (fun _ _ _ h => h)).mono (Nat.le_succ _)⟩
  | some i =>
    obtain ⟨t1, -, hC⟩ := hC
    have hC := hC i e
    have hM := hM.2 i e
    have h0' := hT0
    obtain ⟨r1, r2, r3, r4, r5, r6, r7, r8, r9, r10, r11, r12⟩ := hT0
    obtain ⟨hxi, hi, ho⟩ := opO_some (by decide) e
    have ho' : ¬ C.1 19 i 1 = 0 := by rw [(r10 i hi).1]; exact ho
    obtain ⟨d, e2, e3, e4, e6, e7, e8, e9⟩ := (r10 i hi).2 ho'
    have ho : orB (C.2.1 20 i) (C.2.1 3 0) (ts.length / 32) = orB (fun q => M.2.1 23 0 (32 * i + q)) (M.2.1 1 0) (ts.length / 32) := orB_cg _ d (fun j hj => (htC.2.2 j (by omega)).trans (htM.2.2 j (by omega)).symm)
    rw [ho] at hC
    show orR C i ts = _ ∧ _
    unfold orR
    rw [ho]
    refine ⟨rfl, ?_⟩
    by_cases hr : orOk ts ∧ orB (fun q => M.2.1 23 0 (32 * i + q)) (M.2.1 1 0) (ts.length / 32) = true
    · obtain ⟨c1, hC⟩ := hC.1 hr
      obtain ⟨m1, hM⟩ := hM.1 hr
      rw [mTk_congr r5] at c1
      exact ⟨⟨_, t1, nil_of hM (fun hh => by (try simp [scM, nX, hX, seM, rsX, dfX, ldX] at hh) <;> omega)⟩, ⟨r1.kp hC hM ⟨(fun hh => by (try simp [scX, hsX, bX, seX, obX, vaX] at hh) <;> omega), (fun hh => by (try simp [scX, hsX, bX, seX, obX, vaX] at hh) <;> omega)⟩ ⟨(fun hh => by (try simp [scM, nX, hX, seM, rsX, dfX, ldX] at hh) <;> omega), fun j => (fun hh => by (try simp [scM, nX, hX, seM, rsX, dfX, ldX] at hh) <;> omega)⟩,
          r2.kp hC hM (fun hh => by (try simp [scX, hsX, bX, seX, obX, vaX] at hh) <;> omega) (fun j => (fun hh => by (try simp [scM, nX, hX, seM, rsX, dfX, ldX] at hh) <;> omega)),
          r3.kp hC hM (fun hh => by (try simp [scX, hsX, bX, seX, obX, vaX] at hh) <;> omega) (fun j => (fun hh => by (try simp [scM, nX, hX, seM, rsX, dfX, ldX] at hh) <;> omega)),
          r4.kp hC hM (fun hh => by (try simp [scX, hsX, bX, seX, obX, vaX] at hh) <;> omega) (fun j => (fun hh => by (try simp [scM, nX, hX, seM, rsX, dfX, ldX] at hh) <;> omega)),
          r5.kp hC (fun hh => by (try simp [scX, hsX, bX, seX, obX, vaX] at hh) <;> omega),
          r6.kp hC hM (fun hh => by (try simp [scX, hsX, bX, seX, obX, vaX] at hh) <;> omega) (fun j => (fun hh => by (try simp [scM, nX, hX, seM, rsX, dfX, ldX] at hh) <;> omega)),
          (r7.kp hC hM (fun hh => by (try simp [scX, hsX, bX, seX, obX, vaX] at hh) <;> omega) ⟨(fun hh => by (try simp [scM, nX, hX, seM, rsX, dfX, ldX] at hh) <;> omega), (fun hh => by (try simp [scM, nX, hX, seM, rsX, dfX, ldX] at hh) <;> omega), (fun hh => by (try simp [scM, nX, hX, seM, rsX, dfX, ldX] at hh) <;> omega), (fun hh => by (try simp [scM, nX, hX, seM, rsX, dfX, ldX] at hh) <;> omega)⟩).mono (Nat.le_succ _),
          r8.kp hC hM (fun hh => by (try simp [scX, hsX, bX, seX, obX, vaX] at hh) <;> omega) (fun hh => by (try simp [scM, nX, hX, seM, rsX, dfX, ldX] at hh) <;> omega),
          (r9.kp hC (fun hh => by (try simp [scX, hsX, bX, seX, obX, vaX] at hh) <;> omega)).mono (Nat.le_succ _),
          fun i' hi' => by
            by_cases e' : i' = i
            · subst e'
              exact ⟨((hC 19 i' (fun hh => by (try simp [scX, hsX, bX, seX, obX, vaX] at hh) <;> omega)).1 1).trans ((r10 i' hi').1.trans (hM 22 i' (fun hh => by (try simp [scM, nX, hX, seM, rsX, dfX, ldX] at hh) <;> omega)).1.symm), fun _ => ⟨(fun j hj => (c1 j hj).trans (m1 j hj).symm), ((hC 19 i' (fun hh => by (try simp [scX, hsX, bX, seX, obX, vaX] at hh) <;> omega)).1 2).trans (e2.trans (hM 26 i' (fun hh => by (try simp [scM, nX, hX, seM, rsX, dfX, ldX] at hh) <;> omega)).1.symm), ((hC 19 i' (fun hh => by (try simp [scX, hsX, bX, seX, obX, vaX] at hh) <;> omega)).1 3).trans (e3.trans (hM 28 i' (fun hh => by (try simp [scM, nX, hX, seM, rsX, dfX, ldX] at hh) <;> omega)).1.symm), by rw [(hC 19 i' (fun hh => by (try simp [scX, hsX, bX, seX, obX, vaX] at hh) <;> omega)).1 4, (hM 24 i' (fun hh => by (try simp [scM, nX, hX, seM, rsX, dfX, ldX] at hh) <;> omega)).1]; exact e4, ((hC 19 i' (fun hh => by (try simp [scX, hsX, bX, seX, obX, vaX] at hh) <;> omega)).1 6).trans (e6.trans (hM 27 i' (fun hh => by (try simp [scM, nX, hX, seM, rsX, dfX, ldX] at hh) <;> omega)).1.symm), fun q => ((hC 19 i' (fun hh => by (try simp [scX, hsX, bX, seX, obX, vaX] at hh) <;> omega)).1 7).trans ((e7 (fun z => q (((hC 19 i' (fun hh => by (try simp [scX, hsX, bX, seX, obX, vaX] at hh) <;> omega)).1 6).trans z))).trans (hM 29 i' (fun hh => by (try simp [scM, nX, hX, seM, rsX, dfX, ldX] at hh) <;> omega)).1.symm), fun q => (hM 25 i' (fun hh => by (try simp [scM, nX, hX, seM, rsX, dfX, ldX] at hh) <;> omega)).1.trans (e8 (((hC 19 i' (fun hh => by (try simp [scX, hsX, bX, seX, obX, vaX] at hh) <;> omega)).1 4).symm.trans q)), fun q => by
                obtain ⟨ct, ch, p1, p2, p3, p4, p5⟩ := e9 (fun z => q (((hC 19 i' (fun hh => by (try simp [scX, hsX, bX, seX, obX, vaX] at hh) <;> omega)).1 4).trans z))
                exact ⟨ct, ch, p1, by omega, ((hC 15 0 (fun hh => by (try simp [scX, hsX, bX, seX, obX, vaX] at hh) <;> omega)).1 2).trans p3, ((hC 19 i' (fun hh => by (try simp [scX, hsX, bX, seX, obX, vaX] at hh) <;> omega)).1 5).trans p4, by rw [(hM 25 i' (fun hh => by (try simp [scM, nX, hX, seM, rsX, dfX, ldX] at hh) <;> omega)).1]; exact p5⟩⟩⟩
            · exact ((r10 i' hi').kp hC hM ⟨(fun hh => by (try simp [scX, hsX, bX, seX, obX, vaX] at hh) <;> omega), (fun hh => by (try simp [scX, hsX, bX, seX, obX, vaX] at hh) <;> omega), (fun hh => by (try simp [scX, hsX, bX, seX, obX, vaX] at hh) <;> omega)⟩ (fun k j h hh => by simp only [seM, thM, vaM, scM, nX, hX, rsX, dfX, ldX] at h hh; omega)).mono (Nat.le_succ _),
          fun t ht => (r11 t ht).kp hC hM ⟨(fun hh => by (try simp [scX, hsX, bX, seX, obX, vaX] at hh) <;> omega), (fun hh => by (try simp [scX, hsX, bX, seX, obX, vaX] at hh) <;> omega), (fun hh => by (try simp [scX, hsX, bX, seX, obX, vaX] at hh) <;> omega), (fun hh => by (try simp [scX, hsX, bX, seX, obX, vaX] at hh) <;> omega), (fun hh => by (try simp [scX, hsX, bX, seX, obX, vaX] at hh) <;> omega)⟩ (fun k j h hh => by simp only [seM, thM, vaM, scM, nX, hX, rsX, dfX, ldX] at h hh; omega),
          fun v hv => (r12 v hv).kp hC hM ⟨(fun hh => by (try simp [scX, hsX, bX, seX, obX, vaX] at hh) <;> omega), (fun hh => by (try simp [scX, hsX, bX, seX, obX, vaX] at hh) <;> omega), (fun hh => by (try simp [scX, hsX, bX, seX, obX, vaX] at hh) <;> omega)⟩ (fun k j h hh => by simp only [seM, thM, vaM, scM, nX, hX, rsX, dfX, ldX] at h hh; omega)⟩⟩
    · rw [hM.2 hr]
      exact ⟨⟨_, t1, nil_T⟩, (h0'.kp (hC.2 hr) (nSame.rf (X := fun _ _ => False)) (fun k i h hh => by simp only [reC, scX, hsX, bX, seX, obX, vaX] at h hh; omega) (fun _ _ _ h => h)).mono (Nat.le_succ _)⟩

set_option maxHeartbeats 4000000 in
set_option maxRecDepth 100000 in
theorem rl_quote {N : Nat} {C M C' M' : mSt} (x : Int32) (ts : List Int8) (htC : bHas C 0 ts) (htM : nHas 1 400 M ts) (h0 : Rel0 N C M) (hN : N ≤ 1000) (hC : bHas C' 0 [] ∧ (ts.length ≤ 32 → bHas C' 1 (quL C x ts ++ mTk (macL (macL (C.2.1 8 0) [(81 : Int32).toInt8]) (quL C x ts)) 32) ∧ mSame (fun k i => scX k i ∨ bX 0 k i ∨ bX 1 k i) C C') ∧ (¬ ts.length ≤ 32 → mSame (bX 0) C C')) (hM : (ts.length ≤ 32 → nHas 3 512 M' (mquL M x ts ++ mTk (macL (macL (M.2.1 13 0) [(81 : Int32).toInt8]) (mquL M x ts)) 32) ∧ nSame (fun k j => scM k j ∨ nX 3 k j) (mM M 0 0 1 0) M') ∧ (¬ ts.length ≤ 32 → M' = (mM M 0 0 1 0))) : ((if ts.length ≤ 32 then nI (74 + ts.length) else -1) : Int32) = (if ts.length ≤ 32 then nI (74 + ts.length) else -1) ∧ Rel (N + 1) C' M' := by
  have h0' := h0.cutM
  have hT0 := h0'
  obtain ⟨r1, r2, r3, r4, r5, r6, r7, r8, r9, r10, r11, r12⟩ := hT0
  have hq : quL C x ts = mquL M x ts := by
    unfold quL mquL
    rw [regL_cg h0.2.2.2.2.2.1, h0.2.2.2.2.2.2.1.1, h0.2.2.2.2.2.2.1.2.1]
  have hs : macL (C.2.1 8 0) [(81 : Int32).toInt8] = macL (M.2.1 13 0) [(81 : Int32).toInt8] := macL_cg r4
  rw [hq, hs] at hC
  refine ⟨rfl, ?_⟩
  by_cases hr : ts.length ≤ 32
  · obtain ⟨c2, hs1⟩ := hC.2.1 hr
    obtain ⟨m2, hM⟩ := hM.1 hr
    exact ⟨⟨_, hC.1, nil_of hM (fun hh => by (try simp [scM, nX, hX, seM, rsX, dfX, ldX] at hh) <;> omega)⟩, ⟨⟨_, c2, m2⟩,
        r2.kp hs1 hM (fun hh => by (try simp [scX, hsX, bX, seX, obX, vaX] at hh) <;> omega) (fun j => (fun hh => by (try simp [scM, nX, hX, seM, rsX, dfX, ldX] at hh) <;> omega)),
        r3.kp hs1 hM (fun hh => by (try simp [scX, hsX, bX, seX, obX, vaX] at hh) <;> omega) (fun j => (fun hh => by (try simp [scM, nX, hX, seM, rsX, dfX, ldX] at hh) <;> omega)),
        r4.kp hs1 hM (fun hh => by (try simp [scX, hsX, bX, seX, obX, vaX] at hh) <;> omega) (fun j => (fun hh => by (try simp [scM, nX, hX, seM, rsX, dfX, ldX] at hh) <;> omega)),
        r5.kp hs1 (fun hh => by (try simp [scX, hsX, bX, seX, obX, vaX] at hh) <;> omega),
        r6.kp hs1 hM (fun hh => by (try simp [scX, hsX, bX, seX, obX, vaX] at hh) <;> omega) (fun j => (fun hh => by (try simp [scM, nX, hX, seM, rsX, dfX, ldX] at hh) <;> omega)),
        (r7.kp hs1 hM (fun hh => by (try simp [scX, hsX, bX, seX, obX, vaX] at hh) <;> omega) ⟨(fun hh => by (try simp [scM, nX, hX, seM, rsX, dfX, ldX] at hh) <;> omega), (fun hh => by (try simp [scM, nX, hX, seM, rsX, dfX, ldX] at hh) <;> omega), (fun hh => by (try simp [scM, nX, hX, seM, rsX, dfX, ldX] at hh) <;> omega), (fun hh => by (try simp [scM, nX, hX, seM, rsX, dfX, ldX] at hh) <;> omega)⟩).mono (Nat.le_succ _),
        r8.kp hs1 hM (fun hh => by (try simp [scX, hsX, bX, seX, obX, vaX] at hh) <;> omega) (fun hh => by (try simp [scM, nX, hX, seM, rsX, dfX, ldX] at hh) <;> omega),
        (r9.kp hs1 (fun hh => by (try simp [scX, hsX, bX, seX, obX, vaX] at hh) <;> omega)).mono (Nat.le_succ _),
        fun i hi => ((r10 i hi).kp hs1 hM ⟨(fun hh => by (try simp [scX, hsX, bX, seX, obX, vaX] at hh) <;> omega), (fun hh => by (try simp [scX, hsX, bX, seX, obX, vaX] at hh) <;> omega), (fun hh => by (try simp [scX, hsX, bX, seX, obX, vaX] at hh) <;> omega)⟩ (fun k j h hh => by simp only [seM, thM, vaM, scM, nX, hX, rsX, dfX, ldX] at h hh; omega)).mono (Nat.le_succ _),
        fun t ht => (r11 t ht).kp hs1 hM ⟨(fun hh => by (try simp [scX, hsX, bX, seX, obX, vaX] at hh) <;> omega), (fun hh => by (try simp [scX, hsX, bX, seX, obX, vaX] at hh) <;> omega), (fun hh => by (try simp [scX, hsX, bX, seX, obX, vaX] at hh) <;> omega), (fun hh => by (try simp [scX, hsX, bX, seX, obX, vaX] at hh) <;> omega), (fun hh => by (try simp [scX, hsX, bX, seX, obX, vaX] at hh) <;> omega)⟩ (fun k j h hh => by simp only [seM, thM, vaM, scM, nX, hX, rsX, dfX, ldX] at h hh; omega),
        fun v hv => (r12 v hv).kp hs1 hM ⟨(fun hh => by (try simp [scX, hsX, bX, seX, obX, vaX] at hh) <;> omega), (fun hh => by (try simp [scX, hsX, bX, seX, obX, vaX] at hh) <;> omega), (fun hh => by (try simp [scX, hsX, bX, seX, obX, vaX] at hh) <;> omega)⟩ (fun k j h hh => by simp only [seM, thM, vaM, scM, nX, hX, rsX, dfX, ldX] at h hh; omega)⟩⟩
  · rw [hM.2 hr]
    exact ⟨⟨_, hC.1, nil_T⟩, (h0'.kp (hC.2.2 hr) (nSame.rf (X := fun _ _ => False)) (fun k i h hh => by simp only [reC, scX, hsX, bX, seX, obX, vaX] at h hh; omega) (fun _ _ _ h => h)).mono (Nat.le_succ _)⟩

set_option maxHeartbeats 4000000 in
set_option maxRecDepth 100000 in
theorem rl_seal {N : Nat} {C M C' M' : mSt} (x : Int32) (ts : List Int8) (htC : bHas C 0 ts) (htM : nHas 1 400 M ts) (h0 : Rel0 N C M) (hN : N ≤ 1000) (hC : bHas C' 0 [] ∧ (poO C x = none → mSame (bX 0) C C') ∧ ∀ k i, poO C x = some (k, i) → (ts.length ≤ 128 → bHas C' 1 (blobL (C.2.1 8 0) (C.1 7 0 4) (C.2.1 k i) (C.2.1 11 0) ts) ∧ C'.1 7 0 4 = C.1 7 0 4 + 1 ∧ mSame (fun k i => scX k i ∨ bX 0 k i ∨ bX 1 k i ∨ k = 7) C C') ∧ (¬ ts.length ≤ 128 → mSame (bX 0) C C')) (hM : ((mpOk (mM M 0 0 1 0) x ∧ ts.length ≤ 128) → nHas 3 512 M' (blobL (M.2.1 13 0) (M.1 0 0 19) (mpF M x) (M.2.1 14 0) ts) ∧ M'.1 0 0 19 = M.1 0 0 19 + 1 ∧ nSame (fun k j => scM k j ∨ nX 3 k j ∨ (k = 0 ∧ j = 19)) (mM M 0 0 1 0) M') ∧ (¬ (mpOk (mM M 0 0 1 0) x ∧ ts.length ≤ 128) → M' = (mM M 0 0 1 0))) : (((poO C x).elim (-1) (fun _ => if ts.length ≤ 128 then nI (101 + ts.length) else -1)) : Int32) = (if (mpOk (mM M 0 0 1 0) x ∧ ts.length ≤ 128) then nI (101 + ts.length) else -1) ∧ Rel (N + 1) C' M' := by
  have h0' := h0.cutM
  have hT0 := h0'
  obtain ⟨r1, r2, r3, r4, r5, r6, r7, r8, r9, r10, r11, r12⟩ := hT0
  cases e : poO C x with
  | none =>
    have hno := poO_no h0' e
    rw [hM.2 (fun q => hno q.1)]
    exact ⟨(if_neg (fun q => hno q.1)).symm, ⟨_, hC.1, nil_T⟩, (h0'.kp (hC.2.1 e) (nSame.rf (X := fun _ _ => False)) (fun k i h hh => by simp only [reC, scX, hsX, bX, seX, obX, vaX] at h hh; omega) (fun _ _ _ h => h)).mono (Nat.le_succ _)⟩
  | some ki =>
    obtain ⟨k, i⟩ := ki
    obtain ⟨hok, hpf⟩ := poO_eq h0' e
    obtain ⟨t1, -, hC⟩ := hC
    have hC := hC k i e
    show (if ts.length ≤ 128 then nI (101 + ts.length) else -1) = _ ∧ _
    by_cases hr : ts.length ≤ 128
    · obtain ⟨c2, c3, hC⟩ := hC.1 hr
      obtain ⟨m2, m3', hM⟩ := hM.1 ⟨hok, hr⟩
      rw [blobL_cg (s' := M.2.1 13 0) (p' := mpF M x) (a' := M.2.1 14 0) r4 hpf r2, show C.1 7 0 4 = M.1 0 0 19 from h0.2.2.2.2.2.2.2.1] at c2
      rw [if_pos hr, if_pos ⟨hok, hr⟩]
      exact ⟨rfl, ⟨_, t1, nil_of hM (fun hh => by (try simp [scM, nX, hX, seM, rsX, dfX, ldX] at hh) <;> omega)⟩, ⟨⟨_, c2, m2⟩,
          r2.kp hC hM (fun hh => by (try simp [scX, hsX, bX, seX, obX, vaX] at hh) <;> omega) (fun j => (fun hh => by (try simp [scM, nX, hX, seM, rsX, dfX, ldX] at hh) <;> omega)),
          r3.kp hC hM (fun hh => by (try simp [scX, hsX, bX, seX, obX, vaX] at hh) <;> omega) (fun j => (fun hh => by (try simp [scM, nX, hX, seM, rsX, dfX, ldX] at hh) <;> omega)),
          r4.kp hC hM (fun hh => by (try simp [scX, hsX, bX, seX, obX, vaX] at hh) <;> omega) (fun j => (fun hh => by (try simp [scM, nX, hX, seM, rsX, dfX, ldX] at hh) <;> omega)),
          r5.kp hC (fun hh => by (try simp [scX, hsX, bX, seX, obX, vaX] at hh) <;> omega),
          r6.kp hC hM (fun hh => by (try simp [scX, hsX, bX, seX, obX, vaX] at hh) <;> omega) (fun j => (fun hh => by (try simp [scM, nX, hX, seM, rsX, dfX, ldX] at hh) <;> omega)),
          (r7.kp hC hM (fun hh => by (try simp [scX, hsX, bX, seX, obX, vaX] at hh) <;> omega) ⟨(fun hh => by (try simp [scM, nX, hX, seM, rsX, dfX, ldX] at hh) <;> omega), (fun hh => by (try simp [scM, nX, hX, seM, rsX, dfX, ldX] at hh) <;> omega), (fun hh => by (try simp [scM, nX, hX, seM, rsX, dfX, ldX] at hh) <;> omega), (fun hh => by (try simp [scM, nX, hX, seM, rsX, dfX, ldX] at hh) <;> omega)⟩).mono (Nat.le_succ _),
          c3.trans (by rw [show C.1 7 0 4 = M.1 0 0 19 from h0.2.2.2.2.2.2.2.1]; exact m3'.symm),
          (r9.kp hC (fun hh => by (try simp [scX, hsX, bX, seX, obX, vaX] at hh) <;> omega)).mono (Nat.le_succ _),
          fun i hi => ((r10 i hi).kp hC hM ⟨(fun hh => by (try simp [scX, hsX, bX, seX, obX, vaX] at hh) <;> omega), (fun hh => by (try simp [scX, hsX, bX, seX, obX, vaX] at hh) <;> omega), (fun hh => by (try simp [scX, hsX, bX, seX, obX, vaX] at hh) <;> omega)⟩ (fun k j h hh => by simp only [seM, thM, vaM, scM, nX, hX, rsX, dfX, ldX] at h hh; omega)).mono (Nat.le_succ _),
          fun t ht => (r11 t ht).kp hC hM ⟨(fun hh => by (try simp [scX, hsX, bX, seX, obX, vaX] at hh) <;> omega), (fun hh => by (try simp [scX, hsX, bX, seX, obX, vaX] at hh) <;> omega), (fun hh => by (try simp [scX, hsX, bX, seX, obX, vaX] at hh) <;> omega), (fun hh => by (try simp [scX, hsX, bX, seX, obX, vaX] at hh) <;> omega), (fun hh => by (try simp [scX, hsX, bX, seX, obX, vaX] at hh) <;> omega)⟩ (fun k j h hh => by simp only [seM, thM, vaM, scM, nX, hX, rsX, dfX, ldX] at h hh; omega),
          fun v hv => (r12 v hv).kp hC hM ⟨(fun hh => by (try simp [scX, hsX, bX, seX, obX, vaX] at hh) <;> omega), (fun hh => by (try simp [scX, hsX, bX, seX, obX, vaX] at hh) <;> omega), (fun hh => by (try simp [scX, hsX, bX, seX, obX, vaX] at hh) <;> omega)⟩ (fun k j h hh => by simp only [seM, thM, vaM, scM, nX, hX, rsX, dfX, ldX] at h hh; omega)⟩⟩
    · rw [hM.2 (fun q => hr q.2), if_neg hr, if_neg (fun q => hr q.2)]
      exact ⟨rfl, ⟨_, t1, nil_T⟩, (h0'.kp (hC.2 hr) (nSame.rf (X := fun _ _ => False)) (fun k i h hh => by simp only [reC, scX, hsX, bX, seX, obX, vaX] at h hh; omega) (fun _ _ _ h => h)).mono (Nat.le_succ _)⟩

set_option maxHeartbeats 4000000 in
set_option maxRecDepth 100000 in
theorem rl_load {N : Nat} {C M C' M' : mSt} (ts : List Int8) (htC : bHas C 0 ts) (htM : nHas 1 400 M ts) (h0 : Rel0 N C M) (hN : N ≤ 1000) (hC : bHas C' 0 [] ∧ (¬ uwB (C.2.1 8 0) ts = true → mSame (fun k i => scX k i ∨ bX 0 k i) C C') ∧ (uwB (C.2.1 8 0) ts = true → (ffO C = none → mSame (fun k i => scX k i ∨ bX 0 k i) C C') ∧ ∀ i, ffO C = some i → C'.1 22 i 3 = 1 ∧ (∀ q, q < 32 → C'.2.1 24 i q = uwF (C.2.1 8 0) ts (4 + q)) ∧ (∀ q, q < 32 → C'.2.1 23 i q = uwF (C.2.1 8 0) ts (36 + q)) ∧ bHas C' (3 + i) (mTk (fun q => uwF (C.2.1 8 0) ts (69 + q)) (ts.length - 101)) ∧ mSame (fun k i' => scX k i' ∨ bX 0 k i' ∨ obX i k i') C C')) (hM : (¬ uwB (M.2.1 13 0) ts = true → nSame (fun k j => scM k j ∨ k = 1) (mM M 0 0 1 0) M') ∧ (uwB (M.2.1 13 0) ts = true → (mfO (mM M 0 0 1 0) = none → nSame (fun k j => scM k j ∨ k = 1) (mM M 0 0 1 0) M') ∧ ∀ i, mfO (mM M 0 0 1 0) = some i → M'.1 30 0 i = 1 ∧ (∀ q, q < 32 → M'.2.1 32 0 (32 * i + q) = uwF (M.2.1 13 0) ts (4 + q)) ∧ (∀ q, q < 32 → M'.2.1 31 0 (32 * i + q) = uwF (M.2.1 13 0) ts (36 + q)) ∧ M'.1 34 0 i = nI (ts.length - 101) ∧ (∀ q, q < ts.length - 101 → M'.2.1 33 0 (128 * i + q) = uwF (M.2.1 13 0) ts (69 + q)) ∧ nSame (ldX i) (mM M 0 0 1 0) M')) : ((if uwB (C.2.1 8 0) ts = true then (ffO C).elim (-3) nI else -6) : Int32) = (if uwB (M.2.1 13 0) ts = true then (mfO (mM M 0 0 1 0)).elim (-3) nI else -6) ∧ Rel (N + 1) C' M' := by
  have h0' := h0.cutM
  have hT0 := h0'
  obtain ⟨r1, r2, r3, r4, r5, r6, r7, r8, r9, r10, r11, r12⟩ := hT0
  obtain ⟨hub, huf⟩ := uw_cg (s := C.2.1 8 0) (s' := M.2.1 13 0) ts r4
  rw [hub, ffO_eq h0'] at hC ⊢
  obtain ⟨t1, hCn, hCy⟩ := hC
  refine ⟨rfl, ?_⟩
  by_cases hr : uwB (M.2.1 13 0) ts = true
  · have hC := hCy hr
    have hM := hM.2 hr
    cases e : mfO (mM M 0 0 1 0) with
    | none => exact ⟨⟨_, t1, nil_of (hM.1 e) (fun hh => by (try simp [scM, nX, hX, seM, rsX, dfX, ldX] at hh) <;> omega)⟩, (h0'.kp (hC.1 e) (hM.1 e) (fun k i h hh => by simp only [reC, scX, hsX, bX, seX, obX, vaX] at h hh; omega) (fun k j h hh => by simp only [reM, scM, nX, hX, seM, rsX, dfX, ldX] at h hh; omega)).mono (Nat.le_succ _)⟩
    | some i =>
      have hi := mfO_some e
      obtain ⟨c1, c2, c3, c4, hC⟩ := hC.2 i e
      obtain ⟨m1, m2, m3', m4, m5, hM⟩ := hM.2 i e
      have hl := c4.2.1
      rw [mTk_len] at hl
      exact ⟨⟨_, t1, nil_of hM (fun hh => by (try simp [scM, nX, hX, seM, rsX, dfX, ldX] at hh) <;> omega)⟩, ⟨r1.kp hC hM ⟨(fun hh => by (try simp [scX, hsX, bX, seX, obX, vaX] at hh) <;> omega), (fun hh => by (try simp [scX, hsX, bX, seX, obX, vaX] at hh) <;> omega)⟩ ⟨(fun hh => by (try simp [scM, nX, hX, seM, rsX, dfX, ldX] at hh) <;> omega), fun j => (fun hh => by (try simp [scM, nX, hX, seM, rsX, dfX, ldX] at hh) <;> omega)⟩,
          r2.kp hC hM (fun hh => by (try simp [scX, hsX, bX, seX, obX, vaX] at hh) <;> omega) (fun j => (fun hh => by (try simp [scM, nX, hX, seM, rsX, dfX, ldX] at hh) <;> omega)),
          r3.kp hC hM (fun hh => by (try simp [scX, hsX, bX, seX, obX, vaX] at hh) <;> omega) (fun j => (fun hh => by (try simp [scM, nX, hX, seM, rsX, dfX, ldX] at hh) <;> omega)),
          r4.kp hC hM (fun hh => by (try simp [scX, hsX, bX, seX, obX, vaX] at hh) <;> omega) (fun j => (fun hh => by (try simp [scM, nX, hX, seM, rsX, dfX, ldX] at hh) <;> omega)),
          r5.kp hC (fun hh => by (try simp [scX, hsX, bX, seX, obX, vaX] at hh) <;> omega),
          r6.kp hC hM (fun hh => by (try simp [scX, hsX, bX, seX, obX, vaX] at hh) <;> omega) (fun j => (fun hh => by (try simp [scM, nX, hX, seM, rsX, dfX, ldX] at hh) <;> omega)),
          (r7.kp hC hM (fun hh => by (try simp [scX, hsX, bX, seX, obX, vaX] at hh) <;> omega) ⟨(fun hh => by (try simp [scM, nX, hX, seM, rsX, dfX, ldX] at hh) <;> omega), (fun hh => by (try simp [scM, nX, hX, seM, rsX, dfX, ldX] at hh) <;> omega), (fun hh => by (try simp [scM, nX, hX, seM, rsX, dfX, ldX] at hh) <;> omega), (fun hh => by (try simp [scM, nX, hX, seM, rsX, dfX, ldX] at hh) <;> omega)⟩).mono (Nat.le_succ _),
          r8.kp hC hM (fun hh => by (try simp [scX, hsX, bX, seX, obX, vaX] at hh) <;> omega) (fun hh => by (try simp [scM, nX, hX, seM, rsX, dfX, ldX] at hh) <;> omega),
          (r9.kp hC (fun hh => by (try simp [scX, hsX, bX, seX, obX, vaX] at hh) <;> omega)).mono (Nat.le_succ _),
          fun i hi => ((r10 i hi).kp hC hM ⟨(fun hh => by (try simp [scX, hsX, bX, seX, obX, vaX] at hh) <;> omega), (fun hh => by (try simp [scX, hsX, bX, seX, obX, vaX] at hh) <;> omega), (fun hh => by (try simp [scX, hsX, bX, seX, obX, vaX] at hh) <;> omega)⟩ (fun k j h hh => by simp only [seM, thM, vaM, scM, nX, hX, rsX, dfX, ldX] at h hh; omega)).mono (Nat.le_succ _),
          fun t ht => by
            by_cases e' : t = i
            · subst e'
              exact ⟨c1.trans m1.symm, fun _ => ⟨fun j hj => (c3 j hj).trans ((huf _).trans (m3' j hj).symm), fun j hj => (c2 j hj).trans ((huf _).trans (m2 j hj).symm), ts.length - 101, hl, by have z := c4.1; rwa [mTk_len] at z, m4, fun j hj => by have z := c4.2.2 j (by rw [mTk_len]; exact hj); rw [mTk_get _ hj] at z; exact z.trans ((huf _).trans (m5 j hj).symm)⟩⟩
            · exact (r11 t ht).kp hC hM ⟨(fun hh => by (try simp [scX, hsX, bX, seX, obX, vaX] at hh) <;> omega), (fun hh => by (try simp [scX, hsX, bX, seX, obX, vaX] at hh) <;> omega), (fun hh => by (try simp [scX, hsX, bX, seX, obX, vaX] at hh) <;> omega), (fun hh => by (try simp [scX, hsX, bX, seX, obX, vaX] at hh) <;> omega), (fun hh => by (try simp [scX, hsX, bX, seX, obX, vaX] at hh) <;> omega)⟩ (fun k j h hh => by simp only [seM, thM, vaM, scM, nX, hX, rsX, dfX, ldX] at h hh; omega),
          fun v hv => (r12 v hv).kp hC hM ⟨(fun hh => by (try simp [scX, hsX, bX, seX, obX, vaX] at hh) <;> omega), (fun hh => by (try simp [scX, hsX, bX, seX, obX, vaX] at hh) <;> omega), (fun hh => by (try simp [scX, hsX, bX, seX, obX, vaX] at hh) <;> omega)⟩ (fun k j h hh => by simp only [seM, thM, vaM, scM, nX, hX, rsX, dfX, ldX] at h hh; omega)⟩⟩
  · exact ⟨⟨_, t1, nil_of (hM.1 hr) (fun hh => by (try simp [scM, nX, hX, seM, rsX, dfX, ldX] at hh) <;> omega)⟩, (h0'.kp (hCn hr) (hM.1 hr) (fun k i h hh => by simp only [reC, scX, hsX, bX, seX, obX, vaX] at h hh; omega) (fun k j h hh => by simp only [reM, scM, nX, hX, seM, rsX, dfX, ldX] at h hh; omega)).mono (Nat.le_succ _)⟩

set_option maxHeartbeats 4000000 in
set_option maxRecDepth 100000 in
theorem rl_unseal {N : Nat} {C M C' M' : mSt} (x y : Int32) (hT : rTape C M) (h0 : Rel0 N C M) (hN : N ≤ 1000) (hC : (obO C x = none → C' = C) ∧ ∀ i, obO C x = some i → ((askP C i y 1).1 = 0 → (∀ ds, bHas C (3 + i) ds → bHas C' 1 ds) ∧ mSame (bX 1) (askP C i y 1).2 C') ∧ (¬ (askP C i y 1).1 = 0 → C' = (askP C i y 1).2)) (hM : (moO M x = none → M' = M) ∧ ∀ i, moO M x = some i → ((mbP M i y 1).1 = 0 → (∀ n, M.1 34 0 i = nI n → n ≤ 128 → nHas 3 512 M' (mTk (fun q => M.2.1 33 0 (128 * i + q)) n)) ∧ nSame (nX 3) (mbP M i y 1).2 M') ∧ (¬ (mbP M i y 1).1 = 0 → M' = (mbP M i y 1).2)) : (((obO C x).elim (-2) (fun i => if (askP C i y 1).1 = 0 then C.1 2 (3 + i) 1 else (askP C i y 1).1)) : Int32) = ((moO M x).elim (-2) (fun i => if (mbP M i y 1).1 = 0 then M.1 34 0 i else (mbP M i y 1).1)) ∧ Rel (N + 1) C' M' := by
  rw [obO_eq h0] at hC ⊢
  cases e : moO M x with
  | none =>
    rw [hC.1 e, hM.1 e]
    exact ⟨rfl, hT, h0.mono (Nat.le_succ _)⟩
  | some i =>
    have hC := hC.2 i e
    have hM := hM.2 i e
    obtain ⟨hxi, hi, ho⟩ := opO_some (by decide) e
    have hp : ¬ C.1 22 i 3 = 0 := by rw [(h0.2.2.2.2.2.2.2.2.2.2.1 i (by omega)).1]; exact ho
    show (if (askP C i y 1).1 = 0 then C.1 2 (3 + i) 1 else (askP C i y 1).1) = (if (mbP M i y 1).1 = 0 then M.1 34 0 i else (mbP M i y 1).1) ∧ _
    obtain ⟨n, hn, z1, z2, z3⟩ := ((h0.2.2.2.2.2.2.2.2.2.2.1 i (by omega)).2 hp).2.2
    have hask := rl_ask h0 hN (by omega) hp y 1
    have hTa := rT_ask hT i y 1
    by_cases q : (mbP M i y 1).1 = 0
    · have q' := hask.1.trans q
      obtain ⟨c2, hC⟩ := hC.1 q'
      obtain ⟨m2, hM⟩ := hM.1 q
      have hl128 := mLn_le (3 + i) (by omega)
      have c2 := c2 _ (bHas_of z1 hn)
      have m2 := m2 n z2 (by omega)
      rw [mTk_congr (f := C.2.1 3 (3 + i)) (g := fun q => M.2.1 33 0 (128 * i + q)) z3] at c2
      obtain ⟨r1, r2, r3, r4, r5, r6, r7, r8, r9, r10, r11, r12⟩ := hask.2
      rw [if_pos q, if_pos q', z1, z2]
      exact ⟨rfl, hTa.kp hC hM ⟨(fun hh => by (try simp [scX, hsX, bX, seX, obX, vaX] at hh) <;> omega), (fun hh => by (try simp [scX, hsX, bX, seX, obX, vaX] at hh) <;> omega)⟩ ⟨(fun hh => by (try simp [scM, nX, hX, seM, rsX, dfX, ldX] at hh) <;> omega), fun j => (fun hh => by (try simp [scM, nX, hX, seM, rsX, dfX, ldX] at hh) <;> omega)⟩, ⟨⟨_, c2, m2⟩,
          r2.kp hC hM (fun hh => by (try simp [scX, hsX, bX, seX, obX, vaX] at hh) <;> omega) (fun j => (fun hh => by (try simp [scM, nX, hX, seM, rsX, dfX, ldX] at hh) <;> omega)),
          r3.kp hC hM (fun hh => by (try simp [scX, hsX, bX, seX, obX, vaX] at hh) <;> omega) (fun j => (fun hh => by (try simp [scM, nX, hX, seM, rsX, dfX, ldX] at hh) <;> omega)),
          r4.kp hC hM (fun hh => by (try simp [scX, hsX, bX, seX, obX, vaX] at hh) <;> omega) (fun j => (fun hh => by (try simp [scM, nX, hX, seM, rsX, dfX, ldX] at hh) <;> omega)),
          r5.kp hC (fun hh => by (try simp [scX, hsX, bX, seX, obX, vaX] at hh) <;> omega),
          r6.kp hC hM (fun hh => by (try simp [scX, hsX, bX, seX, obX, vaX] at hh) <;> omega) (fun j => (fun hh => by (try simp [scM, nX, hX, seM, rsX, dfX, ldX] at hh) <;> omega)),
          (r7.kp hC hM (fun hh => by (try simp [scX, hsX, bX, seX, obX, vaX] at hh) <;> omega) ⟨(fun hh => by (try simp [scM, nX, hX, seM, rsX, dfX, ldX] at hh) <;> omega), (fun hh => by (try simp [scM, nX, hX, seM, rsX, dfX, ldX] at hh) <;> omega), (fun hh => by (try simp [scM, nX, hX, seM, rsX, dfX, ldX] at hh) <;> omega), (fun hh => by (try simp [scM, nX, hX, seM, rsX, dfX, ldX] at hh) <;> omega)⟩),
          r8.kp hC hM (fun hh => by (try simp [scX, hsX, bX, seX, obX, vaX] at hh) <;> omega) (fun hh => by (try simp [scM, nX, hX, seM, rsX, dfX, ldX] at hh) <;> omega),
          (r9.kp hC (fun hh => by (try simp [scX, hsX, bX, seX, obX, vaX] at hh) <;> omega)),
          fun i hi => ((r10 i hi).kp hC hM ⟨(fun hh => by (try simp [scX, hsX, bX, seX, obX, vaX] at hh) <;> omega), (fun hh => by (try simp [scX, hsX, bX, seX, obX, vaX] at hh) <;> omega), (fun hh => by (try simp [scX, hsX, bX, seX, obX, vaX] at hh) <;> omega)⟩ (fun k j h hh => by simp only [seM, thM, vaM, scM, nX, hX, rsX, dfX, ldX] at h hh; omega)),
          fun t ht => (r11 t ht).kp hC hM ⟨(fun hh => by (try simp [scX, hsX, bX, seX, obX, vaX] at hh) <;> omega), (fun hh => by (try simp [scX, hsX, bX, seX, obX, vaX] at hh) <;> omega), (fun hh => by (try simp [scX, hsX, bX, seX, obX, vaX] at hh) <;> omega), (fun hh => by (try simp [scX, hsX, bX, seX, obX, vaX] at hh) <;> omega), (fun hh => by (try simp [scX, hsX, bX, seX, obX, vaX] at hh) <;> omega)⟩ (fun k j h hh => by simp only [seM, thM, vaM, scM, nX, hX, rsX, dfX, ldX] at h hh; omega),
          fun v hv => (r12 v hv).kp hC hM ⟨(fun hh => by (try simp [scX, hsX, bX, seX, obX, vaX] at hh) <;> omega), (fun hh => by (try simp [scX, hsX, bX, seX, obX, vaX] at hh) <;> omega), (fun hh => by (try simp [scX, hsX, bX, seX, obX, vaX] at hh) <;> omega)⟩ (fun k j h hh => by simp only [seM, thM, vaM, scM, nX, hX, rsX, dfX, ldX] at h hh; omega)⟩⟩
    · have q' : ¬ (askP C i y 1).1 = 0 := fun z => q (hask.1.symm.trans z)
      rw [hC.2 q', hM.2 q, if_neg q, if_neg q']
      exact ⟨hask.1, hTa, hask.2⟩

set_option maxHeartbeats 4000000 in
set_option maxRecDepth 100000 in
theorem rl_read {N : Nat} {C M C' M' : mSt} (x y : Int32) (hT : rTape C M) (h0 : Rel0 N C M) (hN : N ≤ 1000) (hC : (vaO C x = none → C' = C) ∧ ∀ i, vaO C x = some i → (C.1 26 i 2 = 0 → C' = C) ∧ (¬ C.1 26 i 2 = 0 → ((askP C (4 + i) y 5).1 = 0 → (∀ ds, bHas C (3 + (4 + i)) ds → bHas C' 1 ds) ∧ mSame (bX 1) (askP C (4 + i) y 5).2 C') ∧ (¬ (askP C (4 + i) y 5).1 = 0 → C' = (askP C (4 + i) y 5).2))) (hM : (mtO M x (-1) = none → M' = M) ∧ ∀ i, mtO M x (-1) = some i → (M.1 36 0 (4 + i) = 0 → M' = M) ∧ (¬ M.1 36 0 (4 + i) = 0 → ((mbP M (4 + i) y 5).1 = 0 → (∀ n, M.1 34 0 (4 + i) = nI n → n ≤ 128 → nHas 3 512 M' (mTk (fun q => M.2.1 33 0 (128 * (4 + i) + q)) n)) ∧ nSame (nX 3) (mbP M (4 + i) y 5).2 M') ∧ (¬ (mbP M (4 + i) y 5).1 = 0 → M' = (mbP M (4 + i) y 5).2))) : (((vaO C x).elim (-2) (fun i => if C.1 26 i 2 = 0 then -3 else if (askP C (4 + i) y 5).1 = 0 then C.1 2 (3 + (4 + i)) 1 else (askP C (4 + i) y 5).1)) : Int32) = ((mtO M x (-1)).elim (-2) (fun i => if M.1 36 0 (4 + i) = 0 then -3 else if (mbP M (4 + i) y 5).1 = 0 then M.1 34 0 (4 + i) else (mbP M (4 + i) y 5).1)) ∧ Rel (N + 1) C' M' := by
  rw [mtO_m h0] at hC ⊢
  cases e : mtO M x (-1) with
  | none =>
    rw [hC.1 e, hM.1 e]
    exact ⟨rfl, hT, h0.mono (Nat.le_succ _)⟩
  | some i =>
    have hC := hC.2 i e
    have hM := hM.2 i e
    have hi := mtO_lt e
    have hp : ¬ C.1 22 (4 + i) 3 = 0 := by rw [(h0.2.2.2.2.2.2.2.2.2.2.1 (4 + i) (by omega)).1]; exact (opO_some (by decide) (mtO_some e).1).2.2
    have hv := h0.2.2.2.2.2.2.2.2.2.2.2 i hi hp
    show (if C.1 26 i 2 = 0 then -3 else if (askP C (4 + i) y 5).1 = 0 then C.1 2 (3 + (4 + i)) 1 else (askP C (4 + i) y 5).1) = (if M.1 36 0 (4 + i) = 0 then -3 else if (mbP M (4 + i) y 5).1 = 0 then M.1 34 0 (4 + i) else (mbP M (4 + i) y 5).1) ∧ _
    rw [hv.2.1] at hC ⊢
    by_cases w : M.1 36 0 (4 + i) = 0
    · rw [hC.1 w, hM.1 w, if_pos w, if_pos w]
      exact ⟨rfl, hT, h0.mono (Nat.le_succ _)⟩
    have hC := hC.2 w
    have hM := hM.2 w
    rw [if_neg w, if_neg w]
    obtain ⟨n, hn, z1, z2, z3⟩ := ((h0.2.2.2.2.2.2.2.2.2.2.1 (4 + i) (by omega)).2 hp).2.2
    have hask := rl_ask h0 hN (by omega) hp y 5
    have hTa := rT_ask hT (4 + i) y 5
    by_cases q : (mbP M (4 + i) y 5).1 = 0
    · have q' := hask.1.trans q
      obtain ⟨c2, hC⟩ := hC.1 q'
      obtain ⟨m2, hM⟩ := hM.1 q
      have hl128 := mLn_le (3 + (4 + i)) (by omega)
      have c2 := c2 _ (bHas_of z1 hn)
      have m2 := m2 n z2 (by omega)
      rw [mTk_congr (f := C.2.1 3 (3 + (4 + i))) (g := fun q => M.2.1 33 0 (128 * (4 + i) + q)) z3] at c2
      obtain ⟨r1, r2, r3, r4, r5, r6, r7, r8, r9, r10, r11, r12⟩ := hask.2
      rw [if_pos q, if_pos q', z1, z2]
      exact ⟨rfl, hTa.kp hC hM ⟨(fun hh => by (try simp [scX, hsX, bX, seX, obX, vaX] at hh) <;> omega), (fun hh => by (try simp [scX, hsX, bX, seX, obX, vaX] at hh) <;> omega)⟩ ⟨(fun hh => by (try simp [scM, nX, hX, seM, rsX, dfX, ldX] at hh) <;> omega), fun j => (fun hh => by (try simp [scM, nX, hX, seM, rsX, dfX, ldX] at hh) <;> omega)⟩, ⟨⟨_, c2, m2⟩,
          r2.kp hC hM (fun hh => by (try simp [scX, hsX, bX, seX, obX, vaX] at hh) <;> omega) (fun j => (fun hh => by (try simp [scM, nX, hX, seM, rsX, dfX, ldX] at hh) <;> omega)),
          r3.kp hC hM (fun hh => by (try simp [scX, hsX, bX, seX, obX, vaX] at hh) <;> omega) (fun j => (fun hh => by (try simp [scM, nX, hX, seM, rsX, dfX, ldX] at hh) <;> omega)),
          r4.kp hC hM (fun hh => by (try simp [scX, hsX, bX, seX, obX, vaX] at hh) <;> omega) (fun j => (fun hh => by (try simp [scM, nX, hX, seM, rsX, dfX, ldX] at hh) <;> omega)),
          r5.kp hC (fun hh => by (try simp [scX, hsX, bX, seX, obX, vaX] at hh) <;> omega),
          r6.kp hC hM (fun hh => by (try simp [scX, hsX, bX, seX, obX, vaX] at hh) <;> omega) (fun j => (fun hh => by (try simp [scM, nX, hX, seM, rsX, dfX, ldX] at hh) <;> omega)),
          (r7.kp hC hM (fun hh => by (try simp [scX, hsX, bX, seX, obX, vaX] at hh) <;> omega) ⟨(fun hh => by (try simp [scM, nX, hX, seM, rsX, dfX, ldX] at hh) <;> omega), (fun hh => by (try simp [scM, nX, hX, seM, rsX, dfX, ldX] at hh) <;> omega), (fun hh => by (try simp [scM, nX, hX, seM, rsX, dfX, ldX] at hh) <;> omega), (fun hh => by (try simp [scM, nX, hX, seM, rsX, dfX, ldX] at hh) <;> omega)⟩),
          r8.kp hC hM (fun hh => by (try simp [scX, hsX, bX, seX, obX, vaX] at hh) <;> omega) (fun hh => by (try simp [scM, nX, hX, seM, rsX, dfX, ldX] at hh) <;> omega),
          (r9.kp hC (fun hh => by (try simp [scX, hsX, bX, seX, obX, vaX] at hh) <;> omega)),
          fun i hi => ((r10 i hi).kp hC hM ⟨(fun hh => by (try simp [scX, hsX, bX, seX, obX, vaX] at hh) <;> omega), (fun hh => by (try simp [scX, hsX, bX, seX, obX, vaX] at hh) <;> omega), (fun hh => by (try simp [scX, hsX, bX, seX, obX, vaX] at hh) <;> omega)⟩ (fun k j h hh => by simp only [seM, thM, vaM, scM, nX, hX, rsX, dfX, ldX] at h hh; omega)),
          fun t ht => (r11 t ht).kp hC hM ⟨(fun hh => by (try simp [scX, hsX, bX, seX, obX, vaX] at hh) <;> omega), (fun hh => by (try simp [scX, hsX, bX, seX, obX, vaX] at hh) <;> omega), (fun hh => by (try simp [scX, hsX, bX, seX, obX, vaX] at hh) <;> omega), (fun hh => by (try simp [scX, hsX, bX, seX, obX, vaX] at hh) <;> omega), (fun hh => by (try simp [scX, hsX, bX, seX, obX, vaX] at hh) <;> omega)⟩ (fun k j h hh => by simp only [seM, thM, vaM, scM, nX, hX, rsX, dfX, ldX] at h hh; omega),
          fun v hv => (r12 v hv).kp hC hM ⟨(fun hh => by (try simp [scX, hsX, bX, seX, obX, vaX] at hh) <;> omega), (fun hh => by (try simp [scX, hsX, bX, seX, obX, vaX] at hh) <;> omega), (fun hh => by (try simp [scX, hsX, bX, seX, obX, vaX] at hh) <;> omega)⟩ (fun k j h hh => by simp only [seM, thM, vaM, scM, nX, hX, rsX, dfX, ldX] at h hh; omega)⟩⟩
    · have q' : ¬ (askP C (4 + i) y 5).1 = 0 := fun z => q (hask.1.symm.trans z)
      rw [hC.2 q', hM.2 q, if_neg q, if_neg q']
      exact ⟨hask.1, hTa, hask.2⟩

set_option maxHeartbeats 4000000 in
set_option maxRecDepth 100000 in
theorem rl_flush {N : Nat} {C M C' M' : mSt} (x : Int32) (hT : rTape C M) (h0 : Rel0 N C M) (hN : N ≤ 1000) (hC : C' = (obO C x).elim C (fun i => mM C 22 i 3 0)) (hM : M' = (moO M x).elim M (fun i => mM M 30 0 i 0)) : (((obO C x).elim (-2) (fun _ => 0)) : Int32) = ((moO M x).elim (-2) (fun _ => 0)) ∧ Rel (N + 1) C' M' := by
  rw [obO_eq h0] at hC ⊢
  cases e : moO M x with
  | none =>
    rw [e] at hC hM
    rw [hC, hM]
    exact ⟨rfl, hT, h0.mono (Nat.le_succ _)⟩
  | some i =>
    rw [e] at hC hM
    obtain ⟨hxi, hi, ho⟩ := opO_some (by decide) e
    have sC : mSame (fun k i' => k = 22 ∧ i' = i) C (mM C 22 i 3 0) := mSame.M ⟨rfl, rfl⟩
    have sM : nSame (fun k j => k = 30 ∧ j = i) M (mM M 30 0 i 0) := nSame.M ⟨rfl, rfl⟩
    rw [hC, hM]
    obtain ⟨r1, r2, r3, r4, r5, r6, r7, r8, r9, r10, r11, r12⟩ := h0
    exact ⟨rfl, hT.kp sC sM ⟨(fun hh => by (try simp [scX, hsX, bX, seX, obX, vaX] at hh) <;> omega), (fun hh => by (try simp [scX, hsX, bX, seX, obX, vaX] at hh) <;> omega)⟩ ⟨(fun hh => by (try simp [scM, nX, hX, seM, rsX, dfX, ldX] at hh) <;> omega), fun j => (fun hh => by (try simp [scM, nX, hX, seM, rsX, dfX, ldX] at hh) <;> omega)⟩, ⟨r1.kp sC sM ⟨(fun hh => by (try simp [scX, hsX, bX, seX, obX, vaX] at hh) <;> omega), (fun hh => by (try simp [scX, hsX, bX, seX, obX, vaX] at hh) <;> omega)⟩ ⟨(fun hh => by (try simp [scM, nX, hX, seM, rsX, dfX, ldX] at hh) <;> omega), fun j => (fun hh => by (try simp [scM, nX, hX, seM, rsX, dfX, ldX] at hh) <;> omega)⟩,
        r2.kp sC sM (fun hh => by (try simp [scX, hsX, bX, seX, obX, vaX] at hh) <;> omega) (fun j => (fun hh => by (try simp [scM, nX, hX, seM, rsX, dfX, ldX] at hh) <;> omega)),
        r3.kp sC sM (fun hh => by (try simp [scX, hsX, bX, seX, obX, vaX] at hh) <;> omega) (fun j => (fun hh => by (try simp [scM, nX, hX, seM, rsX, dfX, ldX] at hh) <;> omega)),
        r4.kp sC sM (fun hh => by (try simp [scX, hsX, bX, seX, obX, vaX] at hh) <;> omega) (fun j => (fun hh => by (try simp [scM, nX, hX, seM, rsX, dfX, ldX] at hh) <;> omega)),
        r5.kp sC (fun hh => by (try simp [scX, hsX, bX, seX, obX, vaX] at hh) <;> omega),
        r6.kp sC sM (fun hh => by (try simp [scX, hsX, bX, seX, obX, vaX] at hh) <;> omega) (fun j => (fun hh => by (try simp [scM, nX, hX, seM, rsX, dfX, ldX] at hh) <;> omega)),
        (r7.kp sC sM (fun hh => by (try simp [scX, hsX, bX, seX, obX, vaX] at hh) <;> omega) ⟨(fun hh => by (try simp [scM, nX, hX, seM, rsX, dfX, ldX] at hh) <;> omega), (fun hh => by (try simp [scM, nX, hX, seM, rsX, dfX, ldX] at hh) <;> omega), (fun hh => by (try simp [scM, nX, hX, seM, rsX, dfX, ldX] at hh) <;> omega), (fun hh => by (try simp [scM, nX, hX, seM, rsX, dfX, ldX] at hh) <;> omega)⟩).mono (Nat.le_succ _),
        r8.kp sC sM (fun hh => by (try simp [scX, hsX, bX, seX, obX, vaX] at hh) <;> omega) (fun hh => by (try simp [scM, nX, hX, seM, rsX, dfX, ldX] at hh) <;> omega),
        (r9.kp sC (fun hh => by (try simp [scX, hsX, bX, seX, obX, vaX] at hh) <;> omega)).mono (Nat.le_succ _),
        fun i hi => ((r10 i hi).kp sC sM ⟨(fun hh => by (try simp [scX, hsX, bX, seX, obX, vaX] at hh) <;> omega), (fun hh => by (try simp [scX, hsX, bX, seX, obX, vaX] at hh) <;> omega), (fun hh => by (try simp [scX, hsX, bX, seX, obX, vaX] at hh) <;> omega)⟩ (fun k j h hh => by simp only [seM, thM, vaM, scM, nX, hX, rsX, dfX, ldX] at h hh; omega)).mono (Nat.le_succ _),
        fun t ht => by
          by_cases e' : t = i
          · subst e'
            exact ⟨by simp [mM, m3], fun q => absurd (by simp [mM, m3]) q⟩
          · exact (r11 t ht).kp sC sM ⟨(fun hh => by (try simp [scX, hsX, bX, seX, obX, vaX] at hh) <;> omega), (fun hh => by (try simp [scX, hsX, bX, seX, obX, vaX] at hh) <;> omega), (fun hh => by (try simp [scX, hsX, bX, seX, obX, vaX] at hh) <;> omega), (fun hh => by (try simp [scX, hsX, bX, seX, obX, vaX] at hh) <;> omega), (fun hh => by (try simp [scX, hsX, bX, seX, obX, vaX] at hh) <;> omega)⟩ (fun k j h hh => by simp only [seM, thM, vaM, scM, nX, hX, rsX, dfX, ldX] at h hh; omega),
        fun v hv => (r12 v hv).kp sC sM ⟨(fun hh => by (try simp [scX, hsX, bX, seX, obX, vaX] at hh) <;> omega), (fun hh => by (try simp [scX, hsX, bX, seX, obX, vaX] at hh) <;> omega), (fun hh => by (try simp [scX, hsX, bX, seX, obX, vaX] at hh) <;> omega)⟩ (fun k j h hh => by simp only [seM, thM, vaM, scM, nX, hX, rsX, dfX, ldX] at h hh; omega)⟩⟩

set_option maxHeartbeats 4000000 in
set_option maxRecDepth 100000 in
theorem rl_undefine {N : Nat} {C M C' M' : mSt} (x : Int32) (hT : rTape C M) (h0 : Rel0 N C M) (hN : N ≤ 1000) (hC : C' = (vaO C x).elim C (fun i => if (akR C (C.2.1 12 0)) = 0 then mM (akS C (C.2.1 12 0)) 22 (4 + i) 3 0 else (akS C (C.2.1 12 0)))) (hM : M' = (mtO M x (-1)).elim M (fun i => if (mkR M (M.2.1 15 0) 0) = 0 then mM M 30 0 (4 + i) 0 else (mkS M (M.2.1 15 0) 0))) : (((vaO C x).elim (-2) (fun _ => (akR C (C.2.1 12 0)))) : Int32) = ((mtO M x (-1)).elim (-2) (fun _ => (mkR M (M.2.1 15 0) 0))) ∧ Rel (N + 1) C' M' := by
  rw [mtO_m h0] at hC ⊢
  have hak := rl_ak h0 (f := C.2.1 12 0) (g := M.2.1 15 0) (a := 0) (fun j hj => by rw [Nat.zero_add]; exact h0.2.2.1 j hj)
  cases e : mtO M x (-1) with
  | none =>
    rw [e] at hC hM
    rw [Option.elim_none] at hC hM
    rw [hC, hM, Option.elim_none, Option.elim_none]
    exact ⟨rfl, hT, h0.mono (Nat.le_succ _)⟩
  | some i =>
    rw [e, Option.elim_some] at hC hM
    have hi := mtO_lt e
    rw [Option.elim_some, Option.elim_some]
    refine ⟨hak.1, ?_⟩
    by_cases q : mkR M (M.2.1 15 0) 0 = 0
    · have q' := hak.1.trans q
      rw [if_pos q', akS_0 q'] at hC
      rw [if_pos q] at hM
      rw [hC, hM]
      have sC : mSame (fun k i' => k = 22 ∧ i' = 4 + i) C (mM C 22 (4 + i) 3 0) := mSame.M ⟨rfl, rfl⟩
      have sM : nSame (fun k j => k = 30 ∧ j = 4 + i) M (mM M 30 0 (4 + i) 0) := nSame.M ⟨rfl, rfl⟩
      obtain ⟨r1, r2, r3, r4, r5, r6, r7, r8, r9, r10, r11, r12⟩ := h0
      exact ⟨hT.kp sC sM ⟨(fun hh => by (try simp [scX, hsX, bX, seX, obX, vaX] at hh) <;> omega), (fun hh => by (try simp [scX, hsX, bX, seX, obX, vaX] at hh) <;> omega)⟩ ⟨(fun hh => by (try simp [scM, nX, hX, seM, rsX, dfX, ldX] at hh) <;> omega), fun j => (fun hh => by (try simp [scM, nX, hX, seM, rsX, dfX, ldX] at hh) <;> omega)⟩, ⟨r1.kp sC sM ⟨(fun hh => by (try simp [scX, hsX, bX, seX, obX, vaX] at hh) <;> omega), (fun hh => by (try simp [scX, hsX, bX, seX, obX, vaX] at hh) <;> omega)⟩ ⟨(fun hh => by (try simp [scM, nX, hX, seM, rsX, dfX, ldX] at hh) <;> omega), fun j => (fun hh => by (try simp [scM, nX, hX, seM, rsX, dfX, ldX] at hh) <;> omega)⟩,
          r2.kp sC sM (fun hh => by (try simp [scX, hsX, bX, seX, obX, vaX] at hh) <;> omega) (fun j => (fun hh => by (try simp [scM, nX, hX, seM, rsX, dfX, ldX] at hh) <;> omega)),
          r3.kp sC sM (fun hh => by (try simp [scX, hsX, bX, seX, obX, vaX] at hh) <;> omega) (fun j => (fun hh => by (try simp [scM, nX, hX, seM, rsX, dfX, ldX] at hh) <;> omega)),
          r4.kp sC sM (fun hh => by (try simp [scX, hsX, bX, seX, obX, vaX] at hh) <;> omega) (fun j => (fun hh => by (try simp [scM, nX, hX, seM, rsX, dfX, ldX] at hh) <;> omega)),
          r5.kp sC (fun hh => by (try simp [scX, hsX, bX, seX, obX, vaX] at hh) <;> omega),
          r6.kp sC sM (fun hh => by (try simp [scX, hsX, bX, seX, obX, vaX] at hh) <;> omega) (fun j => (fun hh => by (try simp [scM, nX, hX, seM, rsX, dfX, ldX] at hh) <;> omega)),
          (r7.kp sC sM (fun hh => by (try simp [scX, hsX, bX, seX, obX, vaX] at hh) <;> omega) ⟨(fun hh => by (try simp [scM, nX, hX, seM, rsX, dfX, ldX] at hh) <;> omega), (fun hh => by (try simp [scM, nX, hX, seM, rsX, dfX, ldX] at hh) <;> omega), (fun hh => by (try simp [scM, nX, hX, seM, rsX, dfX, ldX] at hh) <;> omega), (fun hh => by (try simp [scM, nX, hX, seM, rsX, dfX, ldX] at hh) <;> omega)⟩).mono (Nat.le_succ _),
          r8.kp sC sM (fun hh => by (try simp [scX, hsX, bX, seX, obX, vaX] at hh) <;> omega) (fun hh => by (try simp [scM, nX, hX, seM, rsX, dfX, ldX] at hh) <;> omega),
          (r9.kp sC (fun hh => by (try simp [scX, hsX, bX, seX, obX, vaX] at hh) <;> omega)).mono (Nat.le_succ _),
          fun i hi => ((r10 i hi).kp sC sM ⟨(fun hh => by (try simp [scX, hsX, bX, seX, obX, vaX] at hh) <;> omega), (fun hh => by (try simp [scX, hsX, bX, seX, obX, vaX] at hh) <;> omega), (fun hh => by (try simp [scX, hsX, bX, seX, obX, vaX] at hh) <;> omega)⟩ (fun k j h hh => by simp only [seM, thM, vaM, scM, nX, hX, rsX, dfX, ldX] at h hh; omega)).mono (Nat.le_succ _),
          fun t ht => by
            by_cases e' : t = 4 + i
            · subst e'
              exact ⟨by simp [mM, m3], fun q => absurd (by simp [mM, m3]) q⟩
            · exact (r11 t ht).kp sC sM ⟨(fun hh => by (try simp [scX, hsX, bX, seX, obX, vaX] at hh) <;> omega), (fun hh => by (try simp [scX, hsX, bX, seX, obX, vaX] at hh) <;> omega), (fun hh => by (try simp [scX, hsX, bX, seX, obX, vaX] at hh) <;> omega), (fun hh => by (try simp [scX, hsX, bX, seX, obX, vaX] at hh) <;> omega), (fun hh => by (try simp [scX, hsX, bX, seX, obX, vaX] at hh) <;> omega)⟩ (fun k j h hh => by simp only [seM, thM, vaM, scM, nX, hX, rsX, dfX, ldX] at h hh; omega),
          fun v hv8 => by
            by_cases e' : v = i
            · subst e'
              exact fun q => absurd (by simp [mM, m3]) q
            · exact (r12 v hv8).kp sC sM ⟨(fun hh => by (try simp [scX, hsX, bX, seX, obX, vaX] at hh) <;> omega), (fun hh => by (try simp [scX, hsX, bX, seX, obX, vaX] at hh) <;> omega), (fun hh => by (try simp [scX, hsX, bX, seX, obX, vaX] at hh) <;> omega)⟩ (fun k j h hh => by simp only [seM, thM, vaM, scM, nX, hX, rsX, dfX, ldX] at h hh; omega)⟩⟩
    · have q' : ¬ akR C (C.2.1 12 0) = 0 := fun z => q (hak.1.symm.trans z)
      rw [if_neg q'] at hC
      rw [if_neg q] at hM
      rw [hC, hM]
      exact ⟨hT.kp (akS_same C (C.2.1 12 0)) (mkS_same M (M.2.1 15 0) 0) ⟨(fun hh => by (try simp [scX, hsX, bX, seX, obX, vaX] at hh) <;> omega), (fun hh => by (try simp [scX, hsX, bX, seX, obX, vaX] at hh) <;> omega)⟩ ⟨(fun hh => by (try simp [scM, nX, hX, seM, rsX, dfX, ldX] at hh) <;> omega), fun j => (fun hh => by (try simp [scM, nX, hX, seM, rsX, dfX, ldX] at hh) <;> omega)⟩, hak.2⟩

set_option maxHeartbeats 4000000 in
set_option maxRecDepth 100000 in
theorem rl_shut {N : Nat} {C M C' M' : mSt} (x y : Int32) (hT : rTape C M) (h0 : Rel0 N C M) (hN : N ≤ 1000) (hC : C' = (vaO C x).elim C (fun i => if (askP C (4 + i) y 6).1 = 0 then mM (askP C (4 + i) y 6).2 26 i 3 1 else (askP C (4 + i) y 6).2)) (hM : M' = (mtO M x (-1)).elim M (fun i => if (mbP M (4 + i) y 6).1 = 0 then mM (mbP M (4 + i) y 6).2 37 0 (4 + i) 1 else (mbP M (4 + i) y 6).2)) : (((vaO C x).elim (-2) (fun i => (askP C (4 + i) y 6).1)) : Int32) = ((mtO M x (-1)).elim (-2) (fun i => (mbP M (4 + i) y 6).1)) ∧ Rel (N + 1) C' M' := by
  rw [mtO_m h0] at hC ⊢
  cases e : mtO M x (-1) with
  | none =>
    rw [e] at hC hM
    rw [hC, hM]
    exact ⟨rfl, hT, h0.mono (Nat.le_succ _)⟩
  | some i =>
    rw [e] at hC hM
    have hi := mtO_lt e
    have hp : ¬ C.1 22 (4 + i) 3 = 0 := by rw [(h0.2.2.2.2.2.2.2.2.2.2.1 (4 + i) (by omega)).1]; exact (opO_some (by decide) (mtO_some e).1).2.2
    have hv := h0.2.2.2.2.2.2.2.2.2.2.2 i hi hp
    have hC : C' = if (askP C (4 + i) y 6).1 = 0 then mM (askP C (4 + i) y 6).2 26 i 3 1 else (askP C (4 + i) y 6).2 := hC
    have hM : M' = if (mbP M (4 + i) y 6).1 = 0 then mM (mbP M (4 + i) y 6).2 37 0 (4 + i) 1 else (mbP M (4 + i) y 6).2 := hM
    have hask := rl_ask h0 hN (by omega) hp y 6
    have hTa := rT_ask hT (4 + i) y 6
    refine ⟨hask.1, ?_⟩
    by_cases q : (mbP M (4 + i) y 6).1 = 0
    · rw [if_pos (hask.1.trans q)] at hC
      rw [if_pos q] at hM
      rw [hC, hM]
      generalize (askP C (4 + i) y 6).2 = D at hask hTa ⊢
      generalize (mbP M (4 + i) y 6).2 = W at hask hTa ⊢
      have sC : mSame (fun k i' => k = 26 ∧ i' = i) D (mM D 26 i 3 1) := mSame.M ⟨rfl, rfl⟩
      have sM : nSame (fun k j => k = 37 ∧ j = 4 + i) W (mM W 37 0 (4 + i) 1) := nSame.M ⟨rfl, rfl⟩
      obtain ⟨r1, r2, r3, r4, r5, r6, r7, r8, r9, r10, r11, r12⟩ := hask.2
      exact ⟨hTa.kp sC sM ⟨(fun hh => by (try simp [scX, hsX, bX, seX, obX, vaX] at hh) <;> omega), (fun hh => by (try simp [scX, hsX, bX, seX, obX, vaX] at hh) <;> omega)⟩ ⟨(fun hh => by (try simp [scM, nX, hX, seM, rsX, dfX, ldX] at hh) <;> omega), fun j => (fun hh => by (try simp [scM, nX, hX, seM, rsX, dfX, ldX] at hh) <;> omega)⟩, ⟨r1.kp sC sM ⟨(fun hh => by (try simp [scX, hsX, bX, seX, obX, vaX] at hh) <;> omega), (fun hh => by (try simp [scX, hsX, bX, seX, obX, vaX] at hh) <;> omega)⟩ ⟨(fun hh => by (try simp [scM, nX, hX, seM, rsX, dfX, ldX] at hh) <;> omega), fun j => (fun hh => by (try simp [scM, nX, hX, seM, rsX, dfX, ldX] at hh) <;> omega)⟩,
          r2.kp sC sM (fun hh => by (try simp [scX, hsX, bX, seX, obX, vaX] at hh) <;> omega) (fun j => (fun hh => by (try simp [scM, nX, hX, seM, rsX, dfX, ldX] at hh) <;> omega)),
          r3.kp sC sM (fun hh => by (try simp [scX, hsX, bX, seX, obX, vaX] at hh) <;> omega) (fun j => (fun hh => by (try simp [scM, nX, hX, seM, rsX, dfX, ldX] at hh) <;> omega)),
          r4.kp sC sM (fun hh => by (try simp [scX, hsX, bX, seX, obX, vaX] at hh) <;> omega) (fun j => (fun hh => by (try simp [scM, nX, hX, seM, rsX, dfX, ldX] at hh) <;> omega)),
          r5.kp sC (fun hh => by (try simp [scX, hsX, bX, seX, obX, vaX] at hh) <;> omega),
          r6.kp sC sM (fun hh => by (try simp [scX, hsX, bX, seX, obX, vaX] at hh) <;> omega) (fun j => (fun hh => by (try simp [scM, nX, hX, seM, rsX, dfX, ldX] at hh) <;> omega)),
          (r7.kp sC sM (fun hh => by (try simp [scX, hsX, bX, seX, obX, vaX] at hh) <;> omega) ⟨(fun hh => by (try simp [scM, nX, hX, seM, rsX, dfX, ldX] at hh) <;> omega), (fun hh => by (try simp [scM, nX, hX, seM, rsX, dfX, ldX] at hh) <;> omega), (fun hh => by (try simp [scM, nX, hX, seM, rsX, dfX, ldX] at hh) <;> omega), (fun hh => by (try simp [scM, nX, hX, seM, rsX, dfX, ldX] at hh) <;> omega)⟩),
          r8.kp sC sM (fun hh => by (try simp [scX, hsX, bX, seX, obX, vaX] at hh) <;> omega) (fun hh => by (try simp [scM, nX, hX, seM, rsX, dfX, ldX] at hh) <;> omega),
          (r9.kp sC (fun hh => by (try simp [scX, hsX, bX, seX, obX, vaX] at hh) <;> omega)),
          fun i hi => ((r10 i hi).kp sC sM ⟨(fun hh => by (try simp [scX, hsX, bX, seX, obX, vaX] at hh) <;> omega), (fun hh => by (try simp [scX, hsX, bX, seX, obX, vaX] at hh) <;> omega), (fun hh => by (try simp [scX, hsX, bX, seX, obX, vaX] at hh) <;> omega)⟩ (fun k j h hh => by simp only [seM, thM, vaM, scM, nX, hX, rsX, dfX, ldX] at h hh; omega)),
          fun t ht => (r11 t ht).kp sC sM ⟨(fun hh => by (try simp [scX, hsX, bX, seX, obX, vaX] at hh) <;> omega), (fun hh => by (try simp [scX, hsX, bX, seX, obX, vaX] at hh) <;> omega), (fun hh => by (try simp [scX, hsX, bX, seX, obX, vaX] at hh) <;> omega), (fun hh => by (try simp [scX, hsX, bX, seX, obX, vaX] at hh) <;> omega), (fun hh => by (try simp [scX, hsX, bX, seX, obX, vaX] at hh) <;> omega)⟩ (fun k j h hh => by simp only [seM, thM, vaM, scM, nX, hX, rsX, dfX, ldX] at h hh; omega),
          fun v hv8 => by
            by_cases e' : v = i
            · subst e'
              exact fun w => by
                obtain ⟨z1, z2, z3, z4, z5⟩ := r12 v hv8 w
                exact ⟨by simpa [mM, m3] using z1, by simpa [mM, m3] using z2, by simp [mM, m3], by simpa [mM, m3] using z4, by simpa [mM, m3] using z5⟩
            · exact (r12 v hv8).kp sC sM ⟨(fun hh => by (try simp [scX, hsX, bX, seX, obX, vaX] at hh) <;> omega), (fun hh => by (try simp [scX, hsX, bX, seX, obX, vaX] at hh) <;> omega), (fun hh => by (try simp [scX, hsX, bX, seX, obX, vaX] at hh) <;> omega)⟩ (fun k j h hh => by simp only [seM, thM, vaM, scM, nX, hX, rsX, dfX, ldX] at h hh; omega)⟩⟩
    · rw [if_neg (fun z => q (hask.1.symm.trans z))] at hC
      rw [if_neg q] at hM
      rw [hC, hM]
      exact ⟨hTa, hask.2⟩

set_option maxHeartbeats 4000000 in
set_option maxRecDepth 100000 in
theorem rl_own {N : Nat} {C M C' M' : mSt} (ts : List Int8) (h0 : Rel0 N C M) (hN : N ≤ 1000) (hC : ∃ Sa, bHas Sa 0 [] ∧ mSame (fun k i => scX k i ∨ bX 0 k i) C Sa ∧ ((akR C (C.2.1 12 0)) = 0 → (∀ j, j < 32 → C'.2.1 12 0 j = shaL ts j) ∧ mSame (fun k i => k = 12 ∧ i = 0) Sa C') ∧ (¬ (akR C (C.2.1 12 0)) = 0 → C' = akS Sa (Sa.2.1 12 0))) (hM : ((mkR (mM M 0 0 1 0) (M.2.1 15 0) 0) = 0 → (∀ j, j < 32 → M'.2.1 15 0 j = shaL ts j) ∧ nSame (fun k j => scM k j ∨ k = 15) (mM M 0 0 1 0) M') ∧ (¬ (mkR (mM M 0 0 1 0) (M.2.1 15 0) 0) = 0 → M' = mkS (mM M 0 0 1 0) (M.2.1 15 0) 0)) : ((akR C (C.2.1 12 0)) : Int32) = (mkR (mM M 0 0 1 0) (M.2.1 15 0) 0) ∧ Rel (N + 1) C' M' := by
  have hT0 := h0.cutM
  obtain ⟨Sa, t1, hs, hCy, hCn⟩ := hC
  have hSa : Rel0 N Sa (mM M 0 0 1 0) := hT0.kp hs (nSame.rf (X := fun _ _ => False)) (fun k i h hh => by simp only [reC, scX, hsX, bX, seX, obX, vaX] at h hh; omega) (fun _ _ _ h => h)
  have hak := rl_ak hT0 (f := C.2.1 12 0) (g := M.2.1 15 0) (a := 0) (fun j hj => by rw [Nat.zero_add]; exact hT0.2.2.1 j hj)
  have hak2 := rl_ak hSa (f := Sa.2.1 12 0) (g := M.2.1 15 0) (a := 0) (fun j hj => by rw [Nat.zero_add]; exact hSa.2.2.1 j hj)
  refine ⟨hak.1, ?_⟩
  by_cases q : mkR (mM M 0 0 1 0) (M.2.1 15 0) 0 = 0
  · obtain ⟨c1, hC⟩ := hCy (hak.1.trans q)
    obtain ⟨m1, hM⟩ := hM.1 q
    obtain ⟨r1, r2, r3, r4, r5, r6, r7, r8, r9, r10, r11, r12⟩ := hSa
    exact ⟨⟨_, t1.kp hC (fun hh => by (try simp [scX, hsX, bX, seX, obX, vaX] at hh) <;> omega) (fun hh => by (try simp [scX, hsX, bX, seX, obX, vaX] at hh) <;> omega), nil_of hM (fun hh => by (try simp [scM, nX, hX, seM, rsX, dfX, ldX] at hh) <;> omega)⟩, ⟨r1.kp hC hM ⟨(fun hh => by (try simp [scX, hsX, bX, seX, obX, vaX] at hh) <;> omega), (fun hh => by (try simp [scX, hsX, bX, seX, obX, vaX] at hh) <;> omega)⟩ ⟨(fun hh => by (try simp [scM, nX, hX, seM, rsX, dfX, ldX] at hh) <;> omega), fun j => (fun hh => by (try simp [scM, nX, hX, seM, rsX, dfX, ldX] at hh) <;> omega)⟩,
        r2.kp hC hM (fun hh => by (try simp [scX, hsX, bX, seX, obX, vaX] at hh) <;> omega) (fun j => (fun hh => by (try simp [scM, nX, hX, seM, rsX, dfX, ldX] at hh) <;> omega)),
        fun j hj => (c1 j hj).trans (m1 j hj).symm,
        r4.kp hC hM (fun hh => by (try simp [scX, hsX, bX, seX, obX, vaX] at hh) <;> omega) (fun j => (fun hh => by (try simp [scM, nX, hX, seM, rsX, dfX, ldX] at hh) <;> omega)),
        r5.kp hC (fun hh => by (try simp [scX, hsX, bX, seX, obX, vaX] at hh) <;> omega),
        r6.kp hC hM (fun hh => by (try simp [scX, hsX, bX, seX, obX, vaX] at hh) <;> omega) (fun j => (fun hh => by (try simp [scM, nX, hX, seM, rsX, dfX, ldX] at hh) <;> omega)),
        (r7.kp hC hM (fun hh => by (try simp [scX, hsX, bX, seX, obX, vaX] at hh) <;> omega) ⟨(fun hh => by (try simp [scM, nX, hX, seM, rsX, dfX, ldX] at hh) <;> omega), (fun hh => by (try simp [scM, nX, hX, seM, rsX, dfX, ldX] at hh) <;> omega), (fun hh => by (try simp [scM, nX, hX, seM, rsX, dfX, ldX] at hh) <;> omega), (fun hh => by (try simp [scM, nX, hX, seM, rsX, dfX, ldX] at hh) <;> omega)⟩).mono (Nat.le_succ _),
        r8.kp hC hM (fun hh => by (try simp [scX, hsX, bX, seX, obX, vaX] at hh) <;> omega) (fun hh => by (try simp [scM, nX, hX, seM, rsX, dfX, ldX] at hh) <;> omega),
        (r9.kp hC (fun hh => by (try simp [scX, hsX, bX, seX, obX, vaX] at hh) <;> omega)).mono (Nat.le_succ _),
        fun i hi => ((r10 i hi).kp hC hM ⟨(fun hh => by (try simp [scX, hsX, bX, seX, obX, vaX] at hh) <;> omega), (fun hh => by (try simp [scX, hsX, bX, seX, obX, vaX] at hh) <;> omega), (fun hh => by (try simp [scX, hsX, bX, seX, obX, vaX] at hh) <;> omega)⟩ (fun k j h hh => by simp only [seM, thM, vaM, scM, nX, hX, rsX, dfX, ldX] at h hh; omega)).mono (Nat.le_succ _),
        fun t ht => (r11 t ht).kp hC hM ⟨(fun hh => by (try simp [scX, hsX, bX, seX, obX, vaX] at hh) <;> omega), (fun hh => by (try simp [scX, hsX, bX, seX, obX, vaX] at hh) <;> omega), (fun hh => by (try simp [scX, hsX, bX, seX, obX, vaX] at hh) <;> omega), (fun hh => by (try simp [scX, hsX, bX, seX, obX, vaX] at hh) <;> omega), (fun hh => by (try simp [scX, hsX, bX, seX, obX, vaX] at hh) <;> omega)⟩ (fun k j h hh => by simp only [seM, thM, vaM, scM, nX, hX, rsX, dfX, ldX] at h hh; omega),
        fun v hv => (r12 v hv).kp hC hM ⟨(fun hh => by (try simp [scX, hsX, bX, seX, obX, vaX] at hh) <;> omega), (fun hh => by (try simp [scX, hsX, bX, seX, obX, vaX] at hh) <;> omega), (fun hh => by (try simp [scX, hsX, bX, seX, obX, vaX] at hh) <;> omega)⟩ (fun k j h hh => by simp only [seM, thM, vaM, scM, nX, hX, rsX, dfX, ldX] at h hh; omega)⟩⟩
  · rw [hCn (fun z => q (hak.1.symm.trans z)), hM.2 q]
    exact ⟨⟨_, t1.kp (akS_same Sa (Sa.2.1 12 0)) (fun hh => by (try simp [scX, hsX, bX, seX, obX, vaX] at hh) <;> omega) (fun hh => by (try simp [scX, hsX, bX, seX, obX, vaX] at hh) <;> omega), nil_of (mkS_same _ (M.2.1 15 0) 0) (fun hh => by (try simp [scM, nX, hX, seM, rsX, dfX, ldX] at hh) <;> omega)⟩, hak2.2⟩

set_option maxHeartbeats 4000000 in
set_option maxRecDepth 100000 in
theorem rl_unlock {N : Nat} {C M C' M' : mSt} (hT : rTape C M) (h0 : Rel0 N C M) (hN : N ≤ 1000) (hC : C' = if mEq (C.2.1 11 0) (C.2.1 12 0) 0 = true then mM C 0 0 15 0 else mM C 0 0 15 (C.1 0 0 15 + 1)) (hM : M' = if mEq (M.2.1 14 0) (M.2.1 15 0) 0 = true then mM M 0 0 18 0 else mM M 0 0 18 (M.1 0 0 18 + 1)) : ((if mEq (C.2.1 11 0) (C.2.1 12 0) 0 = true then 0 else -4) : Int32) = (if mEq (M.2.1 14 0) (M.2.1 15 0) 0 = true then 0 else -4) ∧ Rel (N + 1) C' M' := by
  have hm : mEq (C.2.1 11 0) (C.2.1 12 0) 0 = mEq (M.2.1 14 0) (M.2.1 15 0) 0 := mEq_cg h0.2.1 (fun j hj => by rw [Nat.zero_add]; exact h0.2.2.1 j hj)
  have e15 := h0.2.2.2.2.2.2.1.2.2.1
  obtain ⟨fl, hfl, efl⟩ := h0.2.2.2.2.2.2.1.2.2.2.2.2
  rw [hm] at hC ⊢
  refine ⟨rfl, ?_⟩
  have sC : ∀ v, mSame (fun k i => k = 0 ∧ i = 0) C (mM C 0 0 15 v) := fun v => mSame.M ⟨rfl, rfl⟩
  have sM : ∀ v, nSame (fun k j => k = 0 ∧ j = 18) M (mM M 0 0 18 v) := fun v => nSame.M ⟨rfl, rfl⟩
  by_cases q : mEq (M.2.1 14 0) (M.2.1 15 0) 0 = true
  · rw [if_pos q] at hC hM
    rw [hC, hM]
    exact ⟨hT.kp (sC _) (sM _) ⟨(fun hh => by (try simp [scX, hsX, bX, seX, obX, vaX] at hh) <;> omega), (fun hh => by (try simp [scX, hsX, bX, seX, obX, vaX] at hh) <;> omega)⟩ ⟨(fun hh => by (try simp [scM, nX, hX, seM, rsX, dfX, ldX] at hh) <;> omega), fun j => (fun hh => by (try simp [scM, nX, hX, seM, rsX, dfX, ldX] at hh) <;> omega)⟩, h0.fail (Nat.le_succ _) (f := 0) (Nat.zero_le _) nI_0.symm⟩
  · rw [if_neg q] at hC hM
    rw [e15] at hC
    rw [hC, hM]
    exact ⟨hT.kp (sC _) (sM _) ⟨(fun hh => by (try simp [scX, hsX, bX, seX, obX, vaX] at hh) <;> omega), (fun hh => by (try simp [scX, hsX, bX, seX, obX, vaX] at hh) <;> omega)⟩ ⟨(fun hh => by (try simp [scM, nX, hX, seM, rsX, dfX, ldX] at hh) <;> omega), fun j => (fun hh => by (try simp [scM, nX, hX, seM, rsX, dfX, ldX] at hh) <;> omega)⟩, h0.fail (Nat.le_succ _) (f := fl + 1) (by omega) (by rw [← e15, efl]; exact nI_s fl)⟩

set_option maxHeartbeats 4000000 in
set_option maxRecDepth 100000 in
theorem rl_clear {N : Nat} {C M C' M' : mSt} (hT : rTape C M) (h0 : Rel0 N C M) (hN : N ≤ 1000) (hC : ((akR C (C.2.1 12 0)) = 0 → (∀ j, j < 32 → C'.2.1 8 0 j = shaL (mTk (C.2.1 8 0) 32) j) ∧ (∀ q, q < 12 → C'.1 22 q 3 = 0) ∧ (∀ j, j < 32 → C'.2.1 12 0 j = shaL [] j) ∧ mSame (fun k i => scX k i ∨ k = 8 ∨ k = 22 ∨ k = 12) C C') ∧ (¬ (akR C (C.2.1 12 0)) = 0 → C' = (akS C (C.2.1 12 0)))) (hM : ((mkR M (M.2.1 15 0) 0) = 0 → (∀ j, j < 32 → M'.2.1 13 0 j = shaL (mTk (M.2.1 13 0) 32) j) ∧ (∀ q, q < 12 → M'.1 30 0 q = 0) ∧ (∀ j, j < 32 → M'.2.1 15 0 j = shaL [] j) ∧ nSame (fun k j => scM k j ∨ k = 13 ∨ k = 30 ∨ k = 15) M M') ∧ (¬ (mkR M (M.2.1 15 0) 0) = 0 → M' = (mkS M (M.2.1 15 0) 0))) : ((akR C (C.2.1 12 0)) : Int32) = (mkR M (M.2.1 15 0) 0) ∧ Rel (N + 1) C' M' := by
  have hak := rl_ak h0 (f := C.2.1 12 0) (g := M.2.1 15 0) (a := 0) (fun j hj => by rw [Nat.zero_add]; exact h0.2.2.1 j hj)
  refine ⟨hak.1, ?_⟩
  by_cases q : mkR M (M.2.1 15 0) 0 = 0
  · obtain ⟨c1, c2, c3, hC⟩ := hC.1 (hak.1.trans q)
    obtain ⟨m1, m2, m3', hM⟩ := hM.1 q
    obtain ⟨r1, r2, r3, r4, r5, r6, r7, r8, r9, r10, r11, r12⟩ := h0
    rw [mTk_congr r4] at c1
    exact ⟨hT.kp hC hM ⟨(fun hh => by (try simp [scX, hsX, bX, seX, obX, vaX] at hh) <;> omega), (fun hh => by (try simp [scX, hsX, bX, seX, obX, vaX] at hh) <;> omega)⟩ ⟨(fun hh => by (try simp [scM, nX, hX, seM, rsX, dfX, ldX] at hh) <;> omega), fun j => (fun hh => by (try simp [scM, nX, hX, seM, rsX, dfX, ldX] at hh) <;> omega)⟩, ⟨r1.kp hC hM ⟨(fun hh => by (try simp [scX, hsX, bX, seX, obX, vaX] at hh) <;> omega), (fun hh => by (try simp [scX, hsX, bX, seX, obX, vaX] at hh) <;> omega)⟩ ⟨(fun hh => by (try simp [scM, nX, hX, seM, rsX, dfX, ldX] at hh) <;> omega), fun j => (fun hh => by (try simp [scM, nX, hX, seM, rsX, dfX, ldX] at hh) <;> omega)⟩,
        r2.kp hC hM (fun hh => by (try simp [scX, hsX, bX, seX, obX, vaX] at hh) <;> omega) (fun j => (fun hh => by (try simp [scM, nX, hX, seM, rsX, dfX, ldX] at hh) <;> omega)),
        fun j hj => (c3 j hj).trans (m3' j hj).symm,
        fun j hj => (c1 j hj).trans (m1 j hj).symm,
        r5.kp hC (fun hh => by (try simp [scX, hsX, bX, seX, obX, vaX] at hh) <;> omega),
        r6.kp hC hM (fun hh => by (try simp [scX, hsX, bX, seX, obX, vaX] at hh) <;> omega) (fun j => (fun hh => by (try simp [scM, nX, hX, seM, rsX, dfX, ldX] at hh) <;> omega)),
        (r7.kp hC hM (fun hh => by (try simp [scX, hsX, bX, seX, obX, vaX] at hh) <;> omega) ⟨(fun hh => by (try simp [scM, nX, hX, seM, rsX, dfX, ldX] at hh) <;> omega), (fun hh => by (try simp [scM, nX, hX, seM, rsX, dfX, ldX] at hh) <;> omega), (fun hh => by (try simp [scM, nX, hX, seM, rsX, dfX, ldX] at hh) <;> omega), (fun hh => by (try simp [scM, nX, hX, seM, rsX, dfX, ldX] at hh) <;> omega)⟩).mono (Nat.le_succ _),
        r8.kp hC hM (fun hh => by (try simp [scX, hsX, bX, seX, obX, vaX] at hh) <;> omega) (fun hh => by (try simp [scM, nX, hX, seM, rsX, dfX, ldX] at hh) <;> omega),
        (r9.kp hC (fun hh => by (try simp [scX, hsX, bX, seX, obX, vaX] at hh) <;> omega)).mono (Nat.le_succ _),
        fun i hi => ((r10 i hi).kp hC hM ⟨(fun hh => by (try simp [scX, hsX, bX, seX, obX, vaX] at hh) <;> omega), (fun hh => by (try simp [scX, hsX, bX, seX, obX, vaX] at hh) <;> omega), (fun hh => by (try simp [scX, hsX, bX, seX, obX, vaX] at hh) <;> omega)⟩ (fun k j h hh => by simp only [seM, thM, vaM, scM, nX, hX, rsX, dfX, ldX] at h hh; omega)).mono (Nat.le_succ _),
        fun t ht => ⟨(c2 t ht).trans (m2 t ht).symm, fun q => absurd (c2 t ht) q⟩,
        fun v hv q => absurd (c2 (4 + v) (by omega)) q⟩⟩
  · rw [hC.2 (fun z => q (hak.1.symm.trans z)), hM.2 q]
    exact ⟨hT.kp (akS_same C (C.2.1 12 0)) (mkS_same M (M.2.1 15 0) 0) ⟨(fun hh => by (try simp [scX, hsX, bX, seX, obX, vaX] at hh) <;> omega), (fun hh => by (try simp [scX, hsX, bX, seX, obX, vaX] at hh) <;> omega)⟩ ⟨(fun hh => by (try simp [scM, nX, hX, seM, rsX, dfX, ldX] at hh) <;> omega), fun j => (fun hh => by (try simp [scM, nX, hX, seM, rsX, dfX, ldX] at hh) <;> omega)⟩, hak.2⟩

set_option maxHeartbeats 4000000 in
set_option maxRecDepth 100000 in
theorem rl_tick {N : Nat} {C M C' M' : mSt} (x : Int32) (hT : rTape C M) (h0 : Rel0 N C M) (hN : N ≤ 1000) (hC : C' = if (¬ x < 0 ∧ ¬ 100000 < x ∧ x ≤ 2000000000 - C.1 0 0 13) then mM (mM C 0 0 15 (if 0 < (C.1 0 0 15 - ((C.1 0 0 13 + x) / 100 - C.1 0 0 13 / 100)) then (C.1 0 0 15 - ((C.1 0 0 13 + x) / 100 - C.1 0 0 13 / 100)) else 0)) 0 0 13 (C.1 0 0 13 + x) else C) (hM : M' = if (¬ x < 0 ∧ ¬ 100000 < x ∧ M.1 0 0 16 ≤ 2000000000 - x) then mM (mM M 0 0 16 (M.1 0 0 16 + x)) 0 0 18 (if ((M.1 0 0 16 + x) / 100 - M.1 0 0 16 / 100) < M.1 0 0 18 then M.1 0 0 18 - ((M.1 0 0 16 + x) / 100 - M.1 0 0 16 / 100) else 0) else M) : ((if (¬ x < 0 ∧ ¬ 100000 < x ∧ x ≤ 2000000000 - C.1 0 0 13) then C.1 0 0 13 + x else -1) : Int32) = (if (¬ x < 0 ∧ ¬ 100000 < x ∧ M.1 0 0 16 ≤ 2000000000 - x) then M.1 0 0 16 + x else -1) ∧ Rel (N + 1) C' M' := by
  obtain ⟨r1, r2, r3, r4, r5, r6, r7, r8, r9, r10, r11, r12⟩ := h0
  obtain ⟨e13, e14, e15, e12, ⟨c, hc, ec⟩, f, hf, ef⟩ := r7
  rw [ec, ef] at hC
  rw [ec]
  rw [← e13, ec, ← e15, ef] at hM
  rw [← e13, ec]
  have r7 : rNum N C M := ⟨e13, e14, e15, e12, ⟨c, hc, ec⟩, f, hf, ef⟩
  have hk : (¬ x < 0 ∧ ¬ 100000 < x ∧ x ≤ 2000000000 - nI c) ↔ (¬ x < 0 ∧ ¬ 100000 < x ∧ nI c ≤ 2000000000 - x) := by
    constructor
    · rintro ⟨h1, h2, h3⟩
      refine ⟨h1, h2, ?_⟩
      obtain ⟨n, hn, e⟩ := nI_of h1
      subst e
      have q : n ≤ 100000 := Nat.not_lt.mp (fun q => h2 ((nI_ltI (a := 100000) (by decide) (by omega)).mpr q))
      rw [show (2000000000 : Int32) = nI 2000000000 from rfl, pk_sub (by omega)] at h3 ⊢
      have := (nI_leI (by omega) (by omega)).mp h3
      exact (nI_leI (by omega) (by omega)).mpr (by omega)
    · rintro ⟨h1, h2, h3⟩
      refine ⟨h1, h2, ?_⟩
      obtain ⟨n, hn, e⟩ := nI_of h1
      subst e
      have q : n ≤ 100000 := Nat.not_lt.mp (fun q => h2 ((nI_ltI (a := 100000) (by decide) (by omega)).mpr q))
      rw [show (2000000000 : Int32) = nI 2000000000 from rfl, pk_sub (by omega)] at h3 ⊢
      have := (nI_leI (by omega) (by omega)).mp h3
      exact (nI_leI (by omega) (by omega)).mpr (by omega)
  by_cases q : ¬ x < 0 ∧ ¬ 100000 < x ∧ nI c ≤ 2000000000 - x
  · rw [if_pos (hk.mpr q)] at hC
    rw [if_pos q] at hM
    rw [if_pos (hk.mpr q), if_pos q]
    obtain ⟨h1, h2, h3⟩ := q
    obtain ⟨n, hn, e⟩ := nI_of h1
    subst e
    have q : n ≤ 100000 := Nat.not_lt.mp (fun q => h2 ((nI_ltI (a := 100000) (by decide) (by omega)).mpr q))
    rw [show (2000000000 : Int32) = nI 2000000000 from rfl, pk_sub (by omega)] at h3
    have hcn := (nI_leI (by omega) (by omega)).mp h3
    have hf2 := tk_fail (f := f) (t := (c + n) / 100 - c / 100) (by omega) (by omega)
    rw [tk_div (by omega), hf2.1, nI_add] at hC
    rw [tk_div (by omega), hf2.2, nI_add] at hM
    rw [hC, hM]
    have sC : mSame (fun k i => k = 0 ∧ i = 0) C (mM (mM C 0 0 15 (nI (f - ((c + n) / 100 - c / 100)))) 0 0 13 (nI (c + n))) := (mSame.M ⟨rfl, rfl⟩).tr (mSame.M ⟨rfl, rfl⟩)
    have sM : nSame (fun k j => k = 0 ∧ (j = 16 ∨ j = 18)) M (mM (mM M 0 0 16 (nI (c + n))) 0 0 18 (nI (f - ((c + n) / 100 - c / 100)))) := (nSame.M ⟨rfl, Or.inl rfl⟩).tr (nSame.M ⟨rfl, Or.inr rfl⟩)
    exact ⟨rfl, hT.kp sC sM ⟨(fun hh => by (try simp [scX, hsX, bX, seX, obX, vaX] at hh) <;> omega), (fun hh => by (try simp [scX, hsX, bX, seX, obX, vaX] at hh) <;> omega)⟩ ⟨(fun hh => by (try simp [scM, nX, hX, seM, rsX, dfX, ldX] at hh) <;> omega), fun j => (fun hh => by (try simp [scM, nX, hX, seM, rsX, dfX, ldX] at hh) <;> omega)⟩, ⟨r1.kp sC sM ⟨(fun hh => by (try simp [scX, hsX, bX, seX, obX, vaX] at hh) <;> omega), (fun hh => by (try simp [scX, hsX, bX, seX, obX, vaX] at hh) <;> omega)⟩ ⟨(fun hh => by (try simp [scM, nX, hX, seM, rsX, dfX, ldX] at hh) <;> omega), fun j => (fun hh => by (try simp [scM, nX, hX, seM, rsX, dfX, ldX] at hh) <;> omega)⟩,
        r2.kp sC sM (fun hh => by (try simp [scX, hsX, bX, seX, obX, vaX] at hh) <;> omega) (fun j => (fun hh => by (try simp [scM, nX, hX, seM, rsX, dfX, ldX] at hh) <;> omega)),
        r3.kp sC sM (fun hh => by (try simp [scX, hsX, bX, seX, obX, vaX] at hh) <;> omega) (fun j => (fun hh => by (try simp [scM, nX, hX, seM, rsX, dfX, ldX] at hh) <;> omega)),
        r4.kp sC sM (fun hh => by (try simp [scX, hsX, bX, seX, obX, vaX] at hh) <;> omega) (fun j => (fun hh => by (try simp [scM, nX, hX, seM, rsX, dfX, ldX] at hh) <;> omega)),
        r5.kp sC (fun hh => by (try simp [scX, hsX, bX, seX, obX, vaX] at hh) <;> omega),
        r6.kp sC sM (fun hh => by (try simp [scX, hsX, bX, seX, obX, vaX] at hh) <;> omega) (fun j => (fun hh => by (try simp [scM, nX, hX, seM, rsX, dfX, ldX] at hh) <;> omega)),
        ⟨by simp [mM, m3], by simpa [mM, m3] using e14, by simp [mM, m3], e12, ⟨c + n, by omega, by simp [mM, m3]⟩, f - ((c + n) / 100 - c / 100), by omega, by simp [mM, m3]⟩,
        r8.kp sC sM (fun hh => by (try simp [scX, hsX, bX, seX, obX, vaX] at hh) <;> omega) (fun hh => by (try simp [scM, nX, hX, seM, rsX, dfX, ldX] at hh) <;> omega),
        (r9.kp sC (fun hh => by (try simp [scX, hsX, bX, seX, obX, vaX] at hh) <;> omega)).mono (Nat.le_succ _),
        fun i hi => ((r10 i hi).kp sC sM ⟨(fun hh => by (try simp [scX, hsX, bX, seX, obX, vaX] at hh) <;> omega), (fun hh => by (try simp [scX, hsX, bX, seX, obX, vaX] at hh) <;> omega), (fun hh => by (try simp [scX, hsX, bX, seX, obX, vaX] at hh) <;> omega)⟩ (fun k j h hh => by simp only [seM, thM, vaM, scM, nX, hX, rsX, dfX, ldX] at h hh; omega)).mono (Nat.le_succ _),
        fun t ht => (r11 t ht).kp sC sM ⟨(fun hh => by (try simp [scX, hsX, bX, seX, obX, vaX] at hh) <;> omega), (fun hh => by (try simp [scX, hsX, bX, seX, obX, vaX] at hh) <;> omega), (fun hh => by (try simp [scX, hsX, bX, seX, obX, vaX] at hh) <;> omega), (fun hh => by (try simp [scX, hsX, bX, seX, obX, vaX] at hh) <;> omega), (fun hh => by (try simp [scX, hsX, bX, seX, obX, vaX] at hh) <;> omega)⟩ (fun k j h hh => by simp only [seM, thM, vaM, scM, nX, hX, rsX, dfX, ldX] at h hh; omega),
        fun v hv => (r12 v hv).kp sC sM ⟨(fun hh => by (try simp [scX, hsX, bX, seX, obX, vaX] at hh) <;> omega), (fun hh => by (try simp [scX, hsX, bX, seX, obX, vaX] at hh) <;> omega), (fun hh => by (try simp [scX, hsX, bX, seX, obX, vaX] at hh) <;> omega)⟩ (fun k j h hh => by simp only [seM, thM, vaM, scM, nX, hX, rsX, dfX, ldX] at h hh; omega)⟩⟩
  · rw [if_neg (fun z => q (hk.mp z))] at hC
    rw [if_neg q] at hM
    rw [if_neg (fun z => q (hk.mp z)), if_neg q, hC, hM]
    exact ⟨rfl, hT, Rel0.mono ⟨r1, r2, r3, r4, r5, r6, r7, r8, r9, r10, r11, r12⟩ (Nat.le_succ _)⟩

set_option maxHeartbeats 4000000 in
set_option maxRecDepth 100000 in
theorem rl_restart {N : Nat} {C M C' M' : mSt} (hT : rTape C M) (h0 : Rel0 N C M) (hN : N ≤ 1000) (hC : (∀ q, q < 256 → C'.2.1 16 0 q = (0 : Int32).toInt8) ∧ C'.1 15 0 2 = C.1 15 0 2 + nI 8 ∧ (∀ q, q < 4 → C'.1 19 q 1 = 0) ∧ (∀ q, q < 4 → C'.1 22 q 3 = 0) ∧ (∀ q, q < 8 → C'.1 22 (4 + q) 3 = C.1 22 (4 + q) 3) ∧ (∀ q, q < 8 → C'.1 26 q 3 = 0) ∧ (∀ q r, ¬ r = 3 → C'.1 26 q r = C.1 26 q r) ∧ (∀ q, C'.2.2 26 q 4 = C.2.2 26 q 4) ∧ mSame (fun k i => k = 16 ∨ k = 15 ∨ k = 19 ∨ k = 22 ∨ k = 26) (mM C 0 0 14 (C.1 0 0 14 + 1)) C') (hM : (∀ q, q < 256 → M'.2.1 16 0 q = (0 : Int32).toInt8) ∧ (∀ q, q < 4 → M'.1 22 0 q = 0) ∧ (∀ q, q < 4 → M'.1 30 0 q = 0) ∧ (∀ q, q < 8 → M'.1 37 0 (4 + q) = 0) ∧ nSame rsX (mM M 0 0 17 (M.1 0 0 17 + 1)) M') : ((C.1 0 0 14 + 1) : Int32) = (M.1 0 0 17 + 1) ∧ Rel (N + 1) C' M' := by
  obtain ⟨c1, c2, c3, c4, c5, c6, c7, c8, hC⟩ := hC
  obtain ⟨m1, m2, m3', m4, hM⟩ := hM
  obtain ⟨r1, r2, r3, r4, r5, r6, r7, r8, r9, r10, r11, r12⟩ := h0
  have sC : mSame (fun k i => k = 0 ∨ k = 16 ∨ k = 15 ∨ k = 19 ∨ k = 22 ∨ k = 26) C C' := (mSame.M (Or.inl rfl)).tr (hC.wk (fun _ _ h => Or.inr h))
  have sM : nSame (fun k j => (k = 0 ∧ j = 17) ∨ rsX k j) M M' := (nSame.M (Or.inl ⟨rfl, rfl⟩)).tr (hM.wk (fun _ _ h => Or.inr h))
  have q0 := hC 0 0 (fun hh => by (try simp [scX, hsX, bX, seX, obX, vaX] at hh) <;> omega)
  refine ⟨by rw [r7.2.1], hT.kp sC sM ⟨(fun hh => by (try simp [scX, hsX, bX, seX, obX, vaX] at hh) <;> omega), (fun hh => by (try simp [scX, hsX, bX, seX, obX, vaX] at hh) <;> omega)⟩ ⟨(fun hh => by (try simp [scM, nX, hX, seM, rsX, dfX, ldX] at hh) <;> omega), fun j => (fun hh => by (try simp [scM, nX, hX, seM, rsX, dfX, ldX] at hh) <;> omega)⟩, ⟨r1.kp sC sM ⟨(fun hh => by (try simp [scX, hsX, bX, seX, obX, vaX] at hh) <;> omega), (fun hh => by (try simp [scX, hsX, bX, seX, obX, vaX] at hh) <;> omega)⟩ ⟨(fun hh => by (try simp [scM, nX, hX, seM, rsX, dfX, ldX] at hh) <;> omega), fun j => (fun hh => by (try simp [scM, nX, hX, seM, rsX, dfX, ldX] at hh) <;> omega)⟩,
      r2.kp sC sM (fun hh => by (try simp [scX, hsX, bX, seX, obX, vaX] at hh) <;> omega) (fun j => (fun hh => by (try simp [scM, nX, hX, seM, rsX, dfX, ldX] at hh) <;> omega)),
      r3.kp sC sM (fun hh => by (try simp [scX, hsX, bX, seX, obX, vaX] at hh) <;> omega) (fun j => (fun hh => by (try simp [scM, nX, hX, seM, rsX, dfX, ldX] at hh) <;> omega)),
      r4.kp sC sM (fun hh => by (try simp [scX, hsX, bX, seX, obX, vaX] at hh) <;> omega) (fun j => (fun hh => by (try simp [scM, nX, hX, seM, rsX, dfX, ldX] at hh) <;> omega)),
      r5.kp sC (fun hh => by (try simp [scX, hsX, bX, seX, obX, vaX] at hh) <;> omega),
      fun j hj => (c1 j hj).trans (m1 j hj).symm,
      ⟨(q0.1 13).trans ((by simpa [mM, m3] using r7.1 : (mM C 0 0 14 (C.1 0 0 14 + 1)).1 0 0 13 = M.1 0 0 16).trans (sM 0 16 (fun hh => by (try simp [scM, nX, hX, seM, rsX, dfX, ldX] at hh) <;> omega)).1.symm), (q0.1 14).trans ((by simp [mM, m3]; exact r7.2.1 : (mM C 0 0 14 (C.1 0 0 14 + 1)).1 0 0 14 = (mM M 0 0 17 (M.1 0 0 17 + 1)).1 0 0 17).trans (hM 0 17 (fun hh => by (try simp [scM, nX, hX, seM, rsX, dfX, ldX] at hh) <;> omega)).1.symm), (q0.1 15).trans ((by simpa [mM, m3] using r7.2.2.1 : (mM C 0 0 14 (C.1 0 0 14 + 1)).1 0 0 15 = M.1 0 0 18).trans (sM 0 18 (fun hh => by (try simp [scM, nX, hX, seM, rsX, dfX, ldX] at hh) <;> omega)).1.symm), (q0.2.2 12).trans (r7.2.2.2.1.trans (sM 0 20 (fun hh => by (try simp [scM, nX, hX, seM, rsX, dfX, ldX] at hh) <;> omega)).2.2.symm), by
        obtain ⟨c, hc, ec⟩ := r7.2.2.2.2.1
        exact ⟨c, hc, (q0.1 13).trans (by simpa [mM, m3] using ec)⟩, by
        obtain ⟨f, hf, ef⟩ := r7.2.2.2.2.2
        exact ⟨f, by omega, (q0.1 15).trans (by simpa [mM, m3] using ef)⟩⟩,
      r8.kp sC sM (fun hh => by (try simp [scX, hsX, bX, seX, obX, vaX] at hh) <;> omega) (fun hh => by (try simp [scM, nX, hX, seM, rsX, dfX, ldX] at hh) <;> omega),
      by
        obtain ⟨ch, p1, p2⟩ := r9
        exact ⟨ch + 8, by omega, by rw [c2, p2]; exact nI_add ch 8⟩,
      fun i hi => ⟨(c3 i hi).trans (m2 i hi).symm, fun q => absurd (c3 i hi) q⟩,
      fun t ht => by
        by_cases e : t < 4
        · exact ⟨(c4 t e).trans (m3' t e).symm, fun q => absurd (c4 t e) q⟩
        · have a22 : C'.1 22 t 3 = C.1 22 t 3 := by have z := c5 (t - 4) (by omega); rwa [show 4 + (t - 4) = t by omega] at z
          have b : ∀ k j, thM t k j → M'.1 k 0 j = M.1 k 0 j ∧ M'.2.1 k 0 j = M.2.1 k 0 j := fun k j h => have z := sM k j (fun hh => by simp only [thM, rsX] at h hh; omega); ⟨z.1, z.2.1⟩
          obtain ⟨h1, h2⟩ := r11 t ht
          refine ⟨a22.trans (h1.trans (b 30 t (Or.inl ⟨Or.inl rfl, rfl⟩)).1.symm), fun ho => ?_⟩
          rw [a22] at ho
          obtain ⟨d, e', n, hn, z1, z2, z3⟩ := h2 ho
          have hl := mLn_le (3 + t) (by omega)
          exact ⟨fun j hj => ((sC 23 t (fun hh => by (try simp [scX, hsX, bX, seX, obX, vaX] at hh) <;> omega)).2.1 j).trans ((d j hj).trans (b 31 _ (Or.inr (Or.inl ⟨Or.inl rfl, by omega, by omega⟩))).2.symm), fun j hj => ((sC 24 t (fun hh => by (try simp [scX, hsX, bX, seX, obX, vaX] at hh) <;> omega)).2.1 j).trans ((e' j hj).trans (b 32 _ (Or.inr (Or.inl ⟨Or.inr rfl, by omega, by omega⟩))).2.symm), n, hn, ((sC 2 _ (fun hh => by (try simp [scX, hsX, bX, seX, obX, vaX] at hh) <;> omega)).1 1).trans z1, (b 34 t (Or.inl ⟨Or.inr rfl, rfl⟩)).1.trans z2, fun j hj => ((sC 3 _ (fun hh => by (try simp [scX, hsX, bX, seX, obX, vaX] at hh) <;> omega)).2.1 j).trans ((z3 j hj).trans (b 33 _ (Or.inr (Or.inr ⟨rfl, by omega, by omega⟩))).2.symm)⟩,
      fun v hv => by
        intro ho
        rw [c5 v hv] at ho
        obtain ⟨e1, e2, e3, e4, e5⟩ := r12 v hv ho
        rw [c7 v 1 (by decide), c7 v 2 (by decide), c6 v hv, c8 v, (sC 2 _ (fun hh => by (try simp [scX, hsX, bX, seX, obX, vaX] at hh) <;> omega)).1 1, m4 v hv, (sM 35 (4 + v) (fun hh => by (try simp [scM, nX, hX, seM, rsX, dfX, ldX] at hh) <;> omega)).1, (sM 36 (4 + v) (fun hh => by (try simp [scM, nX, hX, seM, rsX, dfX, ldX] at hh) <;> omega)).1]
        refine ⟨e1, e2, rfl, fun hk => ⟨(e4 hk).1, fun hw => ?_⟩, e5⟩
        rw [← (e4 hk).2 hw]
        exact lx8_cg 8 (fun j hj => (sM 33 _ (fun hh => by (try simp [scM, nX, hX, seM, rsX, dfX, ldX] at hh) <;> omega)).2.1)⟩⟩

set_option maxHeartbeats 4000000 in
set_option maxRecDepth 100000 in
theorem rl_look {N : Nat} {C M C' M' : mSt} (x : Int32) (ts : List Int8) (htC : bHas C 0 ts) (htM : nHas 1 400 M ts) (h0 : Rel0 N C M) (hN : N ≤ 1000) (hC : C' = C) (hM : M' = M) : ((loR C x ts.length) : Int32) = (mloR M x ts.length) ∧ Rel (N + 1) C' M' := by
  rw [hC, hM]
  obtain ⟨r1, r2, r3, r4, r5, r6, r7, r8, r9, r10, r11, r12⟩ := id h0
  refine ⟨?_, ⟨ts, htC, htM⟩, h0.mono (Nat.le_succ _)⟩
  unfold loR mloR
  rw [r7.1, r7.2.1, r7.2.2.1, show C.1 7 0 4 = M.1 0 0 19 from r8, cntN_cg (f := fun q => C.1 22 q 3) (g := fun q => M.1 30 0 (0 + q)) 4 (fun q hq => by rw [Nat.zero_add]; exact (r11 q (by omega)).1), cntN_cg (f := fun q => C.1 19 q 1) (g := fun q => M.1 22 0 (0 + q)) 4 (fun q hq => by rw [Nat.zero_add]; exact (r10 q hq).1), cntN_cg (f := fun q => C.1 22 (4 + q) 3) (g := fun q => M.1 30 0 (4 + q)) 8 (fun q hq => (r11 (4 + q) (by omega)).1)]
