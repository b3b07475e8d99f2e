/-! ===== the relation is kept: what is written, counted, chained, defined ===== -/
theorem bN_b8 (x : Int32) : bN x.toInt8 = u32 x % 256 := by
  unfold bN
  rw [bp_b, u32_and, show u32 255 = 2 ^ 8 - 1 from rfl, Nat.and_two_pow_sub_one_eq_mod]
theorem bN_bv (a : Int8) : bN a = a.toBitVec.toNat := by
  have h : a.toInt32.toBitVec.setWidth 8 = a.toBitVec := by
    apply BitVec.eq_of_getLsbD_eq
    intro i hi
    rw [BitVec.getLsbD_setWidth, Int8.toBitVec_toInt32, BitVec.getLsbD_signExtend]
    simp [hi, show i < 32 by omega]
  have h' := congrArg BitVec.toNat h
  rw [BitVec.toNat_setWidth] at h'
  unfold bN
  rw [u32_and, show u32 255 = 2 ^ 8 - 1 from rfl, Nat.and_two_pow_sub_one_eq_mod]
  exact h'
theorem bN_inj {a b : Int8} (h : bN a = bN b) : a = b := by
  rw [bN_bv, bN_bv] at h
  exact Int8.toBitVec_inj.mp (BitVec.eq_of_toNat_eq h)
theorem sar64 (n : Int64) (s : Nat) (hs : s ≤ 56) : u32 (n >>> ((nI s).toInt64 &&& 63)).toInt32 % 256 = n.toBitVec.toNat / 2 ^ s % 256 := by
  have e1 : ((nI s).toInt64 &&& 63) = lN s := wb_c s (by omega)
  have h : (n >>> ((nI s).toInt64 &&& 63)).toInt32.toBitVec.setWidth 8 = (n.toBitVec >>> s).setWidth 8 := by
    apply BitVec.eq_of_getLsbD_eq
    intro i hi
    rw [BitVec.getLsbD_setWidth, BitVec.getLsbD_setWidth, Int64.toBitVec_toInt32, BitVec.getLsbD_signExtend, Int64.toBitVec_shiftRight, e1, wb_tb]
    have e2 : BitVec.sshiftRight' n.toBitVec ((BitVec.ofNat 64 s).smod 64) = BitVec.sshiftRight n.toBitVec s := by
      unfold BitVec.sshiftRight'
      rw [wb_sm s (by omega), BitVec.toNat_ofNat, Nat.mod_eq_of_lt (by omega)]
    rw [e2, BitVec.getLsbD_sshiftRight, BitVec.getLsbD_ushiftRight]
    have h1 : ¬ 64 ≤ i := by omega
    have h2 : i < 32 := by omega
    have h3 : i < 64 := by omega
    have h4 : s + i < 64 := by omega
    simp [hi, h1, h2, h3, h4]
  have h' := congrArg BitVec.toNat h
  rw [BitVec.toNat_setWidth, BitVec.toNat_setWidth, BitVec.toNat_ushiftRight, Nat.shiftRight_eq_div_pow] at h'
  exact h'
theorem l2i_u32 (n : Int64) : u32 n.toInt32 = n.toBitVec.toNat % 4294967296 := by
  have h : n.toInt32.toBitVec = n.toBitVec.setWidth 32 := by
    apply BitVec.eq_of_getLsbD_eq
    intro i hi
    rw [BitVec.getLsbD_setWidth, Int64.toBitVec_toInt32, BitVec.getLsbD_signExtend]
    simp [hi, show i < 64 by omega]
  have h' := congrArg BitVec.toNat h
  rw [BitVec.toNat_setWidth] at h'
  exact h'
theorem bN_by8 (n : Int64) {q : Nat} (hq : q < 8) : bN (by8 n q) = n.toBitVec.toNat / 2 ^ (56 - 8 * q) % 256 := by
  unfold by8
  rw [bN_b8]
  exact sar64 n _ (by omega)
theorem u32_mU (x : Int32) {k : Nat} (hk : k < 32) : u32 (mU x (nI k)) = u32 x / 2 ^ k := pk_ushr x (nI k) k (sh_u k hk)
theorem w4_bN (x : Int32) {q : Nat} (hq : q < 4) : bN ((w4 x).getD q 0) = u32 x / 2 ^ (24 - 8 * q) % 256 := by
  have e : w4 x = [(mU x (nI 24)).toInt8, (mU x (nI 16)).toInt8, (mU x (nI 8)).toInt8, x.toInt8] := rfl
  rw [e]
  rcases (show q = 0 ∨ q = 1 ∨ q = 2 ∨ q = 3 by omega) with rfl | rfl | rfl | rfl
  · show bN (mU x (nI 24)).toInt8 = _
    rw [bN_b8, u32_mU x (by decide)]
  · show bN (mU x (nI 16)).toInt8 = _
    rw [bN_b8, u32_mU x (by decide)]
  · show bN (mU x (nI 8)).toInt8 = _
    rw [bN_b8, u32_mU x (by decide)]
  · show bN x.toInt8 = _
    rw [bN_b8]
    show _ = u32 x / 1 % 256
    rw [Nat.div_one]
theorem getD_l {xs ys : List Int8} {q : Nat} (h : q < xs.length) : (xs ++ ys).getD q 0 = xs.getD q 0 := by rw [List.getD_eq_getElem?_getD, List.getD_eq_getElem?_getD, List.getElem?_append_left h]
theorem getD_r {xs ys : List Int8} {q : Nat} (h : xs.length ≤ q) : (xs ++ ys).getD q 0 = ys.getD (q - xs.length) 0 := by rw [List.getD_eq_getElem?_getD, List.getD_eq_getElem?_getD, List.getElem?_append_right h]
theorem w8_by8 (n : Int64) {q : Nat} (hq : q < 8) : (w4 ((n.toUInt64 >>> ((32 : Int32).toInt64.toUInt64 &&& Int64.toUInt64 63)).toInt64).toInt32 ++ w4 n.toInt32).getD q 0 = by8 n q := by
  apply bN_inj
  rw [bN_by8 n hq]
  obtain ⟨k, hk, e⟩ := wb_of n
  have ek : n.toBitVec.toNat = k := by rw [e]; exact wb_tn hk
  have hi : u32 ((n.toUInt64 >>> ((32 : Int32).toInt64.toUInt64 &&& Int64.toUInt64 63)).toInt64).toInt32 = k / 4294967296 := by
    rw [show (32 : Int32) = nI 32 from rfl, e, wb_shr hk (by decide), l2i_u32, wb_tn (by omega)]
    omega
  have lo : u32 n.toInt32 = k % 4294967296 := by rw [l2i_u32, ek]
  rw [ek]
  by_cases h4 : q < 4
  · rw [getD_l (xs := w4 ((n.toUInt64 >>> ((32 : Int32).toInt64.toUInt64 &&& Int64.toUInt64 63)).toInt64).toInt32) h4, w4_bN _ h4, hi]
    rcases (show q = 0 ∨ q = 1 ∨ q = 2 ∨ q = 3 by omega) with rfl | rfl | rfl | rfl
    · show k / 4294967296 / 16777216 % 256 = k / 72057594037927936 % 256
      omega
    · show k / 4294967296 / 65536 % 256 = k / 281474976710656 % 256
      omega
    · show k / 4294967296 / 256 % 256 = k / 1099511627776 % 256
      omega
    · show k / 4294967296 / 1 % 256 = k / 4294967296 % 256
      omega
  · rw [getD_r (xs := w4 ((n.toUInt64 >>> ((32 : Int32).toInt64.toUInt64 &&& Int64.toUInt64 63)).toInt64).toInt32) (Nat.not_lt.mp h4), w4_len, w4_bN _ (by omega), lo]
    rcases (show q = 4 ∨ q = 5 ∨ q = 6 ∨ q = 7 by omega) with rfl | rfl | rfl | rfl
    · show k % 4294967296 / 16777216 % 256 = k / 16777216 % 256
      omega
    · show k % 4294967296 / 65536 % 256 = k / 65536 % 256
      omega
    · show k % 4294967296 / 256 % 256 = k / 256 % 256
      omega
    · show k % 4294967296 / 1 % 256 = k / 1 % 256
      omega
theorem lN_byte' {a b : Nat} (ha : a < 2 ^ 56) (hb : b < 256) : (lN a <<< ((8 : Int32).toInt64 &&& 63)) ||| (nI b).toInt64 = lN (a * 256 + b) := by
  rw [show (8 : Int32) = nI 8 from rfl, wb_shl _ (by decide), nI_l (by omega), wb_or (by omega) (by omega), or_sum (k := 8) hb]
theorem lx8_s (f : Nat → Int8) (n : Nat) {a : Nat} (h : lx8 f n = lN a) (ha : a < 2 ^ 56) : lx8 f (n + 1) = lN (a * 256 + bN (f n)) := by
  show (lx8 f n <<< _) ||| ((f n).toInt32 &&& 255).toInt64 = _
  rw [h, bN_nI]
  exact lN_byte' ha (bN_lt _)
theorem lx8_by8 (n : Int64) : lx8 (by8 n) 8 = n := by
  obtain ⟨k, hk, e⟩ := wb_of n
  have ek : n.toBitVec.toNat = k := by rw [e]; exact wb_tn hk
  have b : ∀ q, q < 8 → bN (by8 n q) = k / 2 ^ (56 - 8 * q) % 256 := fun q hq => by rw [bN_by8 n hq, ek]
  have s0 : lx8 (by8 n) 0 = lN 0 := rfl
  have s1 := lx8_s (by8 n) 0 s0 (by decide)
  rw [b 0 (by decide), show 0 * 256 + k / 2 ^ (56 - 8 * 0) % 256 = k / 72057594037927936 by show 0 * 256 + k / 72057594037927936 % 256 = _; omega] at s1
  have s2 := lx8_s (by8 n) 1 s1 (by omega)
  rw [b 1 (by decide), show k / 72057594037927936 * 256 + k / 2 ^ (56 - 8 * 1) % 256 = k / 281474976710656 by show _ + k / 281474976710656 % 256 = _; omega] at s2
  have s3 := lx8_s (by8 n) 2 s2 (by omega)
  rw [b 2 (by decide), show k / 281474976710656 * 256 + k / 2 ^ (56 - 8 * 2) % 256 = k / 1099511627776 by show _ + k / 1099511627776 % 256 = _; omega] at s3
  have s4 := lx8_s (by8 n) 3 s3 (by omega)
  rw [b 3 (by decide), show k / 1099511627776 * 256 + k / 2 ^ (56 - 8 * 3) % 256 = k / 4294967296 by show _ + k / 4294967296 % 256 = _; omega] at s4
  have s5 := lx8_s (by8 n) 4 s4 (by omega)
  rw [b 4 (by decide), show k / 4294967296 * 256 + k / 2 ^ (56 - 8 * 4) % 256 = k / 16777216 by show _ + k / 16777216 % 256 = _; omega] at s5
  have s6 := lx8_s (by8 n) 5 s5 (by omega)
  rw [b 5 (by decide), show k / 16777216 * 256 + k / 2 ^ (56 - 8 * 5) % 256 = k / 65536 by show _ + k / 65536 % 256 = _; omega] at s6
  have s7 := lx8_s (by8 n) 6 s6 (by omega)
  rw [b 6 (by decide), show k / 65536 * 256 + k / 2 ^ (56 - 8 * 6) % 256 = k / 256 by show _ + k / 256 % 256 = _; omega] at s7
  have s8 := lx8_s (by8 n) 7 s7 (by omega)
  rw [b 7 (by decide), show k / 256 * 256 + k / 2 ^ (56 - 8 * 7) % 256 = k by show _ + k / 1 % 256 = _; omega] at s8
  exact s8.trans e.symm
theorem gr_eq (g n : Int64) : (if n < g then g else n) = if g < n then n else g := by
  by_cases h1 : g < n
  · rw [if_pos h1, if_neg (fun h => ?_)]
    have a := Int64.lt_iff_toInt_lt.mp h1
    have b := Int64.lt_iff_toInt_lt.mp h
    omega
  · rw [if_neg h1]
    by_cases h2 : n < g
    · rw [if_pos h2]
    · rw [if_neg h2]
      have a : ¬ g.toInt < n.toInt := fun q => h1 (Int64.lt_iff_toInt_lt.mpr q)
      have b : ¬ n.toInt < g.toInt := fun q => h2 (Int64.lt_iff_toInt_lt.mpr q)
      exact Int64.toInt_inj.mp (by omega)
theorem Rel0.cutC {N : Nat} {C M : mSt} (h : Rel0 N C M) : Rel0 N (mM C 2 0 1 0) M := h.kp (mSame.M (X := bX 0) ⟨Or.inl rfl, rfl⟩) (nSame.rf (X := fun _ _ => False)) (fun k i h hh => by simp only [reC, scX, hsX, bX, seX, obX, vaX] at h hh; omega) (fun _ _ _ h => h)
theorem mLn_w {i : Nat} : mLn (3 + (4 + i)) = 64 := by
  unfold mLn
  rw [if_neg (by omega), if_neg (by omega), if_neg (by omega), if_neg (by omega)]
theorem nil_mc {M : mSt} {i : Nat} {y co : Int32} : nHas 1 400 (mcP (mM M 0 0 1 0) i y co).2 [] := nil_of (mcP_same _ i y co) (fun hh => by (try simp [scM, nX, hX, seM, rsX, dfX, ldX] at hh) <;> omega)
theorem df_iff {x kd sz : Int32} : (¬ x < 0 ∧ ¬ nI 8 ≤ x ∧ (kd = 1 ∨ kd = 2 ∨ (kd = 0 ∧ ¬ sz < 1 ∧ ¬ 64 < sz))) ↔ (¬ x < 0 ∧ ¬ 7 < x ∧ ¬ kd < 0 ∧ ¬ 2 < kd ∧ (kd = 0 → ¬ sz < 1 ∧ sz ≤ 64)) := by
  have h7 : nI 8 ≤ x ↔ 7 < x := by
    refine ⟨lt_of_nI8, fun h => ?_⟩
    have h1 := Int32.lt_iff_toInt_lt.mp h
    have h2 : (7 : Int32).toInt = 7 := rfl
    apply Int32.le_iff_toInt_le.mpr
    rw [nI_toInt (by decide)]
    omega
  rw [h7]
  constructor
  · rintro ⟨h1, h2, rfl | rfl | ⟨rfl, h3, h4⟩⟩
    · exact ⟨h1, h2, by decide, by decide, fun h => absurd h (by decide)⟩
    · exact ⟨h1, h2, by decide, by decide, fun h => absurd h (by decide)⟩
    · exact ⟨h1, h2, by decide, by decide, fun _ => ⟨h3, Int32.not_lt.mp h4⟩⟩
  · rintro ⟨h1, h2, h3, h4, h5⟩
    refine ⟨h1, h2, ?_⟩
    obtain ⟨n, hn, e⟩ := nI_of h3
    subst e
    have q : n ≤ 2 := Nat.not_lt.mp (fun q => h4 ((nI_ltI (a := 2) (by decide) (by omega)).mpr q))
    rcases (show n = 0 ∨ n = 1 ∨ n = 2 by omega) with rfl | rfl | rfl
    · exact Or.inr (Or.inr ⟨rfl, (h5 rfl).1, Int32.not_lt.mpr (h5 rfl).2⟩)
    · exact Or.inl rfl
    · exact Or.inr (Or.inl rfl)
theorem df_sz {kd sz : Int32} (h : kd = 1 ∨ kd = 2 ∨ (kd = 0 ∧ ¬ sz < 1 ∧ ¬ 64 < sz)) : ∃ n, n ≤ 64 ∧ (if kd = 0 then sz else if kd = 1 then 8 else 32) = nI n := by
  rcases h with rfl | rfl | ⟨rfl, h3, h4⟩
  · exact ⟨8, by decide, rfl⟩
  · exact ⟨32, by decide, rfl⟩
  · obtain ⟨n, hn, e⟩ := nI_of_le (n := 64) (by decide) (fun q => h3 (Int32.lt_iff_toInt_lt.mpr (by have h1 := Int32.lt_iff_toInt_lt.mp q; rw [Int32.toInt_zero] at h1; have h2 : (1 : Int32).toInt = 1 := rfl; omega))) (Int32.not_lt.mp h4)
    exact ⟨n, hn, by rw [if_pos rfl]; exact e⟩
set_option maxHeartbeats 4000000 in
set_option maxRecDepth 100000 in
theorem rl_chain {N : Nat} {C M C' M' : mSt} (x y : Int32) (ts : List Int8) (htC : bHas C 0 ts) (htM : nHas 1 400 M ts) (h0 : Rel0 N C M) (hN : N ≤ 1000) (hC : bHas C' 0 [] ∧ (voO C x 2 = none → C' = mM C 2 0 1 0) ∧ ∀ i, voO C x 2 = some i → ∃ S2, C' = mM S2 2 0 1 0 ∧ ((acP C i y 4).1 = 0 → ∃ S1, S2 = mM S1 26 i 2 1 ∧ (∀ j, j < 32 → S1.2.1 3 (3 + (4 + i)) j = shaL (mTk ((acP C i y 4).2.2.1 3 (3 + (4 + i))) 32 ++ ts) j) ∧ mSame (fun k i' => scX k i' ∨ (k = 3 ∧ i' = (3 + (4 + i)))) (acP C i y 4).2 S1) ∧ (¬ (acP C i y 4).1 = 0 → S2 = (acP C i y 4).2)) (hM : (mtO (mM M 0 0 1 0) x 2 = none → M' = (mM M 0 0 1 0)) ∧ ∀ i, mtO (mM M 0 0 1 0) x 2 = some i → ((mcP (mM M 0 0 1 0) i y 4).1 = 0 → (∀ j, j < 32 → M'.2.1 33 0 (128 * (4 + i) + j) = shaL (mTk (fun q => M.2.1 33 0 (128 * (4 + i) + q)) 32 ++ ts) j) ∧ M'.1 36 0 (4 + i) = 1 ∧ nSame (fun k j => scM k j ∨ (k = 33 ∧ 128 * (4 + i) ≤ j ∧ j < 128 * (4 + i) + 32) ∨ (k = 36 ∧ j = 4 + i)) (mcP (mM M 0 0 1 0) i y 4).2 M') ∧ (¬ (mcP (mM M 0 0 1 0) i y 4).1 = 0 → M' = (mcP (mM M 0 0 1 0) i y 4).2)) : (((voO C x 2).elim (-2) (fun i => (acP C i y 4).1)) : Int32) = ((mtO (mM M 0 0 1 0) x 2).elim (-2) (fun i => (mcP (mM M 0 0 1 0) i y 4).1)) ∧ Rel (N + 1) C' M' := by
  have h0' := h0.cutM
  rw [voO_eq h0' x (by decide)] at hC ⊢
  obtain ⟨t1, hCn, hCy⟩ := hC
  cases e : mtO (mM M 0 0 1 0) x 2 with
  | none =>
    rw [hM.1 e, hCn e, Option.elim_none, Option.elim_none]
    exact ⟨rfl, ⟨_, bnil_T, nil_T⟩, h0'.cutC.mono (Nat.le_succ _)⟩
  | some i =>
    obtain ⟨S2, eC, hy, hn⟩ := hCy i e
    have hM := hM.2 i e
    have hi := mtO_lt e
    have hp : ¬ C.1 22 (4 + i) 3 = 0 := by rw [(h0'.2.2.2.2.2.2.2.2.2.2.1 (4 + i) (by omega)).1]; exact (opO_some (by decide) (mtO_some e).1).2.2
    have hv := h0'.2.2.2.2.2.2.2.2.2.2.2 i hi hp
    have hk : C.1 26 i 1 = 2 := hv.1.trans ((mtO_some e).2.resolve_left (by decide))
    have hac := rl_ac h0' hN hi hp y 4
    rw [Option.elim_some, Option.elim_some]
    refine ⟨hac.1, ?_⟩
    by_cases q : (mcP (mM M 0 0 1 0) i y 4).1 = 0
    · obtain ⟨S1, eS, c1, hs⟩ := hy (hac.1.trans q)
      obtain ⟨m1, m2, hM⟩ := hM.1 q
      have hpD : ¬ (acP C i y 4).2.1 22 (4 + i) 3 = 0 := by rw [((acP_same C i y 4) 22 (4 + i) (fun hh => by (try simp [scX, hsX, bX, seX, obX, vaX] at hh) <;> omega)).1 3]; exact hp
      obtain ⟨au, po, n, hn, z1, z2, z3⟩ := (hac.2.2.2.2.2.2.2.2.2.2.2.1 (4 + i) (by omega)).2 hpD
      have hvD := hac.2.2.2.2.2.2.2.2.2.2.2.2 i hi hpD
      have hkD := ((acP_same C i y 4) 26 i (fun hh => by (try simp [scX, hsX, bX, seX, obX, vaX] at hh) <;> omega)).1 1
      have hn64 : n ≤ 64 := by rw [mLn_w] at hn; exact hn
      have hkD := hkD.trans hk
      have hn32 : n = 32 := (nI_eq (by omega) (by decide)).mp (z1.symm.trans (hvD.2.2.2.2 hkD))
      rw [show mTk ((acP C i y 4).2.2.1 3 (3 + (4 + i))) 32 = mTk (fun q => M.2.1 33 0 (128 * (4 + i) + q)) 32 from mTk_congr (fun j hj => (z3 j (by omega)).trans (mcP_same (mM M 0 0 1 0) i y 4 33 _ (fun hh => by (try simp [scM, nX, hX, seM, rsX, dfX, ldX] at hh) <;> omega)).2.1)] at c1
      have sC : mSame (fun k i' => scX k i' ∨ (k = 3 ∧ i' = 3 + (4 + i)) ∨ (k = 26 ∧ i' = i) ∨ (k = 2 ∧ i' = 0)) (acP C i y 4).2 C' := by
        rw [eC, eS]
        exact ((hs.wk (X' := fun k i' => scX k i' ∨ (k = 3 ∧ i' = 3 + (4 + i)) ∨ (k = 26 ∧ i' = i) ∨ (k = 2 ∧ i' = 0)) (fun _ _ h => h.elim Or.inl (fun z => Or.inr (Or.inl z)))).tr (mSame.M (X := fun k i' => scX k i' ∨ (k = 3 ∧ i' = 3 + (4 + i)) ∨ (k = 26 ∧ i' = i) ∨ (k = 2 ∧ i' = 0)) (Or.inr (Or.inr (Or.inl ⟨rfl, rfl⟩))))).tr (mSame.M (X := fun k i' => scX k i' ∨ (k = 3 ∧ i' = 3 + (4 + i)) ∨ (k = 26 ∧ i' = i) ∨ (k = 2 ∧ i' = 0)) (Or.inr (Or.inr (Or.inr ⟨rfl, rfl⟩))))
      have f26 : ∀ j, ¬ j = 2 → C'.1 26 i j = (acP C i y 4).2.1 26 i j := fun j hj => by
        rw [eC, eS]
        refine Eq.trans ?_ ((hs 26 i (fun hh => by (try simp [scX, hsX, bX, seX, obX, vaX] at hh) <;> omega)).1 j)
        simp [mM, m3, hj]
      have w26 : C'.1 26 i 2 = 1 := by rw [eC, eS]; simp [mM, m3]
      have d3 : ∀ j, j < 32 → C'.2.1 3 (3 + (4 + i)) j = M'.2.1 33 0 (128 * (4 + i) + j) := fun j hj => by
        rw [eC, eS]
        exact (c1 j hj).trans (m1 j hj).symm
      have t2 : nHas 1 400 M' [] := nHas.nil' ((hM 0 1 (fun hh => by (try simp [scM, nX, hX, seM, rsX, dfX, ldX] at hh) <;> omega)).1.trans nil_mc.1)
      obtain ⟨r1, r2, r3, r4, r5, r6, r7, r8, r9, r10, r11, r12⟩ := hac.2
      exact ⟨⟨_, t1, t2⟩, ⟨r1.kp sC hM ⟨(fun hh => by (try simp [scX, hsX, bX, seX, obX, vaX] at hh) <;> omega), (fun hh => by (try simp [scX, hsX, bX, seX, obX, vaX] at hh) <;> omega)⟩ ⟨(fun hh => by (try simp [scM, nX, hX, seM, rsX, dfX, ldX] at hh) <;> omega), fun j => (fun hh => by (try simp [scM, nX, hX, seM, rsX, dfX, ldX] at hh) <;> omega)⟩,
          r2.kp sC hM (fun hh => by (try simp [scX, hsX, bX, seX, obX, vaX] at hh) <;> omega) (fun j => (fun hh => by (try simp [scM, nX, hX, seM, rsX, dfX, ldX] at hh) <;> omega)),
          r3.kp sC hM (fun hh => by (try simp [scX, hsX, bX, seX, obX, vaX] at hh) <;> omega) (fun j => (fun hh => by (try simp [scM, nX, hX, seM, rsX, dfX, ldX] at hh) <;> omega)),
          r4.kp sC hM (fun hh => by (try simp [scX, hsX, bX, seX, obX, vaX] at hh) <;> omega) (fun j => (fun hh => by (try simp [scM, nX, hX, seM, rsX, dfX, ldX] at hh) <;> omega)),
          r5.kp sC (fun hh => by (try simp [scX, hsX, bX, seX, obX, vaX] at hh) <;> omega),
          r6.kp sC hM (fun hh => by (try simp [scX, hsX, bX, seX, obX, vaX] at hh) <;> omega) (fun j => (fun hh => by (try simp [scM, nX, hX, seM, rsX, dfX, ldX] at hh) <;> omega)),
          (r7.kp sC hM (fun hh => by (try simp [scX, hsX, bX, seX, obX, vaX] at hh) <;> omega) ⟨(fun hh => by (try simp [scM, nX, hX, seM, rsX, dfX, ldX] at hh) <;> omega), (fun hh => by (try simp [scM, nX, hX, seM, rsX, dfX, ldX] at hh) <;> omega), (fun hh => by (try simp [scM, nX, hX, seM, rsX, dfX, ldX] at hh) <;> omega), (fun hh => by (try simp [scM, nX, hX, seM, rsX, dfX, ldX] at hh) <;> omega)⟩),
          r8.kp sC hM (fun hh => by (try simp [scX, hsX, bX, seX, obX, vaX] at hh) <;> omega) (fun hh => by (try simp [scM, nX, hX, seM, rsX, dfX, ldX] at hh) <;> omega),
          (r9.kp sC (fun hh => by (try simp [scX, hsX, bX, seX, obX, vaX] at hh) <;> omega)),
          fun i hi => ((r10 i hi).kp sC hM ⟨(fun hh => by (try simp [scX, hsX, bX, seX, obX, vaX] at hh) <;> omega), (fun hh => by (try simp [scX, hsX, bX, seX, obX, vaX] at hh) <;> omega), (fun hh => by (try simp [scX, hsX, bX, seX, obX, vaX] at hh) <;> omega)⟩ (fun k j h hh => by simp only [seM, thM, vaM, scM, nX, hX, rsX, dfX, ldX] at h hh; omega)),
          fun t ht => by
            by_cases e' : t = 4 + i
            · subst e'
              exact ⟨((sC 22 _ (fun hh => by (try simp [scX, hsX, bX, seX, obX, vaX] at hh) <;> omega)).1 3).trans ((r11 _ ht).1.trans (hM 30 _ (fun hh => by (try simp [scM, nX, hX, seM, rsX, dfX, ldX] at hh) <;> omega)).1.symm), fun _ => ⟨fun j hj => ((sC 23 _ (fun hh => by (try simp [scX, hsX, bX, seX, obX, vaX] at hh) <;> omega)).2.1 j).trans ((au j hj).trans (hM 31 _ (fun hh => by (try simp [scM, nX, hX, seM, rsX, dfX, ldX] at hh) <;> omega)).2.1.symm), fun j hj => ((sC 24 _ (fun hh => by (try simp [scX, hsX, bX, seX, obX, vaX] at hh) <;> omega)).2.1 j).trans ((po j hj).trans (hM 32 _ (fun hh => by (try simp [scM, nX, hX, seM, rsX, dfX, ldX] at hh) <;> omega)).2.1.symm), n, hn, ((sC 2 _ (fun hh => by (try simp [scX, hsX, bX, seX, obX, vaX] at hh) <;> omega)).1 1).trans z1, (hM 34 _ (fun hh => by (try simp [scM, nX, hX, seM, rsX, dfX, ldX] at hh) <;> omega)).1.trans z2, fun j hj => d3 j (by omega)⟩⟩
            · exact (r11 t ht).kp sC hM ⟨(fun hh => by (try simp [scX, hsX, bX, seX, obX, vaX] at hh) <;> omega), (fun hh => by (try simp [scX, hsX, bX, seX, obX, vaX] at hh) <;> omega), (fun hh => by (try simp [scX, hsX, bX, seX, obX, vaX] at hh) <;> omega), (fun hh => by (try simp [scX, hsX, bX, seX, obX, vaX] at hh) <;> omega), (fun hh => by (try simp [scX, hsX, bX, seX, obX, vaX] at hh) <;> omega)⟩ (fun k j h hh => by simp only [seM, thM, vaM, scM, nX, hX, rsX, dfX, ldX] at h hh; omega),
          fun v hv8 => by
            by_cases e' : v = i
            · subst e'
              exact fun _ => ⟨(f26 1 (by decide)).trans (hvD.1.trans (hM 35 _ (fun hh => by (try simp [scM, nX, hX, seM, rsX, dfX, ldX] at hh) <;> omega)).1.symm), w26.trans m2.symm, (f26 3 (by decide)).trans (hvD.2.2.1.trans (hM 37 _ (fun hh => by (try simp [scM, nX, hX, seM, rsX, dfX, ldX] at hh) <;> omega)).1.symm), fun z => absurd ((hkD.symm.trans (f26 1 (by decide)).symm).trans z) (by decide), fun _ => ((sC 2 _ (fun hh => by (try simp [scX, hsX, bX, seX, obX, vaX] at hh) <;> omega)).1 1).trans (hvD.2.2.2.2 hkD)⟩
            · exact (r12 v hv8).kp sC hM ⟨(fun hh => by (try simp [scX, hsX, bX, seX, obX, vaX] at hh) <;> omega), (fun hh => by (try simp [scX, hsX, bX, seX, obX, vaX] at hh) <;> omega), (fun hh => by (try simp [scX, hsX, bX, seX, obX, vaX] at hh) <;> omega)⟩ (fun k j h hh => by simp only [seM, thM, vaM, scM, nX, hX, rsX, dfX, ldX] at h hh; omega)⟩⟩
    · rw [hn (fun z => q (hac.1.symm.trans z))] at eC
      rw [hM.2 q, eC]
      exact ⟨⟨_, bnil_T, nil_mc⟩, hac.2.cutC⟩

set_option maxHeartbeats 4000000 in
set_option maxRecDepth 100000 in
theorem rl_count {N : Nat} {C M C' M' : mSt} (x y : Int32) (hT : rTape C M) (h0 : Rel0 N C M) (hN : N ≤ 1000) (hC : (voO C x 1 = none → C' = C) ∧ ∀ i, voO C x 1 = some i → ((acP C i y 3).1 = 0 → ∃ S1, C' = mJ S1 0 0 12 (if coN (acP C i y 3).2 i < (acP C i y 3).2.2.2 0 0 12 then (acP C i y 3).2.2.2 0 0 12 else coN (acP C i y 3).2 i) ∧ bHas S1 (3 + (4 + i)) (w4 (((coN (acP C i y 3).2 i).toUInt64 >>> ((32 : Int32).toInt64.toUInt64 &&& Int64.toUInt64 63)).toInt64).toInt32 ++ w4 (coN (acP C i y 3).2 i).toInt32) ∧ mSame (bX (3 + (4 + i))) (mM (mJ (acP C i y 3).2 26 i 4 (coN (acP C i y 3).2 i)) 26 i 2 1) S1) ∧ (¬ (acP C i y 3).1 = 0 → C' = (acP C i y 3).2)) (hM : (mtO M x 1 = none → M' = M) ∧ ∀ i, mtO M x 1 = some i → ((mcP M i y 3).1 = 0 → (∀ q, q < 8 → M'.2.1 33 0 (128 * (4 + i) + q) = by8 (mcN (mcP M i y 3).2 i) q) ∧ M'.2.2 0 0 20 = (if (mcP M i y 3).2.2.2 0 0 20 < (mcN (mcP M i y 3).2 i) then (mcN (mcP M i y 3).2 i) else (mcP M i y 3).2.2.2 0 0 20) ∧ M'.1 36 0 (4 + i) = 1 ∧ nSame (fun k j => (k = 33 ∧ 128 * (4 + i) ≤ j ∧ j < 128 * (4 + i) + 8) ∨ (k = 0 ∧ j = 20) ∨ (k = 36 ∧ j = 4 + i)) (mcP M i y 3).2 M') ∧ (¬ (mcP M i y 3).1 = 0 → M' = (mcP M i y 3).2)) : (((voO C x 1).elim (-2) (fun i => if (acP C i y 3).1 = 0 then (coN (acP C i y 3).2 i &&& 2147483647).toInt32 else (acP C i y 3).1)) : Int32) = ((mtO M x 1).elim (-2) (fun i => if (mcP M i y 3).1 = 0 then ((mcN (mcP M i y 3).2 i) &&& 2147483647).toInt32 else (mcP M i y 3).1)) ∧ Rel (N + 1) C' M' := by
  have h0' := h0
  rw [voO_eq h0' x (by decide)] at hC ⊢
  obtain ⟨hCn, hCy⟩ := hC
  cases e : mtO M x 1 with
  | none =>
    rw [hM.1 e, hCn e, Option.elim_none, Option.elim_none]
    exact ⟨rfl, hT, h0'.mono (Nat.le_succ _)⟩
  | some i =>
    have hC := hCy i e
    have hM := hM.2 i e
    have hi := mtO_lt e
    have hp : ¬ C.1 22 (4 + i) 3 = 0 := by rw [(h0'.2.2.2.2.2.2.2.2.2.2.1 (4 + i) (by omega)).1]; exact (opO_some (by decide) (mtO_some e).1).2.2
    have hv := h0'.2.2.2.2.2.2.2.2.2.2.2 i hi hp
    have hk : C.1 26 i 1 = 1 := hv.1.trans ((mtO_some e).2.resolve_left (by decide))
    have hac := rl_ac h0' hN hi hp y 3
    have hTa := rT_ac hT i y 3
    rw [Option.elim_some, Option.elim_some]
    by_cases q : (mcP M i y 3).1 = 0
    · obtain ⟨S1, eC, c1, hs⟩ := hC.1 (hac.1.trans q)
      obtain ⟨m1, m4, m2, hM⟩ := hM.1 q
      have hpD : ¬ (acP C i y 3).2.1 22 (4 + i) 3 = 0 := by rw [((acP_same C i y 3) 22 (4 + i) (fun hh => by (try simp [scX, hsX, bX, seX, obX, vaX] at hh) <;> omega)).1 3]; exact hp
      obtain ⟨au, po, n, hn, z1, z2, z3⟩ := (hac.2.2.2.2.2.2.2.2.2.2.2.1 (4 + i) (by omega)).2 hpD
      have hvD := hac.2.2.2.2.2.2.2.2.2.2.2.2 i hi hpD
      have hkD := ((acP_same C i y 3) 26 i (fun hh => by (try simp [scX, hsX, bX, seX, obX, vaX] at hh) <;> omega)).1 1
      have hn64 : n ≤ 64 := by rw [mLn_w] at hn; exact hn
      have hkD := hkD.trans hk
      have hn8 : n = 8 := (nI_eq (by omega) (by decide)).mp (z1.symm.trans (hvD.2.2.2.1 hkD).1)
      have hg := hac.2.2.2.2.2.2.2.1.2.2.2.1
      have hcn : coN (acP C i y 3).2 i = mcN (mcP M i y 3).2 i := by
        unfold coN mcN
        rw [hvD.2.1, hg]
        by_cases w : (mcP M i y 3).2.1 36 0 (4 + i) = 0
        · rw [if_pos w, if_pos w]
        · rw [if_neg w, if_neg w, (hvD.2.2.2.1 hkD).2 (by rw [hvD.2.1]; exact w)]
      rw [if_pos q, if_pos (hac.1.trans q), hcn]
      rw [hcn] at eC c1 hs
      have sC : mSame (fun k i' => bX (3 + (4 + i)) k i' ∨ (k = 26 ∧ i' = i) ∨ (k = 0 ∧ i' = 0)) (acP C i y 3).2 C' := by
        rw [eC]
        exact (((mSame.J (X := fun k i' => bX (3 + (4 + i)) k i' ∨ (k = 26 ∧ i' = i) ∨ (k = 0 ∧ i' = 0)) (Or.inr (Or.inl ⟨rfl, rfl⟩))).tr (mSame.M (X := fun k i' => bX (3 + (4 + i)) k i' ∨ (k = 26 ∧ i' = i) ∨ (k = 0 ∧ i' = 0)) (Or.inr (Or.inl ⟨rfl, rfl⟩)))).tr (hs.wk (X' := fun k i' => bX (3 + (4 + i)) k i' ∨ (k = 26 ∧ i' = i) ∨ (k = 0 ∧ i' = 0)) (fun _ _ h => Or.inl h))).tr (mSame.J (X := fun k i' => bX (3 + (4 + i)) k i' ∨ (k = 26 ∧ i' = i) ∨ (k = 0 ∧ i' = 0)) (Or.inr (Or.inr ⟨rfl, rfl⟩)))
      have f26 : ∀ j, ¬ j = 2 → C'.1 26 i j = (acP C i y 3).2.1 26 i j := fun j hj => by
        rw [eC]
        refine Eq.trans ((hs 26 i (fun hh => by (try simp [scX, hsX, bX, seX, obX, vaX] at hh) <;> omega)).1 j) ?_
        simp [mM, mJ, m3, hj]
      have w26 : C'.1 26 i 2 = 1 := by rw [eC]; exact ((hs 26 i (fun hh => by (try simp [scX, hsX, bX, seX, obX, vaX] at hh) <;> omega)).1 2).trans (by simp [mM, m3])
      have n26 : C'.2.2 26 i 4 = mcN (mcP M i y 3).2 i := by
        rw [eC]
        refine Eq.trans (show (mJ S1 0 0 12 _).2.2 26 i 4 = S1.2.2 26 i 4 by simp [mJ, m3]) (((hs 26 i (fun hh => by (try simp [scX, hsX, bX, seX, obX, vaX] at hh) <;> omega)).2.2 4).trans (by simp [mM, mJ, m3]))
      have f0 : ∀ j, C'.1 0 0 j = (acP C i y 3).2.1 0 0 j := fun j => by
        rw [eC]
        exact ((hs 0 0 (fun hh => by (try simp [scX, hsX, bX, seX, obX, vaX] at hh) <;> omega)).1 j).trans (by simp [mM, mJ, m3])
      have sz8 : C'.1 2 (3 + (4 + i)) 1 = nI 8 := by rw [eC]; exact c1.1
      have d3 : ∀ j, j < 8 → C'.2.1 3 (3 + (4 + i)) j = M'.2.1 33 0 (128 * (4 + i) + j) := fun j hj => by
        rw [eC]
        exact (c1.2.2 j hj).trans ((w8_by8 _ hj).trans (m1 j hj).symm)
      obtain ⟨r1, r2, r3, r4, r5, r6, r7, r8, r9, r10, r11, r12⟩ := hac.2
      exact ⟨rfl, hTa.kp sC hM ⟨(fun hh => by (try simp [scX, hsX, bX, seX, obX, vaX] at hh) <;> omega), (fun hh => by (try simp [scX, hsX, bX, seX, obX, vaX] at hh) <;> omega)⟩ ⟨(fun hh => by (try simp [scM, nX, hX, seM, rsX, dfX, ldX] at hh) <;> omega), fun j => (fun hh => by (try simp [scM, nX, hX, seM, rsX, dfX, ldX] at hh) <;> omega)⟩, ⟨r1.kp sC hM ⟨(fun hh => by (try simp [scX, hsX, bX, seX, obX, vaX] at hh) <;> omega), (fun hh => by (try simp [scX, hsX, bX, seX, obX, vaX] at hh) <;> omega)⟩ ⟨(fun hh => by (try simp [scM, nX, hX, seM, rsX, dfX, ldX] at hh) <;> omega), fun j => (fun hh => by (try simp [scM, nX, hX, seM, rsX, dfX, ldX] at hh) <;> omega)⟩,
          r2.kp sC hM (fun hh => by (try simp [scX, hsX, bX, seX, obX, vaX] at hh) <;> omega) (fun j => (fun hh => by (try simp [scM, nX, hX, seM, rsX, dfX, ldX] at hh) <;> omega)),
          r3.kp sC hM (fun hh => by (try simp [scX, hsX, bX, seX, obX, vaX] at hh) <;> omega) (fun j => (fun hh => by (try simp [scM, nX, hX, seM, rsX, dfX, ldX] at hh) <;> omega)),
          r4.kp sC hM (fun hh => by (try simp [scX, hsX, bX, seX, obX, vaX] at hh) <;> omega) (fun j => (fun hh => by (try simp [scM, nX, hX, seM, rsX, dfX, ldX] at hh) <;> omega)),
          r5.kp sC (fun hh => by (try simp [scX, hsX, bX, seX, obX, vaX] at hh) <;> omega),
          r6.kp sC hM (fun hh => by (try simp [scX, hsX, bX, seX, obX, vaX] at hh) <;> omega) (fun j => (fun hh => by (try simp [scM, nX, hX, seM, rsX, dfX, ldX] at hh) <;> omega)),
          ⟨(f0 13).trans (r7.1.trans (hM 0 16 (fun hh => by (try simp [scM, nX, hX, seM, rsX, dfX, ldX] at hh) <;> omega)).1.symm), (f0 14).trans (r7.2.1.trans (hM 0 17 (fun hh => by (try simp [scM, nX, hX, seM, rsX, dfX, ldX] at hh) <;> omega)).1.symm), (f0 15).trans (r7.2.2.1.trans (hM 0 18 (fun hh => by (try simp [scM, nX, hX, seM, rsX, dfX, ldX] at hh) <;> omega)).1.symm), by
            rw [eC, m4, ← hg]
            exact Eq.trans (m3_s S1.2.2 0 0 12 _) (gr_eq ((acP C i y 3).2.2.2 0 0 12) (mcN (mcP M i y 3).2 i)), by
            obtain ⟨c, hc, ec⟩ := r7.2.2.2.2.1
            exact ⟨c, hc, (f0 13).trans ec⟩, by
            obtain ⟨f, hf, ef⟩ := r7.2.2.2.2.2
            exact ⟨f, hf, (f0 15).trans ef⟩⟩,
          r8.kp sC hM (fun hh => by (try simp [scX, hsX, bX, seX, obX, vaX] at hh) <;> omega) (fun hh => by (try simp [scM, nX, hX, seM, rsX, dfX, ldX] at hh) <;> omega),
          (r9.kp sC (fun hh => by (try simp [scX, hsX, bX, seX, obX, vaX] at hh) <;> omega)),
          fun i hi => ((r10 i hi).kp sC hM ⟨(fun hh => by (try simp [scX, hsX, bX, seX, obX, vaX] at hh) <;> omega), (fun hh => by (try simp [scX, hsX, bX, seX, obX, vaX] at hh) <;> omega), (fun hh => by (try simp [scX, hsX, bX, seX, obX, vaX] at hh) <;> omega)⟩ (fun k j h hh => by simp only [seM, thM, vaM, scM, nX, hX, rsX, dfX, ldX] at h hh; omega)),
          fun t ht => by
            by_cases e' : t = 4 + i
            · subst e'
              exact ⟨((sC 22 _ (fun hh => by (try simp [scX, hsX, bX, seX, obX, vaX] at hh) <;> omega)).1 3).trans ((r11 _ ht).1.trans (hM 30 _ (fun hh => by (try simp [scM, nX, hX, seM, rsX, dfX, ldX] at hh) <;> omega)).1.symm), fun _ => ⟨fun j hj => ((sC 23 _ (fun hh => by (try simp [scX, hsX, bX, seX, obX, vaX] at hh) <;> omega)).2.1 j).trans ((au j hj).trans (hM 31 _ (fun hh => by (try simp [scM, nX, hX, seM, rsX, dfX, ldX] at hh) <;> omega)).2.1.symm), fun j hj => ((sC 24 _ (fun hh => by (try simp [scX, hsX, bX, seX, obX, vaX] at hh) <;> omega)).2.1 j).trans ((po j hj).trans (hM 32 _ (fun hh => by (try simp [scM, nX, hX, seM, rsX, dfX, ldX] at hh) <;> omega)).2.1.symm), 8, by rw [mLn_w]; decide, sz8, (hM 34 _ (fun hh => by (try simp [scM, nX, hX, seM, rsX, dfX, ldX] at hh) <;> omega)).1.trans (by rw [z2, hn8]), d3⟩⟩
            · exact (r11 t ht).kp sC hM ⟨(fun hh => by (try simp [scX, hsX, bX, seX, obX, vaX] at hh) <;> omega), (fun hh => by (try simp [scX, hsX, bX, seX, obX, vaX] at hh) <;> omega), (fun hh => by (try simp [scX, hsX, bX, seX, obX, vaX] at hh) <;> omega), (fun hh => by (try simp [scX, hsX, bX, seX, obX, vaX] at hh) <;> omega), (fun hh => by (try simp [scX, hsX, bX, seX, obX, vaX] at hh) <;> omega)⟩ (fun k j h hh => by simp only [seM, thM, vaM, scM, nX, hX, rsX, dfX, ldX] at h hh; omega),
          fun v hv8 => by
            by_cases e' : v = i
            · subst e'
              exact fun _ => ⟨(f26 1 (by decide)).trans (hvD.1.trans (hM 35 _ (fun hh => by (try simp [scM, nX, hX, seM, rsX, dfX, ldX] at hh) <;> omega)).1.symm), w26.trans m2.symm, (f26 3 (by decide)).trans (hvD.2.2.1.trans (hM 37 _ (fun hh => by (try simp [scM, nX, hX, seM, rsX, dfX, ldX] at hh) <;> omega)).1.symm), fun _ => ⟨sz8, fun _ => by rw [n26, lx8_cg (g := by8 (mcN (mcP M v y 3).2 v)) 8 (fun j hj => m1 j hj)]; exact lx8_by8 _⟩, fun z => absurd ((hkD.symm.trans (f26 1 (by decide)).symm).trans z) (by decide)⟩
            · exact (r12 v hv8).kp sC hM ⟨(fun hh => by (try simp [scX, hsX, bX, seX, obX, vaX] at hh) <;> omega), (fun hh => by (try simp [scX, hsX, bX, seX, obX, vaX] at hh) <;> omega), (fun hh => by (try simp [scX, hsX, bX, seX, obX, vaX] at hh) <;> omega)⟩ (fun k j h hh => by simp only [seM, thM, vaM, scM, nX, hX, rsX, dfX, ldX] at h hh; omega)⟩⟩
    · have q' : ¬ (acP C i y 3).1 = 0 := fun z => q (hac.1.symm.trans z)
      rw [if_neg q, if_neg q', hC.2 q', hM.2 q]
      exact ⟨hac.1, hTa, hac.2⟩

set_option maxHeartbeats 4000000 in
set_option maxRecDepth 100000 in
theorem rl_write {N : Nat} {C M C' M' : mSt} (x y z : Int32) (ts : List Int8) (htC : bHas C 0 ts) (htM : nHas 1 400 M ts) (h0 : Rel0 N C M) (hN : N ≤ 1000) (hC : bHas C' 0 [] ∧ (voO C x 0 = none → C' = mM C 2 0 1 0) ∧ ∀ i, voO C x 0 = some i → ∃ S1, C' = mM S1 2 0 1 0 ∧ ((¬ y < 0 ∧ ¬ C.1 2 (3 + (4 + i)) 1 < y ∧ nI ts.length ≤ C.1 2 (3 + (4 + i)) 1 - y) → S1 = if (acP C i z 2).1 = 0 then wtS (acP C i z 2).2 i y ts.length else (acP C i z 2).2) ∧ (¬ (¬ y < 0 ∧ ¬ C.1 2 (3 + (4 + i)) 1 < y ∧ nI ts.length ≤ C.1 2 (3 + (4 + i)) 1 - y) → S1 = C)) (hM : (mtO (mM M 0 0 1 0) x 0 = none → M' = (mM M 0 0 1 0)) ∧ ∀ i, mtO (mM M 0 0 1 0) x 0 = some i → ((¬ y < 0 ∧ y ≤ (mM M 0 0 1 0).1 34 0 (4 + i) - nI ts.length) → ((mcP (mM M 0 0 1 0) i z 2).1 = 0 → ∀ a, a < 2147483648 ∧ y = nI a → (∀ q, q < ts.length → M'.2.1 33 0 (128 * (4 + i) + a + q) = ts.getD q 0) ∧ M'.1 36 0 (4 + i) = 1 ∧ nSame (fun k j => (k = 33 ∧ 128 * (4 + i) + a ≤ j ∧ j < 128 * (4 + i) + a + ts.length) ∨ (k = 36 ∧ j = 4 + i)) (mcP (mM M 0 0 1 0) i z 2).2 M') ∧ (¬ (mcP (mM M 0 0 1 0) i z 2).1 = 0 → M' = (mcP (mM M 0 0 1 0) i z 2).2)) ∧ (¬ (¬ y < 0 ∧ y ≤ (mM M 0 0 1 0).1 34 0 (4 + i) - nI ts.length) → M' = (mM M 0 0 1 0))) : (((voO C x 0).elim (-2) (fun i => if (¬ y < 0 ∧ ¬ C.1 2 (3 + (4 + i)) 1 < y ∧ nI ts.length ≤ C.1 2 (3 + (4 + i)) 1 - y) then (acP C i z 2).1 else -1)) : Int32) = ((mtO (mM M 0 0 1 0) x 0).elim (-2) (fun i => if (¬ y < 0 ∧ y ≤ (mM M 0 0 1 0).1 34 0 (4 + i) - nI ts.length) then (mcP (mM M 0 0 1 0) i z 2).1 else -1)) ∧ Rel (N + 1) C' M' := by
  have h0' := h0.cutM
  have hlen := htM.2.1
  rw [voO_eq h0' x (by decide)] at hC ⊢
  obtain ⟨t1, hCn, hCy⟩ := hC
  cases e : mtO (mM M 0 0 1 0) x 0 with
  | none =>
    rw [hM.1 e, hCn e, Option.elim_none, Option.elim_none]
    exact ⟨rfl, ⟨_, bnil_T, nil_T⟩, h0'.cutC.mono (Nat.le_succ _)⟩
  | some i =>
    obtain ⟨S1, eC, hy, hn⟩ := hCy i e
    have hM := hM.2 i e
    have hi := mtO_lt e
    have hp : ¬ C.1 22 (4 + i) 3 = 0 := by rw [(h0'.2.2.2.2.2.2.2.2.2.2.1 (4 + i) (by omega)).1]; exact (opO_some (by decide) (mtO_some e).1).2.2
    have hv := h0'.2.2.2.2.2.2.2.2.2.2.2 i hi hp
    have hk : C.1 26 i 1 = 0 := hv.1.trans ((mtO_some e).2.resolve_left (by decide))
    obtain ⟨-, -, n0, hn0, y1, y2, -⟩ := (h0'.2.2.2.2.2.2.2.2.2.2.1 (4 + i) (by omega)).2 hp
    rw [mLn_w] at hn0
    have hac := rl_ac h0' hN hi hp z 2
    rw [Option.elim_some, Option.elim_some]
    rw [y1] at hy hn ⊢
    rw [y2] at hM ⊢
    have hw := w_iff (y := y) (n := n0) (L := ts.length) hn0 hlen
    by_cases qo : ¬ y < 0 ∧ y ≤ nI n0 - nI ts.length
    · rw [if_pos (hw.mpr qo), if_pos qo]
      refine ⟨hac.1, ?_⟩
      have eS := hy (hw.mpr qo)
      have hM := hM.1 qo
      by_cases q : (mcP (mM M 0 0 1 0) i z 2).1 = 0
      · rw [if_pos (hac.1.trans q)] at eS
        obtain ⟨a, ya, had⟩ := sub_le (by omega) (by omega) qo.1 qo.2
        have ac : y.toNatClampNeg = a := by rw [ya]; exact nI_clamp (by omega)
        obtain ⟨m1, m2, hM⟩ := hM.1 q a ⟨by omega, ya⟩
        unfold wtS at eS
        rw [ac] at eS
        have hpD : ¬ (acP C i z 2).2.1 22 (4 + i) 3 = 0 := by rw [((acP_same C i z 2) 22 (4 + i) (fun hh => by (try simp [scX, hsX, bX, seX, obX, vaX] at hh) <;> omega)).1 3]; exact hp
        obtain ⟨au, po, n, hn, z1, z2, z3⟩ := (hac.2.2.2.2.2.2.2.2.2.2.2.1 (4 + i) (by omega)).2 hpD
        have hvD := hac.2.2.2.2.2.2.2.2.2.2.2.2 i hi hpD
        have hkD := ((acP_same C i z 2) 26 i (fun hh => by (try simp [scX, hsX, bX, seX, obX, vaX] at hh) <;> omega)).1 1
        have hn64 : n ≤ 64 := by rw [mLn_w] at hn; exact hn
        have hnn : n = n0 := (nI_eq (by omega) (by omega)).mp (z1.symm.trans (((acP_same C i z 2 2 _ (fun hh => by (try simp [scX, hsX, bX, seX, obX, vaX] at hh) <;> omega)).1 1).trans y1))
        have sC : mSame (fun k i' => (k = 3 ∧ i' = 3 + (4 + i)) ∨ (k = 26 ∧ i' = i) ∨ (k = 2 ∧ i' = 0)) (acP C i z 2).2 C' := by
          rw [eC, eS]
          exact ((mSame.AB (X := fun k i' => (k = 3 ∧ i' = 3 + (4 + i)) ∨ (k = 26 ∧ i' = i) ∨ (k = 2 ∧ i' = 0)) (Or.inl ⟨rfl, rfl⟩)).tr (mSame.M (X := fun k i' => (k = 3 ∧ i' = 3 + (4 + i)) ∨ (k = 26 ∧ i' = i) ∨ (k = 2 ∧ i' = 0)) (Or.inr (Or.inl ⟨rfl, rfl⟩)))).tr (mSame.M (X := fun k i' => (k = 3 ∧ i' = 3 + (4 + i)) ∨ (k = 26 ∧ i' = i) ∨ (k = 2 ∧ i' = 0)) (Or.inr (Or.inr ⟨rfl, rfl⟩)))
        have f26 : ∀ j, ¬ j = 2 → C'.1 26 i j = (acP C i z 2).2.1 26 i j := fun j hj => by
          rw [eC, eS]
          simp [mM, mAB, m3, hj]
        have w26 : C'.1 26 i 2 = 1 := by rw [eC, eS]; simp [mM, m3]
        have d3 : ∀ j, j < n → C'.2.1 3 (3 + (4 + i)) j = M'.2.1 33 0 (128 * (4 + i) + j) := fun j hj => by
          have g : C'.2.1 3 (3 + (4 + i)) j = va_cpy ((acP C i z 2).2.2.1 3 0) ((acP C i z 2).2.2.1 3 (3 + (4 + i))) 0 a ts.length j := by
            rw [eC, eS]
            simp [mM, mAB, mA]
          rw [g]
          unfold va_cpy
          by_cases w : a ≤ j ∧ j < a + ts.length
          · rw [if_pos w, Nat.zero_add]
            have m := m1 (j - a) (by omega)
            rw [show 128 * (4 + i) + a + (j - a) = 128 * (4 + i) + j by omega] at m
            exact ((acP_same C i z 2 3 0 (fun hh => by (try simp [scX, hsX, bX, seX, obX, vaX] at hh) <;> omega)).2.1 _).trans ((htC.2.2 _ (by omega)).trans m.symm)
          · rw [if_neg w]
            exact (z3 j hj).trans (hM 33 _ (fun hh => by simp only [] at hh; omega)).2.1.symm
        have t2 : nHas 1 400 M' [] := nHas.nil' ((hM 0 1 (fun hh => by (try simp [scM, nX, hX, seM, rsX, dfX, ldX] at hh) <;> omega)).1.trans nil_mc.1)
        obtain ⟨r1, r2, r3, r4, r5, r6, r7, r8, r9, r10, r11, r12⟩ := hac.2
        exact ⟨⟨_, t1, t2⟩, ⟨r1.kp sC hM ⟨(fun hh => by (try simp [scX, hsX, bX, seX, obX, vaX] at hh) <;> omega), (fun hh => by (try simp [scX, hsX, bX, seX, obX, vaX] at hh) <;> omega)⟩ ⟨(fun hh => by (try simp [scM, nX, hX, seM, rsX, dfX, ldX] at hh) <;> omega), fun j => (fun hh => by (try simp [scM, nX, hX, seM, rsX, dfX, ldX] at hh) <;> omega)⟩,
            r2.kp sC hM (fun hh => by (try simp [scX, hsX, bX, seX, obX, vaX] at hh) <;> omega) (fun j => (fun hh => by (try simp [scM, nX, hX, seM, rsX, dfX, ldX] at hh) <;> omega)),
            r3.kp sC hM (fun hh => by (try simp [scX, hsX, bX, seX, obX, vaX] at hh) <;> omega) (fun j => (fun hh => by (try simp [scM, nX, hX, seM, rsX, dfX, ldX] at hh) <;> omega)),
            r4.kp sC hM (fun hh => by (try simp [scX, hsX, bX, seX, obX, vaX] at hh) <;> omega) (fun j => (fun hh => by (try simp [scM, nX, hX, seM, rsX, dfX, ldX] at hh) <;> omega)),
            r5.kp sC (fun hh => by (try simp [scX, hsX, bX, seX, obX, vaX] at hh) <;> omega),
            r6.kp sC hM (fun hh => by (try simp [scX, hsX, bX, seX, obX, vaX] at hh) <;> omega) (fun j => (fun hh => by (try simp [scM, nX, hX, seM, rsX, dfX, ldX] at hh) <;> omega)),
            (r7.kp sC hM (fun hh => by (try simp [scX, hsX, bX, seX, obX, vaX] at hh) <;> omega) ⟨(fun hh => by (try simp [scM, nX, hX, seM, rsX, dfX, ldX] at hh) <;> omega), (fun hh => by (try simp [scM, nX, hX, seM, rsX, dfX, ldX] at hh) <;> omega), (fun hh => by (try simp [scM, nX, hX, seM, rsX, dfX, ldX] at hh) <;> omega), (fun hh => by (try simp [scM, nX, hX, seM, rsX, dfX, ldX] at hh) <;> omega)⟩),
            r8.kp sC hM (fun hh => by (try simp [scX, hsX, bX, seX, obX, vaX] at hh) <;> omega) (fun hh => by (try simp [scM, nX, hX, seM, rsX, dfX, ldX] at hh) <;> omega),
            (r9.kp sC (fun hh => by (try simp [scX, hsX, bX, seX, obX, vaX] at hh) <;> omega)),
            fun i hi => ((r10 i hi).kp sC hM ⟨(fun hh => by (try simp [scX, hsX, bX, seX, obX, vaX] at hh) <;> omega), (fun hh => by (try simp [scX, hsX, bX, seX, obX, vaX] at hh) <;> omega), (fun hh => by (try simp [scX, hsX, bX, seX, obX, vaX] at hh) <;> omega)⟩ (fun k j h hh => by simp only [seM, thM, vaM, scM, nX, hX, rsX, dfX, ldX] at h hh; omega)),
            fun t ht => by
              by_cases e' : t = 4 + i
              · subst e'
                exact ⟨((sC 22 _ (fun hh => by (try simp [scX, hsX, bX, seX, obX, vaX] at hh) <;> omega)).1 3).trans ((r11 _ ht).1.trans (hM 30 _ (fun hh => by (try simp [scM, nX, hX, seM, rsX, dfX, ldX] at hh) <;> omega)).1.symm), fun _ => ⟨fun j hj => ((sC 23 _ (fun hh => by (try simp [scX, hsX, bX, seX, obX, vaX] at hh) <;> omega)).2.1 j).trans ((au j hj).trans (hM 31 _ (fun hh => by (try simp [scM, nX, hX, seM, rsX, dfX, ldX] at hh) <;> omega)).2.1.symm), fun j hj => ((sC 24 _ (fun hh => by (try simp [scX, hsX, bX, seX, obX, vaX] at hh) <;> omega)).2.1 j).trans ((po j hj).trans (hM 32 _ (fun hh => by (try simp [scM, nX, hX, seM, rsX, dfX, ldX] at hh) <;> omega)).2.1.symm), n, hn, ((sC 2 _ (fun hh => by (try simp [scX, hsX, bX, seX, obX, vaX] at hh) <;> omega)).1 1).trans z1, (hM 34 _ (fun hh => by (try simp [scM, nX, hX, seM, rsX, dfX, ldX] at hh) <;> omega)).1.trans z2, d3⟩⟩
              · exact (r11 t ht).kp sC hM ⟨(fun hh => by (try simp [scX, hsX, bX, seX, obX, vaX] at hh) <;> omega), (fun hh => by (try simp [scX, hsX, bX, seX, obX, vaX] at hh) <;> omega), (fun hh => by (try simp [scX, hsX, bX, seX, obX, vaX] at hh) <;> omega), (fun hh => by (try simp [scX, hsX, bX, seX, obX, vaX] at hh) <;> omega), (fun hh => by (try simp [scX, hsX, bX, seX, obX, vaX] at hh) <;> omega)⟩ (fun k j h hh => by simp only [seM, thM, vaM, scM, nX, hX, rsX, dfX, ldX] at h hh; omega),
            fun v hv8 => by
              by_cases e' : v = i
              · subst e'
                exact fun _ => ⟨(f26 1 (by decide)).trans (hvD.1.trans (hM 35 _ (fun hh => by (try simp [scM, nX, hX, seM, rsX, dfX, ldX] at hh) <;> omega)).1.symm), w26.trans m2.symm, (f26 3 (by decide)).trans (hvD.2.2.1.trans (hM 37 _ (fun hh => by (try simp [scM, nX, hX, seM, rsX, dfX, ldX] at hh) <;> omega)).1.symm), fun z => absurd (((hkD.trans hk).symm.trans (f26 1 (by decide)).symm).trans z) (by decide), fun z => absurd (((hkD.trans hk).symm.trans (f26 1 (by decide)).symm).trans z) (by decide)⟩
              · exact (r12 v hv8).kp sC hM ⟨(fun hh => by (try simp [scX, hsX, bX, seX, obX, vaX] at hh) <;> omega), (fun hh => by (try simp [scX, hsX, bX, seX, obX, vaX] at hh) <;> omega), (fun hh => by (try simp [scX, hsX, bX, seX, obX, vaX] at hh) <;> omega)⟩ (fun k j h hh => by simp only [seM, thM, vaM, scM, nX, hX, rsX, dfX, ldX] at h hh; omega)⟩⟩
      · rw [if_neg (fun z => q (hac.1.symm.trans z))] at eS
        rw [eS] at eC
        rw [hM.2 q, eC]
        exact ⟨⟨_, bnil_T, nil_mc⟩, hac.2.cutC⟩
    · have eS := hn (fun q => qo (hw.mp q))
      rw [eS] at eC
      rw [if_neg (fun q => qo (hw.mp q)), if_neg qo, hM.2 qo, eC]
      exact ⟨rfl, ⟨_, bnil_T, nil_T⟩, h0'.cutC.mono (Nat.le_succ _)⟩

set_option maxHeartbeats 4000000 in
set_option maxRecDepth 100000 in
theorem rl_define {N : Nat} {C M C' M' : mSt} (x kd sz z : Int32) (ts : List Int8) (h0 : Rel0 N C M) (hN : N ≤ 1000) (hC : ∃ Sa, bHas Sa 0 [] ∧ mSame (fun k i => scX k i ∨ bX 0 k i) C Sa ∧ (∀ k0 i0, poO C z = some (k0, i0) → (¬ x < 0 ∧ ¬ nI 8 ≤ x ∧ (kd = 1 ∨ kd = 2 ∨ (kd = 0 ∧ ¬ sz < 1 ∧ ¬ 64 < sz))) → ∀ i, i < 8 → x = nI i → C.1 22 (4 + i) 3 = 0 → ((akR C (C.2.1 12 0)) = 0 → ((∀ j, j < 32 → C'.2.1 23 (4 + i) j = shaL ts j) ∧ (∀ j, j < 32 → C'.2.1 24 (4 + i) j = C.2.1 k0 i0 j) ∧ (∀ q, q < 64 → C'.2.1 3 (3 + (4 + i)) q = (0 : Int32).toInt8) ∧ C'.1 2 (3 + (4 + i)) 1 = (if kd = 0 then sz else if kd = 1 then 8 else 32) ∧ C'.1 22 (4 + i) 3 = 1 ∧ C'.1 26 i 1 = kd ∧ C'.1 26 i 2 = 0 ∧ C'.1 26 i 3 = 0 ∧ C'.2.2 26 i 4 = 0 ∧ mSame (fun k i' => vaX i k i' ∨ ((k = 23 ∨ k = 24) ∧ i' = 4 + i)) Sa C')) ∧ (¬ (akR C (C.2.1 12 0)) = 0 → C' = akS Sa (Sa.2.1 12 0))) ∧ (∀ k0 i0, poO C z = some (k0, i0) → (¬ x < 0 ∧ ¬ nI 8 ≤ x ∧ (kd = 1 ∨ kd = 2 ∨ (kd = 0 ∧ ¬ sz < 1 ∧ ¬ 64 < sz))) → ∀ i, i < 8 → x = nI i → ¬ C.1 22 (4 + i) 3 = 0 → C' = Sa) ∧ (poO C z = none → C' = Sa) ∧ (¬ (¬ x < 0 ∧ ¬ nI 8 ≤ x ∧ (kd = 1 ∨ kd = 2 ∨ (kd = 0 ∧ ¬ sz < 1 ∧ ¬ 64 < sz))) → C' = Sa)) (hM : (¬ dfOk (mM M 0 0 1 0) x kd sz z → M' = (mM M 0 0 1 0)) ∧ (dfOk (mM M 0 0 1 0) x kd sz z → ∀ i, i < 8 → x = nI i → (¬ (mM M 0 0 1 0).1 30 0 (4 + i) = 0 → M' = (mM M 0 0 1 0)) ∧ ((mM M 0 0 1 0).1 30 0 (4 + i) = 0 → ((mkR (mM M 0 0 1 0) (M.2.1 15 0) 0) = 0 → (∀ j, j < 32 → M'.2.1 31 0 (32 * (4 + i) + j) = shaL ts j) ∧ (∀ j, j < 32 → M'.2.1 32 0 (32 * (4 + i) + j) = mpF M z j) ∧ M'.1 30 0 (4 + i) = 1 ∧ M'.1 35 0 (4 + i) = kd ∧ M'.1 34 0 (4 + i) = (if kd = 0 then sz else if kd = 1 then 8 else 32) ∧ M'.1 36 0 (4 + i) = 0 ∧ M'.1 37 0 (4 + i) = 0 ∧ (∀ q, q < 128 → M'.2.1 33 0 (128 * (4 + i) + q) = (0 : Int32).toInt8) ∧ nSame (dfX i) (mM M 0 0 1 0) M') ∧ (¬ (mkR (mM M 0 0 1 0) (M.2.1 15 0) 0) = 0 → M' = mkS (mM M 0 0 1 0) (M.2.1 15 0) 0)))) : (((poO C z).elim (-1) (fun _ => if (¬ x < 0 ∧ ¬ nI 8 ≤ x ∧ (kd = 1 ∨ kd = 2 ∨ (kd = 0 ∧ ¬ sz < 1 ∧ ¬ 64 < sz))) then (if C.1 22 (4 + x.toNatClampNeg) 3 = 0 then (akR C (C.2.1 12 0)) else -2) else -1)) : Int32) = (if dfOk (mM M 0 0 1 0) x kd sz z then (if (mM M 0 0 1 0).1 30 0 (4 + x.toNatClampNeg) = 0 then (mkR (mM M 0 0 1 0) (M.2.1 15 0) 0) else -2) else -1) ∧ Rel (N + 1) C' M' := by
  have hT0 := h0.cutM
  obtain ⟨Sa, t1, hs, hCy, hCp, hCn, hCb⟩ := hC
  have hSa : Rel0 N Sa (mM M 0 0 1 0) := hT0.kp hs (nSame.rf (X := fun _ _ => False)) (fun k i h hh => by simp only [reC, scX, hsX, bX, seX, obX, vaX] at h hh; omega) (fun _ _ _ h => h)
  have hak := rl_ak hT0 (f := C.2.1 12 0) (g := M.2.1 15 0) (a := 0) (fun j hj => by rw [Nat.zero_add]; exact hT0.2.2.1 j hj)
  have hak2 := rl_ak hSa (f := Sa.2.1 12 0) (g := M.2.1 15 0) (a := 0) (fun j hj => by rw [Nat.zero_add]; exact hSa.2.2.1 j hj)
  cases e : poO C z with
  | none =>
    have hno := poO_no hT0 e
    have hd : ¬ dfOk (mM M 0 0 1 0) x kd sz z := fun q => hno q.2.2.2.2.1
    rw [hM.1 hd, hCn e, Option.elim_none, if_neg hd]
    exact ⟨rfl, ⟨_, t1, nil_T⟩, hSa.mono (Nat.le_succ _)⟩
  | some ki =>
    obtain ⟨k0, i0⟩ := ki
    obtain ⟨hok, hpf⟩ := poO_eq hT0 e
    rw [Option.elim_some]
    by_cases qo : (¬ x < 0 ∧ ¬ nI 8 ≤ x ∧ (kd = 1 ∨ kd = 2 ∨ (kd = 0 ∧ ¬ sz < 1 ∧ ¬ 64 < sz)))
    · have qd := df_iff.mp qo
      have hd : dfOk (mM M 0 0 1 0) x kd sz z := ⟨qd.1, qd.2.1, qd.2.2.1, qd.2.2.2.1, hok, qd.2.2.2.2⟩
      obtain ⟨i, hi, hxi⟩ := ix_of (n := 8) (by decide) qo.1 qo.2.1
      have ec : x.toNatClampNeg = i := by rw [hxi]; exact nI_clamp (by omega)
      rw [if_pos qo, if_pos hd, ec]
      have hM := hM.2 hd i hi hxi
      have h22 := (hT0.2.2.2.2.2.2.2.2.2.2.1 (4 + i) (by omega)).1
      have hy := hCy k0 i0 e qo i hi hxi
      have hpr := hCp k0 i0 e qo i hi hxi
      rw [h22] at hy hpr ⊢
      by_cases w : (mM M 0 0 1 0).1 30 0 (4 + i) = 0
      · have hy := hy w
        have hM := hM.2 w
        rw [if_pos w, if_pos w]
        refine ⟨hak.1, ?_⟩
        by_cases q : mkR (mM M 0 0 1 0) (M.2.1 15 0) 0 = 0
        · obtain ⟨c1, c2, c3, c4, c5, c6, c7, c8, c9, hC⟩ := hy.1 (hak.1.trans q)
          obtain ⟨m1, m2, m3', m4, m5, m6, m7, m8, hM⟩ := hM.1 q
          obtain ⟨n, hn, en⟩ := df_sz qo.2.2
          obtain ⟨r1, r2, r3, r4, r5, r6, r7, r8, r9, r10, r11, r12⟩ := hSa
          exact ⟨⟨_, t1.kp hC (fun hh => by (try simp [scX, hsX, bX, seX, obX, vaX] at hh) <;> omega) (fun hh => by (try simp [scX, hsX, bX, seX, obX, vaX] at hh) <;> omega), nil_of hM (fun hh => by (try simp [scM, nX, hX, seM, rsX, dfX, ldX] at hh) <;> omega)⟩, ⟨r1.kp hC hM ⟨(fun hh => by (try simp [scX, hsX, bX, seX, obX, vaX] at hh) <;> omega), (fun hh => by (try simp [scX, hsX, bX, seX, obX, vaX] at hh) <;> omega)⟩ ⟨(fun hh => by (try simp [scM, nX, hX, seM, rsX, dfX, ldX] at hh) <;> omega), fun j => (fun hh => by (try simp [scM, nX, hX, seM, rsX, dfX, ldX] at hh) <;> omega)⟩,
              r2.kp hC hM (fun hh => by (try simp [scX, hsX, bX, seX, obX, vaX] at hh) <;> omega) (fun j => (fun hh => by (try simp [scM, nX, hX, seM, rsX, dfX, ldX] at hh) <;> omega)),
              r3.kp hC hM (fun hh => by (try simp [scX, hsX, bX, seX, obX, vaX] at hh) <;> omega) (fun j => (fun hh => by (try simp [scM, nX, hX, seM, rsX, dfX, ldX] at hh) <;> omega)),
              r4.kp hC hM (fun hh => by (try simp [scX, hsX, bX, seX, obX, vaX] at hh) <;> omega) (fun j => (fun hh => by (try simp [scM, nX, hX, seM, rsX, dfX, ldX] at hh) <;> omega)),
              r5.kp hC (fun hh => by (try simp [scX, hsX, bX, seX, obX, vaX] at hh) <;> omega),
              r6.kp hC hM (fun hh => by (try simp [scX, hsX, bX, seX, obX, vaX] at hh) <;> omega) (fun j => (fun hh => by (try simp [scM, nX, hX, seM, rsX, dfX, ldX] at hh) <;> omega)),
              (r7.kp hC hM (fun hh => by (try simp [scX, hsX, bX, seX, obX, vaX] at hh) <;> omega) ⟨(fun hh => by (try simp [scM, nX, hX, seM, rsX, dfX, ldX] at hh) <;> omega), (fun hh => by (try simp [scM, nX, hX, seM, rsX, dfX, ldX] at hh) <;> omega), (fun hh => by (try simp [scM, nX, hX, seM, rsX, dfX, ldX] at hh) <;> omega), (fun hh => by (try simp [scM, nX, hX, seM, rsX, dfX, ldX] at hh) <;> omega)⟩).mono (Nat.le_succ _),
              r8.kp hC hM (fun hh => by (try simp [scX, hsX, bX, seX, obX, vaX] at hh) <;> omega) (fun hh => by (try simp [scM, nX, hX, seM, rsX, dfX, ldX] at hh) <;> omega),
              (r9.kp hC (fun hh => by (try simp [scX, hsX, bX, seX, obX, vaX] at hh) <;> omega)).mono (Nat.le_succ _),
              fun i hi => ((r10 i hi).kp hC hM ⟨(fun hh => by (try simp [scX, hsX, bX, seX, obX, vaX] at hh) <;> omega), (fun hh => by (try simp [scX, hsX, bX, seX, obX, vaX] at hh) <;> omega), (fun hh => by (try simp [scX, hsX, bX, seX, obX, vaX] at hh) <;> omega)⟩ (fun k j h hh => by simp only [seM, thM, vaM, scM, nX, hX, rsX, dfX, ldX] at h hh; omega)).mono (Nat.le_succ _),
              fun t ht => by
                by_cases e' : t = 4 + i
                · subst e'
                  exact ⟨c5.trans m3'.symm, fun _ => ⟨fun j hj => (c1 j hj).trans (m1 j hj).symm, fun j hj => (c2 j hj).trans ((hpf j hj).trans (m2 j hj).symm), n, by rw [mLn_w]; exact hn, c4.trans en, m5.trans en, fun j hj => (c3 j (by omega)).trans (m8 j (by omega)).symm⟩⟩
                · exact (r11 t ht).kp hC hM ⟨(fun hh => by (try simp [scX, hsX, bX, seX, obX, vaX] at hh) <;> omega), (fun hh => by (try simp [scX, hsX, bX, seX, obX, vaX] at hh) <;> omega), (fun hh => by (try simp [scX, hsX, bX, seX, obX, vaX] at hh) <;> omega), (fun hh => by (try simp [scX, hsX, bX, seX, obX, vaX] at hh) <;> omega), (fun hh => by (try simp [scX, hsX, bX, seX, obX, vaX] at hh) <;> omega)⟩ (fun k j h hh => by simp only [seM, thM, vaM, scM, nX, hX, rsX, dfX, ldX] at h hh; omega),
              fun v hv8 => by
                by_cases e' : v = i
                · subst e'
                  exact fun _ => ⟨c6.trans m4.symm, c7.trans m6.symm, c8.trans m7.symm, fun k => ⟨by have k1 : kd = 1 := c6.symm.trans k; rw [c4, k1]; rfl, fun q => absurd c7 q⟩, fun k => by have k1 : kd = 2 := c6.symm.trans k; rw [c4, k1]; rfl⟩
                · exact (r12 v hv8).kp hC hM ⟨(fun hh => by (try simp [scX, hsX, bX, seX, obX, vaX] at hh) <;> omega), (fun hh => by (try simp [scX, hsX, bX, seX, obX, vaX] at hh) <;> omega), (fun hh => by (try simp [scX, hsX, bX, seX, obX, vaX] at hh) <;> omega)⟩ (fun k j h hh => by simp only [seM, thM, vaM, scM, nX, hX, rsX, dfX, ldX] at h hh; omega)⟩⟩
        · rw [hy.2 (fun z => q (hak.1.symm.trans z)), hM.2 q]
          exact ⟨⟨_, t1.kp (akS_same Sa (Sa.2.1 12 0)) (fun hh => by (try simp [scX, hsX, bX, seX, obX, vaX] at hh) <;> omega) (fun hh => by (try simp [scX, hsX, bX, seX, obX, vaX] at hh) <;> omega), nil_of (mkS_same _ (M.2.1 15 0) 0) (fun hh => by (try simp [scM, nX, hX, seM, rsX, dfX, ldX] at hh) <;> omega)⟩, hak2.2⟩
      · rw [if_neg w, if_neg w, hM.1 w, hpr w]
        exact ⟨rfl, ⟨_, t1, nil_T⟩, hSa.mono (Nat.le_succ _)⟩
    · have hd : ¬ dfOk (mM M 0 0 1 0) x kd sz z := fun q => qo (df_iff.mpr ⟨q.1, q.2.1, q.2.2.1, q.2.2.2.1, q.2.2.2.2.2⟩)
      rw [if_neg qo, if_neg hd, hM.1 hd, hCb qo]
      exact ⟨rfl, ⟨_, t1, nil_T⟩, hSa.mono (Nat.le_succ _)⟩
