/-! ===== a byte read unsigned ===== -/
theorem bp_b (x : Int32) : x.toInt8.toInt32 &&& 255 = x &&& 255 := by
  apply Int32.toBitVec_inj.mp
  rw [Int32.toBitVec_and, Int32.toBitVec_and, Int8.toBitVec_toInt32, Int32.toBitVec_toInt8]
  apply BitVec.eq_of_getLsbD_eq
  intro i hi
  rw [BitVec.getLsbD_and, BitVec.getLsbD_and]
  have hm : ∀ i < 32, 8 ≤ i → (255 : Int32).toBitVec.getLsbD i = false := by decide
  rcases Nat.lt_or_ge i 8 with z | z
  · rw [BitVec.getLsbD_signExtend, BitVec.getLsbD_signExtend, if_pos z, if_pos hi]
    simp only [z, hi, decide_true, Bool.true_and]
  · rw [hm i hi z]; simp
/-! ===== lN n to 2^64: shifts, and, or, masks, one bit ===== -/
theorem wb_tb (n : Nat) : (lN n).toBitVec = BitVec.ofNat 64 n := rfl
theorem wb_inj {a b : Int64} (h : a.toBitVec = b.toBitVec) : a = b := Int64.toBitVec_inj.mp h
theorem wb_tn {n : Nat} (h : n < 2 ^ 64) : (lN n).toBitVec.toNat = n := by rw [wb_tb, BitVec.toNat_ofNat, Nat.mod_eq_of_lt h]
theorem wb_of (x : Int64) : ∃ n, n < 2 ^ 64 ∧ x = lN n := ⟨x.toBitVec.toNat, x.toBitVec.isLt, wb_inj (by rw [wb_tb]; simp)⟩
theorem wb_of32 (x : Int32) : ∃ n, n < 2 ^ 32 ∧ x = nI n := ⟨x.toBitVec.toNat, x.toBitVec.isLt, Int32.toBitVec_inj.mp (by show _ = BitVec.ofNat 32 _; simp)⟩
theorem wb_c : ∀ k, k < 64 → ((nI k).toInt64 &&& 63) = lN k := by decide +kernel
theorem wb_cu : ∀ k, k < 64 → ((nI k).toInt64.toUInt64 &&& Int64.toUInt64 63) = UInt64.ofNat k := by decide +kernel
theorem wb_sm : ∀ k, k < 64 → (BitVec.ofNat 64 k).smod 64 = BitVec.ofNat 64 k := by decide +kernel
theorem wb_pw {a b : Nat} (h : a ≤ b) : 2 ^ b = 2 ^ a * 2 ^ (b - a) := by rw [← Nat.pow_add]; congr 1; omega
theorem wb_lt2 {a b : Nat} (h : a < b) : 2 ^ a < 2 ^ b := Nat.pow_lt_pow_right (by decide) h
theorem wb_mod (n : Nat) : lN n = lN (n % 2 ^ 64) := wb_inj (by rw [wb_tb, wb_tb]; apply BitVec.eq_of_toNat_eq; rw [BitVec.toNat_ofNat, BitVec.toNat_ofNat, Nat.mod_mod])
theorem wb_shr {n k : Nat} (hn : n < 2 ^ 64) (hk : k < 64) : ((lN n).toUInt64 >>> ((nI k).toInt64.toUInt64 &&& Int64.toUInt64 63)).toInt64 = lN (n / 2 ^ k) := by
  rw [wb_cu k hk]
  apply wb_inj
  apply BitVec.eq_of_toNat_eq
  show ((lN n).toUInt64 >>> UInt64.ofNat k).toNat = (BitVec.ofNat 64 _).toNat
  have h1 : (UInt64.ofNat k).toNat = k := by
    show (BitVec.ofNat 64 k).toNat = k
    rw [BitVec.toNat_ofNat, Nat.mod_eq_of_lt (by omega)]
  have h2 : (lN n).toUInt64.toNat = n := wb_tn hn
  rw [UInt64.toNat_shiftRight, h1, h2, Nat.mod_eq_of_lt hk, Nat.shiftRight_eq_div_pow, BitVec.toNat_ofNat, Nat.mod_eq_of_lt (Nat.lt_of_le_of_lt (Nat.div_le_self _ _) hn)]
theorem wb_shl (n : Nat) {k : Nat} (hk : k < 64) : lN n <<< ((nI k).toInt64 &&& 63) = lN (n * 2 ^ k) := by
  rw [wb_c k hk]
  apply wb_inj
  rw [Int64.toBitVec_shiftLeft, wb_tb, wb_tb, wb_tb, wb_sm k hk]
  apply BitVec.eq_of_toNat_eq
  rw [BitVec.shiftLeft_eq', BitVec.toNat_shiftLeft, BitVec.toNat_ofNat, BitVec.toNat_ofNat, BitVec.toNat_ofNat, Nat.mod_eq_of_lt (show k < 2 ^ 64 by omega), Nat.shiftLeft_eq, Nat.mul_mod, Nat.mod_mod, ← Nat.mul_mod]
theorem wb_and {a b : Nat} (ha : a < 2 ^ 64) (hb : b < 2 ^ 64) : lN a &&& lN b = lN (a &&& b) := by
  apply wb_inj
  rw [Int64.toBitVec_and, wb_tb, wb_tb, wb_tb]
  apply BitVec.eq_of_toNat_eq
  rw [BitVec.toNat_and, BitVec.toNat_ofNat, BitVec.toNat_ofNat, BitVec.toNat_ofNat, Nat.mod_eq_of_lt ha, Nat.mod_eq_of_lt hb, Nat.mod_eq_of_lt (Nat.and_lt_two_pow _ hb)]
theorem wb_or {a b : Nat} (ha : a < 2 ^ 64) (hb : b < 2 ^ 64) : lN a ||| lN b = lN (a ||| b) := by
  apply wb_inj
  rw [Int64.toBitVec_or, wb_tb, wb_tb, wb_tb]
  apply BitVec.eq_of_toNat_eq
  rw [BitVec.toNat_or, BitVec.toNat_ofNat, BitVec.toNat_ofNat, BitVec.toNat_ofNat, Nat.mod_eq_of_lt ha, Nat.mod_eq_of_lt hb, Nat.mod_eq_of_lt (Nat.or_lt_two_pow ha hb)]
theorem wb_mask {n k : Nat} (hn : n < 2 ^ 64) (hk : k < 64) : lN n &&& lN (2 ^ k - 1) = lN (n % 2 ^ k) := by
  rw [wb_and hn (by have := wb_lt2 hk; omega), Nat.and_two_pow_sub_one_eq_mod]
theorem wb_a1 {n : Nat} (hn : n < 2 ^ 64) : lN n &&& 1 = lN (n % 2) := wb_mask (k := 1) hn (by decide)
/-! ===== lN to 2^62 under >> and >>> ===== -/
theorem pf_lI {a : Nat} (h : a < 2 ^ 63) : (lN a).toInt = (a : Int) := lg_ofNat_toInt h
theorem pf_shr {a d : Nat} {D : Int64} (hD : (D.toBitVec.smod 64).toNat = d) (h : a < 2 ^ 62) : lN a >>> D = lN (a / 2 ^ d) := by
  have hd : a / 2 ^ d ≤ a := Nat.div_le_self _ _
  apply Int64.toInt_inj.mp
  have e : (lN a >>> D).toInt = (lN a).toInt >>> d := by
    rw [← hD]
    exact BitVec.toInt_sshiftRight ..
  rw [e, Int.shiftRight_eq_div_pow, pf_lI (by omega), pf_lI (by omega)]
  rfl
theorem pf_ushr {a d : Nat} {D : UInt64} (hD : D.toNat % 64 = d) (h : a < 2 ^ 62) : ((lN a).toUInt64 >>> D).toInt64 = lN (a / 2 ^ d) := by
  have hd : a / 2 ^ d ≤ a := Nat.div_le_self _ _
  have e : (lN a).toUInt64 >>> D = UInt64.ofNat (a / 2 ^ d) := UInt64.toNat_inj.mp (by
    rw [UInt64.toNat_shiftRight, hD, Nat.shiftRight_eq_div_pow, UInt64.toNat_ofNat']
    show (UInt64.ofNat a).toNat / 2 ^ d = _
    rw [UInt64.toNat_ofNat', Nat.mod_eq_of_lt (by omega), Nat.mod_eq_of_lt (by omega)])
  rw [e]
  rfl
theorem pf_andw (x : Int64) : ∃ m, m < 2 ^ 32 ∧ x &&& 4294967295 = lN m := ⟨x.toBitVec.toNat % 2 ^ 32, Nat.mod_lt _ (by decide), Int64.toBitVec_inj.mp (BitVec.eq_of_toNat_eq (by
  show (x.toBitVec &&& 4294967295#64).toNat = (BitVec.ofNat 64 (x.toBitVec.toNat % 2 ^ 32)).toNat
  rw [BitVec.toNat_and, show (4294967295#64).toNat = 2 ^ 32 - 1 from by decide, Nat.and_two_pow_sub_one_eq_mod, BitVec.toNat_ofNat]
  omega))⟩
/-! ===== unsigned comparison by xor with the least ===== -/
theorem lN_bv (n : Nat) : (lN n).toBitVec = BitVec.ofNat 64 n := rfl
theorem lN_nat {n : Nat} (h : n < 2 ^ 64) : (lN n).toBitVec.toNat = n := by rw [lN_bv, BitVec.toNat_ofNat]; exact Nat.mod_eq_of_lt h
theorem lN_xor (a b : Nat) : lN a ^^^ lN b = lN (a ^^^ b) := by
  apply Int64.toBitVec_inj.mp; rw [Int64.toBitVec_xor, lN_bv, lN_bv, lN_bv]; apply BitVec.eq_of_getLsbD_eq; intro i hi; simp [BitVec.getLsbD_ofNat, Nat.testBit_xor, hi]
/-! ===== an int as a long without its sign ===== -/
abbrev u32 (x : Int32) : Nat := x.toBitVec.toNat
def zx (x : Int32) : Int64 := lN (u32 x)
theorem u32_lt (x : Int32) : u32 x < 4294967296 := x.toBitVec.isLt
theorem u32_inj {x y : Int32} (h : u32 x = u32 y) : x = y := Int32.toBitVec_inj.mp (BitVec.eq_of_toNat_eq h)
theorem u32_nI {n : Nat} (h : n < 4294967296) : u32 (nI n) = n := pk_tn h
theorem u32_add (x y : Int32) : u32 (x + y) = (u32 x + u32 y) % 4294967296 := by
  unfold u32
  rw [Int32.toBitVec_add, BitVec.toNat_add]
theorem u32_and (x y : Int32) : u32 (x &&& y) = u32 x &&& u32 y := by
  unfold u32
  rw [Int32.toBitVec_and, BitVec.toNat_and]
theorem u32_or (x y : Int32) : u32 (x ||| y) = u32 x ||| u32 y := by
  unfold u32
  rw [Int32.toBitVec_or, BitVec.toNat_or]
theorem u32_xor (x y : Int32) : u32 (x ^^^ y) = u32 x ^^^ u32 y := by
  unfold u32
  rw [Int32.toBitVec_xor, BitVec.toNat_xor]
theorem zx_xor (x y : Int32) : zx x ^^^ zx y = zx (x ^^^ y) := by unfold zx; rw [lN_xor, u32_xor]
theorem zx_and (x y : Int32) : zx x &&& zx y = zx (x &&& y) := by
  have h1 := u32_lt x
  have h2 := u32_lt y
  unfold zx
  rw [wb_and (by omega) (by omega), u32_and]
theorem zx_or (x y : Int32) : zx x ||| zx y = zx (x ||| y) := by
  have h1 := u32_lt x
  have h2 := u32_lt y
  unfold zx
  rw [wb_or (by omega) (by omega), u32_or]
theorem lN_w {a : Nat} (h : a < 2 ^ 64) : lN a &&& 4294967295 = lN (a % 4294967296) := wb_mask (k := 32) h (by decide)
theorem sh_s : ∀ k, k < 32 → (((nI k).toInt64 &&& 63).toBitVec.smod 64).toNat = k := by decide +kernel
theorem sh_u : ∀ k, k < 32 → (((nI k).toUInt32 &&& Int32.toUInt32 31).toBitVec % 32).toNat = k := by decide +kernel
theorem sh_l : ∀ k, k < 32 → ((nI k &&& 31).toBitVec.smod 32).toNat = k := by decide +kernel
theorem zx_shr (x : Int32) {k : Nat} (hk : k < 32) : zx x >>> ((nI k).toInt64 &&& 63) = zx (mU x (nI k)) := by
  have h1 := u32_lt x
  unfold zx
  rw [pf_shr (sh_s k hk) (by omega)]
  congr 1
  exact (pk_ushr x (nI k) k (sh_u k hk)).symm
/-- a turn to the right -/
def trn (x : Int64) (n : Int32) : Int64 := (x >>> (n.toInt64 &&& 63) ||| x <<< ((32 - n).toInt64 &&& 63)) &&& 4294967295
def rot (x : Int32) (k : Nat) : Int32 := mU x (nI k) ||| x <<< (nI (32 - k) &&& 31)
theorem zx_trn (x : Int32) {k : Nat} (h0 : 0 < k) (hk : k < 32) : trn (zx x) (nI k) = zx (rot x k) := by
  have h1 := u32_lt x
  have e : (32 : Int32) - nI k = nI (32 - k) := pk_sub (a := 32) (by omega)
  have hp : 2 ^ (32 - k) ≤ 2 ^ 31 := Nat.pow_le_pow_right (by decide) (by omega)
  have hm : u32 x * 2 ^ (32 - k) < 2 ^ 64 := by
    have := Nat.mul_le_mul (Nat.le_of_lt h1) hp
    omega
  have hd : u32 x / 2 ^ k ≤ u32 x := Nat.div_le_self _ _
  unfold trn
  rw [zx_shr x hk, e]
  unfold zx
  have hu : u32 (mU x (nI k)) = u32 x / 2 ^ k := pk_ushr x (nI k) k (sh_u k hk)
  rw [wb_shl _ (by omega), hu, wb_or (by omega) (by omega), lN_w (Nat.or_lt_two_pow (by omega) (by omega))]
  congr 1
  unfold rot
  rw [u32_or, hu, show u32 (x <<< (nI (32 - k) &&& 31)) = u32 x * 2 ^ (32 - k) % 2 ^ 32 from pk_shl x _ (32 - k) (sh_l (32 - k) (by omega)), show (4294967296 : Nat) = 2 ^ 32 from rfl, Nat.or_mod_two_pow, Nat.mod_eq_of_lt (a := u32 x / 2 ^ k) (by omega)]
theorem zx_not (x : Int32) : 4294967295 - zx x = zx (x ^^^ -1) := by
  have h1 := u32_lt x
  have hx : u32 (x ^^^ -1) = 4294967295 - u32 x := by
    unfold u32
    rw [Int32.toBitVec_xor, show (-1 : Int32).toBitVec = BitVec.allOnes 32 from rfl, BitVec.xor_allOnes, BitVec.toNat_not]
  unfold zx
  rw [hx]
  exact lN_sub (a := 4294967295) (by omega)
theorem ch_or (a b c : Int32) : (a &&& b) ||| ((a ^^^ -1) &&& c) = (a &&& b) ^^^ ((a ^^^ -1) &&& c) := by
  apply Int32.toBitVec_inj.mp
  rw [Int32.toBitVec_or, Int32.toBitVec_xor, Int32.toBitVec_and, Int32.toBitVec_and, Int32.toBitVec_xor, show (-1 : Int32).toBitVec = BitVec.allOnes 32 from rfl, BitVec.xor_allOnes]
  apply BitVec.eq_of_getLsbD_eq
  intro i hi
  simp only [BitVec.getLsbD_or, BitVec.getLsbD_xor, BitVec.getLsbD_and, BitVec.getLsbD_not, hi, decide_true, Bool.true_and]
  cases a.toBitVec.getLsbD i <;> cases b.toBitVec.getLsbD i <;> cases c.toBitVec.getLsbD i <;> rfl
theorem maj_or (a b c : Int32) : ((a &&& b) ||| (a &&& c)) ||| (b &&& c) = ((a &&& b) ^^^ (a &&& c)) ^^^ (b &&& c) := by
  apply Int32.toBitVec_inj.mp
  simp only [Int32.toBitVec_or, Int32.toBitVec_xor, Int32.toBitVec_and]
  apply BitVec.eq_of_getLsbD_eq
  intro i hi
  simp only [BitVec.getLsbD_or, BitVec.getLsbD_xor, BitVec.getLsbD_and]
  cases a.toBitVec.getLsbD i <;> cases b.toBitVec.getLsbD i <;> cases c.toBitVec.getLsbD i <;> rfl
theorem zx_i2l (x : Int32) : x.toInt64 &&& 4294967295 = zx x := by
  apply Int64.toBitVec_inj.mp
  unfold zx
  rw [Int64.toBitVec_and, wb_tb]
  apply BitVec.eq_of_getLsbD_eq
  intro i hi
  rw [BitVec.getLsbD_and, Int32.toBitVec_toInt64, BitVec.getLsbD_signExtend, show ((4294967295 : Int64).toBitVec) = BitVec.ofNat 64 (2 ^ 32 - 1) from rfl, BitVec.getLsbD_ofNat, BitVec.getLsbD_ofNat]
  simp only [hi, decide_true, Bool.true_and, Nat.testBit_two_pow_sub_one]
  by_cases h32 : i < 32
  · simp [h32, BitVec.testBit_toNat]
  · simp [h32, BitVec.testBit_toNat]
    exact BitVec.getLsbD_of_ge _ _ (by omega)
theorem zx_inj {x y : Int32} (h : zx x = zx y) : x = y := by
  have h1 := u32_lt x
  have h2 := u32_lt y
  apply u32_inj
  have := congrArg (fun z => z.toBitVec.toNat) h
  simp only [zx] at this
  rwa [wb_tn (by omega), wb_tn (by omega)] at this
theorem zx_add (x y : Int32) : (zx x + zx y) &&& 4294967295 = zx (x + y) := by
  have h1 := u32_lt x
  have h2 := u32_lt y
  unfold zx
  rw [lN_add, lN_w (by omega), u32_add]
/-! ===== bytes ===== -/
def bN (b : Int8) : Nat := u32 (b.toInt32 &&& 255)
theorem bN_lt (b : Int8) : bN b < 256 := by
  unfold bN
  rw [u32_and, show u32 255 = 2 ^ 8 - 1 from rfl, Nat.and_two_pow_sub_one_eq_mod]
  omega
theorem bN_nI (b : Int8) : b.toInt32 &&& 255 = nI (bN b) := by
  have h := bN_lt b
  apply u32_inj
  rw [u32_nI (by omega)]
  rfl
theorem or_sum {a b k : Nat} (hb : b < 2 ^ k) : a * 2 ^ k ||| b = a * 2 ^ k + b := by
  rw [Nat.mul_comm, Nat.two_pow_add_eq_or_of_lt hb]
theorem u32_shl (x : Int32) {k : Nat} (hk : k < 32) : u32 (x <<< (nI k &&& 31)) = u32 x * 2 ^ k % 4294967296 := pk_shl x _ k (sh_l k hk)
theorem u32_W4 (f : Nat → Int8) (a : Nat) : u32 (mW4 f a) = ((bN (f a) * 256 + bN (f (a + 1))) * 256 + bN (f (a + 2))) * 256 + bN (f (a + 3)) := by
  have h0 := bN_lt (f a)
  have h1 := bN_lt (f (a + 1))
  have h2 := bN_lt (f (a + 2))
  have h3 := bN_lt (f (a + 3))
  have e24 : u32 ((f a).toInt32 <<< ((24 : Int32) &&& 31)) = bN (f a) * 2 ^ 24 := by
    rw [show (24 : Int32) = nI 24 from rfl, u32_shl _ (by decide)]
    have hb : bN (f a) = u32 (f a).toInt32 % 256 := by
      unfold bN
      rw [u32_and, show u32 255 = 2 ^ 8 - 1 from rfl, Nat.and_two_pow_sub_one_eq_mod]
    rw [hb]
    omega
  have e16 : u32 (((f (a + 1)).toInt32 &&& 255) <<< ((16 : Int32) &&& 31)) = bN (f (a + 1)) * 2 ^ 16 := by
    rw [show (16 : Int32) = nI 16 from rfl, u32_shl _ (by decide)]
    show bN (f (a + 1)) * 2 ^ 16 % _ = _
    omega
  have e8 : u32 (((f (a + 2)).toInt32 &&& 255) <<< ((8 : Int32) &&& 31)) = bN (f (a + 2)) * 2 ^ 8 := by
    rw [show (8 : Int32) = nI 8 from rfl, u32_shl _ (by decide)]
    show bN (f (a + 2)) * 2 ^ 8 % _ = _
    omega
  unfold mW4
  rw [u32_or, u32_or, u32_or, e24, e16, e8]
  show bN (f a) * 2 ^ 24 ||| bN (f (a + 1)) * 2 ^ 16 ||| bN (f (a + 2)) * 2 ^ 8 ||| bN (f (a + 3)) = _
  rw [or_sum (k := 24) (b := bN (f (a + 1)) * 2 ^ 16) (by omega), show bN (f a) * 2 ^ 24 + bN (f (a + 1)) * 2 ^ 16 = (bN (f a) * 256 + bN (f (a + 1))) * 2 ^ 16 by omega, or_sum (k := 16) (b := bN (f (a + 2)) * 2 ^ 8) (by omega), show (bN (f a) * 256 + bN (f (a + 1))) * 2 ^ 16 + bN (f (a + 2)) * 2 ^ 8 = ((bN (f a) * 256 + bN (f (a + 1))) * 256 + bN (f (a + 2))) * 2 ^ 8 by omega, or_sum (k := 8) h3]
/-- a byte more behind a long -/
theorem lN_byte {a b : Nat} (ha : a < 2 ^ 40) (hb : b < 256) : (lN a <<< ((8 : Int32).toInt64 &&& 63)) ||| (nI b).toInt64 = lN (a * 256 + b) := by
  rw [show (8 : Int32) = nI 8 from rfl, wb_shl _ (by decide), nI_l (by omega), wb_or (by omega) (by omega), or_sum (k := 8) hb]
