/-! ===== the reference: a block of the hash ===== -/
def wv (f : Nat → Int8) (a : Nat) : Nat → Nat
  | 0 => 0
  | i + 1 => wv f a i * 256 + bN (f (a + i))
theorem wv_lt (f : Nat → Int8) (a : Nat) {i : Nat} (h : i < 4) : wv f a i < 2 ^ 40 := by
  have h0 := bN_lt (f (a + 0))
  have h1 := bN_lt (f (a + 1))
  have h2 := bN_lt (f (a + 2))
  rcases (show i = 0 ∨ i = 1 ∨ i = 2 ∨ i = 3 by omega) with rfl | rfl | rfl | rfl <;> simp only [wv] <;> omega
theorem wv_4 (f : Nat → Int8) (a : Nat) : lN (wv f a 4) = zx (mW4 f a) := by
  unfold zx
  rw [u32_W4]
  simp [wv]
abbrev pF (xs : List Int8) : Nat → Int8 := fun q => (padL xs).getD q 0
theorem bN_mod {m : Nat} (h : m < 2 ^ 31) : bN (nI m).toInt8 = m % 256 := by
  unfold bN
  rw [bp_b, u32_and, u32_nI (by omega), show u32 255 = 2 ^ 8 - 1 from rfl, Nat.and_two_pow_sub_one_eq_mod]
theorem mU_nI {m k : Nat} (h : m < 2 ^ 31) (hk : k < 32) : mU (nI m) (nI k) = nI (m / 2 ^ k) := by
  have hd : m / 2 ^ k ≤ m := Nat.div_le_self _ _
  apply u32_inj
  rw [u32_nI (by omega)]
  exact (pk_ushr (nI m) (nI k) k (sh_u k hk)).trans (by rw [show (nI m).toBitVec.toNat = m from u32_nI (by omega)])
theorem pad_at (xs : List Int8) {p : Nat} (hp : p < (padL xs).length) : pF xs p = if p < xs.length then xs.getD p 0 else if p = xs.length then (128 : Int32).toInt8 else if p + 2 < (padL xs).length then (0 : Int32).toInt8 else if p + 2 = (padL xs).length then (mU (nI xs.length * 8) 8).toInt8 else (nI xs.length * 8).toInt8 := by
  have hL := padL_len xs
  generalize (padL xs).length = pn at hL hp ⊢
  unfold pF padL
  simp only [List.getD_eq_getElem?_getD]
  by_cases h1 : p < xs.length
  · rw [if_pos h1]
    rw [List.append_assoc, List.append_assoc, List.append_assoc, List.getElem?_append_left h1]
  rw [if_neg h1]
  by_cases h2 : p = xs.length
  · rw [if_pos h2]
    subst h2
    rw [List.append_assoc, List.append_assoc, List.getElem?_append_left (by simp), List.getElem?_append_right (Nat.le_refl _)]
    simp
  rw [if_neg h2]
  by_cases h3 : p + 2 < pn
  · rw [if_pos h3, List.append_assoc, List.getElem?_append_left (by simp; omega), List.getElem?_append_right (by simp; omega), List.getElem?_replicate, if_pos (by simp; omega)]
    rfl
  rw [if_neg h3]
  by_cases h4 : p + 2 = pn
  · rw [if_pos h4, List.append_assoc, List.getElem?_append_right (by simp; omega), show p - (xs ++ [(128 : Int32).toInt8] ++ List.replicate ((568 - (xs.length + 1)) % 64 + 6) ((0 : Int32).toInt8)).length = 0 by simp; omega]
    rfl
  · rw [if_neg h4, List.getElem?_append_right (by simp; omega), show p - (xs ++ [(128 : Int32).toInt8] ++ List.replicate ((568 - (xs.length + 1)) % 64 + 6) ((0 : Int32).toInt8) ++ [(mU (nI xs.length * 8) 8).toInt8]).length = 0 by simp; omega]
    rfl
theorem pad_lo {xs : List Int8} {p : Nat} (h : p < xs.length) : (xs.getD p 0).toInt32 &&& 255 = nI (bN (pF xs p)) := by
  have hL := padL_len xs
  rw [pad_at xs (by omega), if_pos h, bN_nI]
theorem pad_eq {xs : List Int8} : (128 : Int32) = nI (bN (pF xs xs.length)) := by
  have hL := padL_len xs
  rw [pad_at xs (by omega), if_neg (by omega), if_pos rfl]
  decide
theorem pad_mid {xs : List Int8} {p : Nat} (h0 : xs.length < p) (h : p + 4 < (padL xs).length) : (0 : Int32) = nI (bN (pF xs p)) := by
  rw [pad_at xs (by omega), if_neg (by omega), if_neg (by omega), if_pos (by omega)]
  decide
theorem nI_sar {m k : Nat} (h : m < 2 ^ 31) (hk : k < 32) : nI m >>> (nI k &&& 31) = nI (m / 2 ^ k) := by
  have hd : m / 2 ^ k ≤ m := Nat.div_le_self _ _
  apply Int32.toInt_inj.mp
  have e : (nI m >>> (nI k &&& 31)).toInt = (nI m).toInt >>> k := by
    have := sh_l k hk
    conv => rhs; rw [← this]
    exact BitVec.toInt_sshiftRight ..
  rw [e, Int.shiftRight_eq_div_pow, nI_toInt h, nI_toInt (by omega)]
  rfl
theorem nI_255 {m : Nat} (h : m < 2 ^ 31) : nI m &&& 255 = nI (m % 256) := by
  apply u32_inj
  rw [u32_and, u32_nI (by omega), u32_nI (by omega), show u32 255 = 2 ^ 8 - 1 from rfl, Nat.and_two_pow_sub_one_eq_mod]
theorem pad_hi {xs : List Int8} (hx : xs.length ≤ 1024) {p : Nat} (h0 : xs.length < p) (h : (padL xs).length ≤ p + 4) (hp : p < (padL xs).length) : (nI (8 * xs.length) >>> (nI (8 * ((padL xs).length - 1 - p)) &&& 31)) &&& 255 = nI (bN (pF xs p)) := by
  have hL := padL_len xs
  have hd : ∀ k, 8 * xs.length / 2 ^ k ≤ 8 * xs.length := fun k => Nat.div_le_self _ _
  have hd8 := hd (8 * ((padL xs).length - 1 - p))
  rw [nI_sar (by omega) (by omega), nI_255 (by omega), pad_at xs hp, if_neg (by omega), if_neg (by omega)]
  congr 1
  have e8 : nI xs.length * 8 = nI (8 * xs.length) := by rw [show (8 : Int32) = nI 8 from rfl, pk_mul, Nat.mul_comm]
  by_cases h3 : p + 2 < (padL xs).length
  · rw [if_pos h3, show bN ((0 : Int32).toInt8) = 0 from rfl]
    have : 8 * xs.length / 2 ^ (8 * ((padL xs).length - 1 - p)) = 0 := by
      apply Nat.div_eq_of_lt
      have h16 : 2 ^ 16 ≤ 2 ^ (8 * ((padL xs).length - 1 - p)) := Nat.pow_le_pow_right (by decide) (by omega)
      omega
    rw [this]
  rw [if_neg h3]
  by_cases h4 : p + 2 = (padL xs).length
  · rw [if_pos h4, e8, show (padL xs).length - 1 - p = 1 by omega, show (8 : Int32) = nI 8 from rfl, mU_nI (by omega) (by decide), bN_mod (by have := hd 8; omega)]
  · rw [if_neg h4, e8, show (padL xs).length - 1 - p = 0 by omega, bN_mod (by omega)]
    simp
theorem zx_schV (w : Nat → Int32) (t : Nat) : (((zx (w (t - 16)) + ((zx (rot (w (t - 15)) 7) ^^^ zx (rot (w (t - 15)) 18)) ^^^ (zx (w (t - 15)) >>> ((3 : Int32).toInt64 &&& 63)))) + zx (w (t - 7))) + ((zx (rot (w (t - 2)) 17) ^^^ zx (rot (w (t - 2)) 19)) ^^^ (zx (w (t - 2)) >>> ((10 : Int32).toInt64 &&& 63)))) &&& 4294967295 = zx (schV w t) := by
  rw [show (3 : Int32) = nI 3 from rfl, show (10 : Int32) = nI 10 from rfl, zx_shr _ (by decide), zx_shr _ (by decide), zx_xor, zx_xor, zx_xor, zx_xor]
  show _ = zx (w (t - 16) + ((rot (w (t - 15)) 7 ^^^ rot (w (t - 15)) 18) ^^^ mU (w (t - 15)) (nI 3)) + w (t - 7) + ((rot (w (t - 2)) 17 ^^^ rot (w (t - 2)) 19) ^^^ mU (w (t - 2)) (nI 10)))
  generalize (rot (w (t - 15)) 7 ^^^ rot (w (t - 15)) 18) ^^^ mU (w (t - 15)) (nI 3) = b
  generalize (rot (w (t - 2)) 17 ^^^ rot (w (t - 2)) 19) ^^^ mU (w (t - 2)) (nI 10) = d
  generalize w (t - 16) = a
  generalize w (t - 7) = c
  have ha := u32_lt a
  have hb := u32_lt b
  have hc := u32_lt c
  have hd := u32_lt d
  unfold zx
  rw [lN_add, lN_add, lN_add, lN_w (by omega), u32_add, u32_add, u32_add]
  congr 1
  omega
theorem zx_T1 (K w : Int32) (v : Nat → Int32) : ((((zx (v 7) + ((zx (rot (v 4) 6) ^^^ zx (rot (v 4) 11)) ^^^ zx (rot (v 4) 25))) + ((zx (v 4) &&& zx (v 5)) ||| ((4294967295 - zx (v 4)) &&& zx (v 6)))) + (K.toInt64 &&& 4294967295)) + zx w) = lN (u32 (v 7) + u32 ((rot (v 4) 6 ^^^ rot (v 4) 11) ^^^ rot (v 4) 25) + u32 ((v 4 &&& v 5) ^^^ ((v 4 ^^^ -1) &&& v 6)) + u32 K + u32 w) := by
  rw [zx_xor, zx_xor, zx_not, zx_and, zx_and, zx_or, ch_or, zx_i2l]
  unfold zx
  rw [lN_add, lN_add, lN_add, lN_add]
theorem zx_T2 (v : Nat → Int32) : (((zx (rot (v 0) 2) ^^^ zx (rot (v 0) 13)) ^^^ zx (rot (v 0) 22)) + (((zx (v 0) &&& zx (v 1)) ||| (zx (v 0) &&& zx (v 2))) ||| (zx (v 1) &&& zx (v 2)))) = lN (u32 ((rot (v 0) 2 ^^^ rot (v 0) 13) ^^^ rot (v 0) 22) + u32 (((v 0 &&& v 1) ^^^ (v 0 &&& v 2)) ^^^ (v 1 &&& v 2))) := by
  rw [zx_xor, zx_xor, zx_and, zx_and, zx_and, zx_or, zx_or, maj_or]
  unfold zx
  rw [lN_add]
abbrev tA (v : Nat → Int32) (K w : Int32) : Nat := u32 (v 7) + u32 ((rot (v 4) 6 ^^^ rot (v 4) 11) ^^^ rot (v 4) 25) + u32 ((v 4 &&& v 5) ^^^ ((v 4 ^^^ -1) &&& v 6)) + u32 K + u32 w
abbrev tB (v : Nat → Int32) : Nat := u32 ((rot (v 0) 2 ^^^ rot (v 0) 13) ^^^ rot (v 0) 22) + u32 (((v 0 &&& v 1) ^^^ (v 0 &&& v 2)) ^^^ (v 1 &&& v 2))
theorem zx_r4 (K w : Int32) (v : Nat → Int32) : (zx (v 3) + lN (tA v K w)) &&& 4294967295 = zx (rnd K w v 4) := by
  show _ = zx (v 3 + (v 7 + ((rot (v 4) 6 ^^^ rot (v 4) 11) ^^^ rot (v 4) 25) + ((v 4 &&& v 5) ^^^ ((v 4 ^^^ -1) &&& v 6)) + K + w))
  unfold tA
  generalize (rot (v 4) 6 ^^^ rot (v 4) 11) ^^^ rot (v 4) 25 = b
  generalize (v 4 &&& v 5) ^^^ ((v 4 ^^^ -1) &&& v 6) = c
  have ha := u32_lt (v 3)
  have h7 := u32_lt (v 7)
  have hb := u32_lt b
  have hc := u32_lt c
  have hk := u32_lt K
  have hw := u32_lt w
  unfold zx
  rw [lN_add, lN_w (by omega), u32_add, u32_add, u32_add, u32_add, u32_add]
  congr 1
  omega
theorem zx_r0 (K w : Int32) (v : Nat → Int32) : (lN (tA v K w) + lN (tB v)) &&& 4294967295 = zx (rnd K w v 0) := by
  show _ = zx (v 7 + ((rot (v 4) 6 ^^^ rot (v 4) 11) ^^^ rot (v 4) 25) + ((v 4 &&& v 5) ^^^ ((v 4 ^^^ -1) &&& v 6)) + K + w + (((rot (v 0) 2 ^^^ rot (v 0) 13) ^^^ rot (v 0) 22) + (((v 0 &&& v 1) ^^^ (v 0 &&& v 2)) ^^^ (v 1 &&& v 2))))
  unfold tA tB
  generalize (rot (v 4) 6 ^^^ rot (v 4) 11) ^^^ rot (v 4) 25 = b
  generalize (v 4 &&& v 5) ^^^ ((v 4 ^^^ -1) &&& v 6) = c
  generalize (rot (v 0) 2 ^^^ rot (v 0) 13) ^^^ rot (v 0) 22 = f
  generalize ((v 0 &&& v 1) ^^^ (v 0 &&& v 2)) ^^^ (v 1 &&& v 2) = g
  have h7 := u32_lt (v 7)
  have hb := u32_lt b
  have hc := u32_lt c
  have hk := u32_lt K
  have hw := u32_lt w
  have hf := u32_lt f
  have hg := u32_lt g
  unfold zx
  rw [lN_add, lN_w (by omega), u32_add, u32_add, u32_add, u32_add, u32_add, u32_add]
  congr 1
  omega
theorem X8_turn_z (l : Launch) (E : mEv) (A : Nat → Prop) (hO : mOwn mLM E A) (S : mSt) (y : Int32) (k : Nat) (h0 : 0 < k) (hk : k < 32) : Met l yX8_turn (Cond.code yX8_turn cX8_turn 3 (some .long) :: mv_ws) (mRm 0 0) (mPc mLM E A S [.long (zx y), .int (nI k)]) (mQ mLM E A (fun S' => S' = S) (some (.long (zx (rot y k))))) 0 0 A := by
  have h := c_X8_turn l E A hO S (zx y) (nI k)
  rwa [zx_trn y h0 hk] at h
set_option maxHeartbeats 4000000 in
set_option maxRecDepth 100000 in
theorem c_X8_block (l : Launch) (E : mEv) (A : Nat → Prop) (hO : mOwn mLM E A) (S : mSt) (xs : List Int8) (hxs : nHas 5 1024 S xs) (Hh : Nat → Int32) (hh : ∀ q, q < 8 → S.2.2 7 0 q = zx (Hh q)) (a : Nat) (ha : a + 64 ≤ (padL xs).length) : Met l yX8_block (Cond.code yX8_block cX8_block 25 none :: mv_ws) (mRm 1 22) (mPc mLM E A S [.ref (mAdM E 0 0), .int (nI a), .int (nI xs.length), .int (nI (padL xs).length)]) (mQ mLM E A (fun S' => (∀ q, q < 8 → S'.2.2 7 0 q = zx (shaBlk (pF xs) Hh a q)) ∧ nSame (fun k _ => k = 7 ∨ k = 8) S S') none) 0 0 A := by
  refine Met.ofW (cc := cX8_block) (maxL := 25) (ret := none) (by decide) rfl ?_
  intro p e s m args below meth c s₁ B hml hv
  obtain ⟨rfl, hG, hH⟩ := hv
  have hx := B.exec
  have hb := B.bytes
  have hr := B.returns
  have hlocks := B.notSynchronized
  have Cx : CallFix p m c cX8_block 25 s ([.ref (mAdM E 0 0), .int (nI a), .int (nI xs.length), .int (nI (padL xs).length)] : List Value).toArray (Cond.code yX8_block cX8_block 25 none :: mv_ws) RX8 := ⟨hx, hb, hml, findClass_of_methodNamed B.named, atoms_spec (ws := Cond.code yX8_block cX8_block 25 none :: mv_ws) B.pre⟩
  have hS : va_S A s.heap s.heap [] := va_S.rf
  obtain ⟨tR, hZR, hTR⟩ := hG.2.2.2.2.2
  have hL := padL_len xs
  have hx4 := hxs.2.1
  have hl := lv_entry ([.ref (mAdM E 0 0), .int (nI a), .int (nI xs.length), .int (nI (padL xs).length)]) (n := 25) (Nat.le_of_ble_eq_true rfl)
  rw [lg_entry_eq]
  generalize (lg_sl ([.ref (mAdM E 0 0), .int (nI a), .int (nI xs.length), .int (nI (padL xs).length)]) ++ List.replicate (25 - (lg_sl ([.ref (mAdM E 0 0), .int (nI a), .int (nI xs.length), .int (nI (padL xs).length)])).length) Slot.unset).toArray = ls at hl ⊢
  have hl : lv_has ls 25 [(0, .ref (mAdM E 0 0)), (1, .int (nI a)), (2, .int (nI xs.length)), (3, .int (nI (padL xs).length))] := hl
  refine lv_iconst (v := 0) hx hb dX8_block_0 (by decide) ?_
  refine mv_eqi (x' := nI 0) (rfl) ?_
  refine lv_istore (lv' := [(4, .int (nI 0)), (0, .ref (mAdM E 0 0)), (1, .int (nI a)), (2, .int (nI xs.length)), (3, .int (nI (padL xs).length))]) hx hb dX8_block_1 hl (by decide) rfl (fun ls hl => ?_)
  have lp : ∀ (fu j : Nat) (S1 : mSt) (H : Heap) (locs : List Loc) (ls : Array Slot) , 16 - j < fu → j ≤ 16 → ((∀ q, q < j → S1.2.2 8 0 q = zx (mW4 (pF xs) (a + 4 * q))) ∧ nSame (fun k _ => k = 8) S S1) → mHold mLM E S1 H → va_S A s.heap H locs → lv_has ls 25 [(0, .ref (mAdM E 0 0)), (1, .int (nI a)), (2, .int (nI xs.length)), (3, .int (nI (padL xs).length)), (4, .int (nI j))] → W p l e (headSpec (Cond.code yX8_block cX8_block 25 none :: mv_ws) (mRm 1 22)).room s m ([.ref (mAdM E 0 0), .int (nI a), .int (nI xs.length), .int (nI (padL xs).length)] : List Value).toArray below meth c H locs 0 0 (MQ below (mQ mLM E A (fun S' => (∀ q, q < 8 → S'.2.2 7 0 q = zx (shaBlk (pF xs) Hh a q)) ∧ nSame (fun k _ => k = 7 ∨ k = 8) S S') none) ([.ref (mAdM E 0 0), .int (nI a), .int (nI xs.length), .int (nI (padL xs).length)] : List Value).toArray s 0 0 A) (F0 m 3 ls []) := by
    intro fu
    induction fu with
    | zero => intro j S1 H locs ls  hn hj hinv hH hS hl; omega
    | succ fu ih1 =>
      intro j S1 H locs ls  hn hj hinv hH hS hl
      refine lv_iload hx hb dX8_block_3 (lv_at hl 4 rfl) ?_
      refine lv_bipush (v := 16) hx hb dX8_block_5 (by decide) ?_
      refine lv_icmp_ge (tgt := 129) hx hb dX8_block_7 (by decide) (fun h7 => ?_) (fun h7 => ?_)
      · skip
        have hj16 : j = 16 := by have := ge_of (a := 16) (by decide) (by omega) h7; omega
        refine lv_bipush (v := 16) hx hb dX8_block_129 (by decide) ?_
        refine mv_eqi (x' := nI (16 + 0)) (rfl) ?_
        refine lv_istore (lv' := [(4, .int (nI (16 + 0))), (0, .ref (mAdM E 0 0)), (1, .int (nI a)), (2, .int (nI xs.length)), (3, .int (nI (padL xs).length))]) hx hb dX8_block_131 hl (by decide) rfl (fun ls hl => ?_)
        have lp2 : ∀ (fu t : Nat) (S2 : mSt) (H : Heap) (locs : List Loc) (ls : Array Slot) , 48 - t < fu → t ≤ 48 → ((∀ q, q < 16 + t → S2.2.2 8 0 q = zx (schN (fun q => mW4 (pF xs) (a + 4 * q)) t q)) ∧ nSame (fun k _ => k = 8) S S2) → mHold mLM E S2 H → va_S A s.heap H locs → lv_has ls 25 [(0, .ref (mAdM E 0 0)), (1, .int (nI a)), (2, .int (nI xs.length)), (3, .int (nI (padL xs).length)), (4, .int (nI (16 + t)))] → W p l e (headSpec (Cond.code yX8_block cX8_block 25 none :: mv_ws) (mRm 1 22)).room s m ([.ref (mAdM E 0 0), .int (nI a), .int (nI xs.length), .int (nI (padL xs).length)] : List Value).toArray below meth c H locs 0 0 (MQ below (mQ mLM E A (fun S' => (∀ q, q < 8 → S'.2.2 7 0 q = zx (shaBlk (pF xs) Hh a q)) ∧ nSame (fun k _ => k = 7 ∨ k = 8) S S') none) ([.ref (mAdM E 0 0), .int (nI a), .int (nI xs.length), .int (nI (padL xs).length)] : List Value).toArray s 0 0 A) (F0 m 133 ls []) := by
          intro fu
          induction fu with
          | zero => intro t S2 H locs ls  hn2 ht hin2 hH hS hl; omega
          | succ fu ih3 =>
            intro t S2 H locs ls  hn2 ht hin2 hH hS hl
            refine lv_iload hx hb dX8_block_133 (lv_at hl 4 rfl) ?_
            refine lv_bipush (v := 64) hx hb dX8_block_135 (by decide) ?_
            refine lv_icmp_ge (tgt := 274) hx hb dX8_block_137 (by decide) (fun h137 => ?_) (fun h137 => ?_)
            · skip
              have ht48 : t = 48 := by have := ge_of (a := 64) (by decide) (by omega) h137; omega
              rw [ht48] at hin2
              have hw64 : ∀ q, q < 64 → S2.2.2 8 0 q = zx ((schN (fun q => mW4 (pF xs) (a + 4 * q)) 48) q) := fun q hq => hin2.1 q (by omega)
              have hh2 : ∀ q, q < 8 → S2.2.2 7 0 q = zx (Hh q) := fun q hq => (hin2.2 7 q (show ¬ (7 : Nat) = 8 by decide)).2.2.trans (hh q hq)
              refine lv_aload_n hx hb dX8_block_274 rfl (lv_at hl 0 rfl) ?_
              refine g_X8_h Cx hG hH q_fl_X8_19 dX8_block_275 ?_
              refine lv_iconst (v := 0) hx hb dX8_block_278 (by decide) ?_
              refine mv_lal Cx hG hH isM_7 0 (rfl) (by decide) dX8_block_279 ?_
              refine mv_eql (x' := zx (Hh 0)) (hh2 0 (by decide)) ?_
              refine lv_lstore (lv' := [(4, .long (zx (Hh 0))), (0, .ref (mAdM E 0 0)), (1, .int (nI a)), (2, .int (nI xs.length)), (3, .int (nI (padL xs).length))]) hx hb dX8_block_280 hl (by decide) rfl (fun ls hl => ?_)
              refine lv_aload_n hx hb dX8_block_282 rfl (lv_at hl 1 rfl) ?_
              refine g_X8_h Cx hG hH q_fl_X8_19 dX8_block_283 ?_
              refine lv_iconst (v := 1) hx hb dX8_block_286 (by decide) ?_
              refine mv_lal Cx hG hH isM_7 1 (rfl) (by decide) dX8_block_287 ?_
              refine mv_eql (x' := zx (Hh 1)) (hh2 1 (by decide)) ?_
              refine lv_lstore (lv' := [(6, .long (zx (Hh 1))), (4, .long (zx (Hh 0))), (0, .ref (mAdM E 0 0)), (1, .int (nI a)), (2, .int (nI xs.length)), (3, .int (nI (padL xs).length))]) hx hb dX8_block_288 hl (by decide) rfl (fun ls hl => ?_)
              refine lv_aload_n hx hb dX8_block_290 rfl (lv_at hl 2 rfl) ?_
              refine g_X8_h Cx hG hH q_fl_X8_19 dX8_block_291 ?_
              refine lv_iconst (v := 2) hx hb dX8_block_294 (by decide) ?_
              refine mv_lal Cx hG hH isM_7 2 (rfl) (by decide) dX8_block_295 ?_
              refine mv_eql (x' := zx (Hh 2)) (hh2 2 (by decide)) ?_
              refine lv_lstore (lv' := [(8, .long (zx (Hh 2))), (6, .long (zx (Hh 1))), (4, .long (zx (Hh 0))), (0, .ref (mAdM E 0 0)), (1, .int (nI a)), (2, .int (nI xs.length)), (3, .int (nI (padL xs).length))]) hx hb dX8_block_296 hl (by decide) rfl (fun ls hl => ?_)
              refine lv_aload_n hx hb dX8_block_298 rfl (lv_at hl 3 rfl) ?_
              refine g_X8_h Cx hG hH q_fl_X8_19 dX8_block_299 ?_
              refine lv_iconst (v := 3) hx hb dX8_block_302 (by decide) ?_
              refine mv_lal Cx hG hH isM_7 3 (rfl) (by decide) dX8_block_303 ?_
              refine mv_eql (x' := zx (Hh 3)) (hh2 3 (by decide)) ?_
              refine lv_lstore (lv' := [(10, .long (zx (Hh 3))), (8, .long (zx (Hh 2))), (6, .long (zx (Hh 1))), (4, .long (zx (Hh 0))), (0, .ref (mAdM E 0 0)), (1, .int (nI a)), (2, .int (nI xs.length)), (3, .int (nI (padL xs).length))]) hx hb dX8_block_304 hl (by decide) rfl (fun ls hl => ?_)
              refine lv_aload_n hx hb dX8_block_306 rfl (lv_at hl 4 rfl) ?_
              refine g_X8_h Cx hG hH q_fl_X8_19 dX8_block_307 ?_
              refine lv_iconst (v := 4) hx hb dX8_block_310 (by decide) ?_
              refine mv_lal Cx hG hH isM_7 4 (rfl) (by decide) dX8_block_311 ?_
              refine mv_eql (x' := zx (Hh 4)) (hh2 4 (by decide)) ?_
              refine lv_lstore (lv' := [(12, .long (zx (Hh 4))), (10, .long (zx (Hh 3))), (8, .long (zx (Hh 2))), (6, .long (zx (Hh 1))), (4, .long (zx (Hh 0))), (0, .ref (mAdM E 0 0)), (1, .int (nI a)), (2, .int (nI xs.length)), (3, .int (nI (padL xs).length))]) hx hb dX8_block_312 hl (by decide) rfl (fun ls hl => ?_)
              refine lv_aload_n hx hb dX8_block_314 rfl (lv_at hl 5 rfl) ?_
              refine g_X8_h Cx hG hH q_fl_X8_19 dX8_block_315 ?_
              refine lv_iconst (v := 5) hx hb dX8_block_318 (by decide) ?_
              refine mv_lal Cx hG hH isM_7 5 (rfl) (by decide) dX8_block_319 ?_
              refine mv_eql (x' := zx (Hh 5)) (hh2 5 (by decide)) ?_
              refine lv_lstore (lv' := [(14, .long (zx (Hh 5))), (12, .long (zx (Hh 4))), (10, .long (zx (Hh 3))), (8, .long (zx (Hh 2))), (6, .long (zx (Hh 1))), (4, .long (zx (Hh 0))), (0, .ref (mAdM E 0 0)), (1, .int (nI a)), (2, .int (nI xs.length)), (3, .int (nI (padL xs).length))]) hx hb dX8_block_320 hl (by decide) rfl (fun ls hl => ?_)
              refine lv_aload_n hx hb dX8_block_322 rfl (lv_at hl 6 rfl) ?_
              refine g_X8_h Cx hG hH q_fl_X8_19 dX8_block_323 ?_
              refine lv_bipush (v := 6) hx hb dX8_block_326 (by decide) ?_
              refine mv_lal Cx hG hH isM_7 6 (rfl) (by decide) dX8_block_328 ?_
              refine mv_eql (x' := zx (Hh 6)) (hh2 6 (by decide)) ?_
              refine lv_lstore (lv' := [(16, .long (zx (Hh 6))), (14, .long (zx (Hh 5))), (12, .long (zx (Hh 4))), (10, .long (zx (Hh 3))), (8, .long (zx (Hh 2))), (6, .long (zx (Hh 1))), (4, .long (zx (Hh 0))), (0, .ref (mAdM E 0 0)), (1, .int (nI a)), (2, .int (nI xs.length)), (3, .int (nI (padL xs).length))]) hx hb dX8_block_329 hl (by decide) rfl (fun ls hl => ?_)
              refine lv_aload_n hx hb dX8_block_331 rfl (lv_at hl 7 rfl) ?_
              refine g_X8_h Cx hG hH q_fl_X8_19 dX8_block_332 ?_
              refine lv_bipush (v := 7) hx hb dX8_block_335 (by decide) ?_
              refine mv_lal Cx hG hH isM_7 7 (rfl) (by decide) dX8_block_337 ?_
              refine mv_eql (x' := zx (Hh 7)) (hh2 7 (by decide)) ?_
              refine lv_lstore (lv' := [(18, .long (zx (Hh 7))), (16, .long (zx (Hh 6))), (14, .long (zx (Hh 5))), (12, .long (zx (Hh 4))), (10, .long (zx (Hh 3))), (8, .long (zx (Hh 2))), (6, .long (zx (Hh 1))), (4, .long (zx (Hh 0))), (0, .ref (mAdM E 0 0)), (1, .int (nI a)), (2, .int (nI xs.length)), (3, .int (nI (padL xs).length))]) hx hb dX8_block_338 hl (by decide) rfl (fun ls hl => ?_)
              refine lv_iconst (v := 0) hx hb dX8_block_340 (by decide) ?_
              refine mv_eqi (x' := nI 0) (rfl) ?_
              refine lv_istore (lv' := [(20, .int (nI 0)), (18, .long (zx (Hh 7))), (16, .long (zx (Hh 6))), (14, .long (zx (Hh 5))), (12, .long (zx (Hh 4))), (10, .long (zx (Hh 3))), (8, .long (zx (Hh 2))), (6, .long (zx (Hh 1))), (4, .long (zx (Hh 0))), (0, .ref (mAdM E 0 0)), (1, .int (nI a)), (2, .int (nI xs.length)), (3, .int (nI (padL xs).length))]) hx hb dX8_block_341 hl (by decide) rfl (fun ls hl => ?_)
              have lp3 : ∀ (fu r : Nat) (Sr : mSt) (H : Heap) (locs : List Loc) (ls : Array Slot) , 64 - r < fu → r ≤ 64 → (Sr = S2) → mHold mLM E Sr H → va_S A s.heap H locs → lv_has ls 25 [(0, .ref (mAdM E 0 0)), (1, .int (nI a)), (2, .int (nI xs.length)), (3, .int (nI (padL xs).length)), (4, .long (zx (rndN (schN (fun q => mW4 (pF xs) (a + 4 * q)) 48) Hh r 0))), (6, .long (zx (rndN (schN (fun q => mW4 (pF xs) (a + 4 * q)) 48) Hh r 1))), (8, .long (zx (rndN (schN (fun q => mW4 (pF xs) (a + 4 * q)) 48) Hh r 2))), (10, .long (zx (rndN (schN (fun q => mW4 (pF xs) (a + 4 * q)) 48) Hh r 3))), (12, .long (zx (rndN (schN (fun q => mW4 (pF xs) (a + 4 * q)) 48) Hh r 4))), (14, .long (zx (rndN (schN (fun q => mW4 (pF xs) (a + 4 * q)) 48) Hh r 5))), (16, .long (zx (rndN (schN (fun q => mW4 (pF xs) (a + 4 * q)) 48) Hh r 6))), (18, .long (zx (rndN (schN (fun q => mW4 (pF xs) (a + 4 * q)) 48) Hh r 7))), (20, .int (nI r))] → W p l e (headSpec (Cond.code yX8_block cX8_block 25 none :: mv_ws) (mRm 1 22)).room s m ([.ref (mAdM E 0 0), .int (nI a), .int (nI xs.length), .int (nI (padL xs).length)] : List Value).toArray below meth c H locs 0 0 (MQ below (mQ mLM E A (fun S' => (∀ q, q < 8 → S'.2.2 7 0 q = zx (shaBlk (pF xs) Hh a q)) ∧ nSame (fun k _ => k = 7 ∨ k = 8) S S') none) ([.ref (mAdM E 0 0), .int (nI a), .int (nI xs.length), .int (nI (padL xs).length)] : List Value).toArray s 0 0 A) (F0 m 343 ls []) := by
                intro fu
                induction fu with
                | zero => intro r Sr H locs ls  hn3 hr3 hin3 hH hS hl; omega
                | succ fu ih4 =>
                  intro r Sr H locs ls  hn3 hr3 hin3 hH hS hl
                  have hH := mv_S hin3 hH
                  refine lv_iload hx hb dX8_block_343 (lv_at hl 12 rfl) ?_
                  refine lv_bipush (v := 64) hx hb dX8_block_345 (by decide) ?_
                  refine lv_icmp_ge (tgt := 508) hx hb dX8_block_347 (by decide) (fun h347 => ?_) (fun h347 => ?_)
                  · skip
                    have hr64 : r = 64 := by have := ge_of (a := 64) (by decide) (by omega) h347; omega
                    subst hr64
                    refine lv_aload_n hx hb dX8_block_508 rfl (lv_at hl 0 rfl) ?_
                    refine g_X8_h Cx hG hH q_fl_X8_19 dX8_block_509 ?_
                    refine lv_iconst (v := 0) hx hb dX8_block_512 (by decide) ?_
                    refine lv_aload_n hx hb dX8_block_513 rfl (lv_at hl 0 rfl) ?_
                    refine g_X8_h Cx hG hH q_fl_X8_19 dX8_block_514 ?_
                    refine lv_iconst (v := 0) hx hb dX8_block_517 (by decide) ?_
                    refine mv_lal Cx hG hH isM_7 0 (rfl) (by decide) dX8_block_518 ?_
                    refine mv_eql (x' := zx (Hh 0)) (hh2 0 (by decide)) ?_
                    refine lv_lload hx hb dX8_block_519 (lv_at hl 4 rfl) ?_
                    refine lv_ladd hx hb dX8_block_521 ?_
                    refine lv_ldc2 hx hb Cx.2.2.2.1 (Cx.2.2.2.2 _ (List.mem_cons_of_mem _ q_k_X8_115)) dX8_block_522 ?_
                    refine lv_land hx hb dX8_block_525 ?_
                    refine mv_eql (x' := zx (Hh 0 + rndN (schN (fun q => mW4 (pF xs) (a + 4 * q)) 48) Hh 64 0)) (zx_add _ _) ?_
                    refine mv_las Cx hG hO hH hS isM_7 0 (rfl) (by decide) dX8_block_526 (fun H locs hH hS => ?_)
                    refine lv_aload_n hx hb dX8_block_527 rfl (lv_at hl 0 rfl) ?_
                    refine g_X8_h Cx hG hH q_fl_X8_19 dX8_block_528 ?_
                    refine lv_iconst (v := 1) hx hb dX8_block_531 (by decide) ?_
                    refine lv_aload_n hx hb dX8_block_532 rfl (lv_at hl 0 rfl) ?_
                    refine g_X8_h Cx hG hH q_fl_X8_19 dX8_block_533 ?_
                    refine lv_iconst (v := 1) hx hb dX8_block_536 (by decide) ?_
                    refine mv_lal Cx hG hH isM_7 1 (rfl) (by decide) dX8_block_537 ?_
                    refine mv_eql (x' := zx (Hh 1)) ((by simp [mJ, m3]; exact hh2 1 (by decide))) ?_
                    refine lv_lload hx hb dX8_block_538 (lv_at hl 5 rfl) ?_
                    refine lv_ladd hx hb dX8_block_540 ?_
                    refine lv_ldc2 hx hb Cx.2.2.2.1 (Cx.2.2.2.2 _ (List.mem_cons_of_mem _ q_k_X8_115)) dX8_block_541 ?_
                    refine lv_land hx hb dX8_block_544 ?_
                    refine mv_eql (x' := zx (Hh 1 + rndN (schN (fun q => mW4 (pF xs) (a + 4 * q)) 48) Hh 64 1)) (zx_add _ _) ?_
                    refine mv_las Cx hG hO hH hS isM_7 1 (rfl) (by decide) dX8_block_545 (fun H locs hH hS => ?_)
                    refine lv_aload_n hx hb dX8_block_546 rfl (lv_at hl 0 rfl) ?_
                    refine g_X8_h Cx hG hH q_fl_X8_19 dX8_block_547 ?_
                    refine lv_iconst (v := 2) hx hb dX8_block_550 (by decide) ?_
                    refine lv_aload_n hx hb dX8_block_551 rfl (lv_at hl 0 rfl) ?_
                    refine g_X8_h Cx hG hH q_fl_X8_19 dX8_block_552 ?_
                    refine lv_iconst (v := 2) hx hb dX8_block_555 (by decide) ?_
                    refine mv_lal Cx hG hH isM_7 2 (rfl) (by decide) dX8_block_556 ?_
                    refine mv_eql (x' := zx (Hh 2)) ((by simp [mJ, m3]; exact hh2 2 (by decide))) ?_
                    refine lv_lload hx hb dX8_block_557 (lv_at hl 6 rfl) ?_
                    refine lv_ladd hx hb dX8_block_559 ?_
                    refine lv_ldc2 hx hb Cx.2.2.2.1 (Cx.2.2.2.2 _ (List.mem_cons_of_mem _ q_k_X8_115)) dX8_block_560 ?_
                    refine lv_land hx hb dX8_block_563 ?_
                    refine mv_eql (x' := zx (Hh 2 + rndN (schN (fun q => mW4 (pF xs) (a + 4 * q)) 48) Hh 64 2)) (zx_add _ _) ?_
                    refine mv_las Cx hG hO hH hS isM_7 2 (rfl) (by decide) dX8_block_564 (fun H locs hH hS => ?_)
                    refine lv_aload_n hx hb dX8_block_565 rfl (lv_at hl 0 rfl) ?_
                    refine g_X8_h Cx hG hH q_fl_X8_19 dX8_block_566 ?_
                    refine lv_iconst (v := 3) hx hb dX8_block_569 (by decide) ?_
                    refine lv_aload_n hx hb dX8_block_570 rfl (lv_at hl 0 rfl) ?_
                    refine g_X8_h Cx hG hH q_fl_X8_19 dX8_block_571 ?_
                    refine lv_iconst (v := 3) hx hb dX8_block_574 (by decide) ?_
                    refine mv_lal Cx hG hH isM_7 3 (rfl) (by decide) dX8_block_575 ?_
                    refine mv_eql (x' := zx (Hh 3)) ((by simp [mJ, m3]; exact hh2 3 (by decide))) ?_
                    refine lv_lload hx hb dX8_block_576 (lv_at hl 7 rfl) ?_
                    refine lv_ladd hx hb dX8_block_578 ?_
                    refine lv_ldc2 hx hb Cx.2.2.2.1 (Cx.2.2.2.2 _ (List.mem_cons_of_mem _ q_k_X8_115)) dX8_block_579 ?_
                    refine lv_land hx hb dX8_block_582 ?_
                    refine mv_eql (x' := zx (Hh 3 + rndN (schN (fun q => mW4 (pF xs) (a + 4 * q)) 48) Hh 64 3)) (zx_add _ _) ?_
                    refine mv_las Cx hG hO hH hS isM_7 3 (rfl) (by decide) dX8_block_583 (fun H locs hH hS => ?_)
                    refine lv_aload_n hx hb dX8_block_584 rfl (lv_at hl 0 rfl) ?_
                    refine g_X8_h Cx hG hH q_fl_X8_19 dX8_block_585 ?_
                    refine lv_iconst (v := 4) hx hb dX8_block_588 (by decide) ?_
                    refine lv_aload_n hx hb dX8_block_589 rfl (lv_at hl 0 rfl) ?_
                    refine g_X8_h Cx hG hH q_fl_X8_19 dX8_block_590 ?_
                    refine lv_iconst (v := 4) hx hb dX8_block_593 (by decide) ?_
                    refine mv_lal Cx hG hH isM_7 4 (rfl) (by decide) dX8_block_594 ?_
                    refine mv_eql (x' := zx (Hh 4)) ((by simp [mJ, m3]; exact hh2 4 (by decide))) ?_
                    refine lv_lload hx hb dX8_block_595 (lv_at hl 8 rfl) ?_
                    refine lv_ladd hx hb dX8_block_597 ?_
                    refine lv_ldc2 hx hb Cx.2.2.2.1 (Cx.2.2.2.2 _ (List.mem_cons_of_mem _ q_k_X8_115)) dX8_block_598 ?_
                    refine lv_land hx hb dX8_block_601 ?_
                    refine mv_eql (x' := zx (Hh 4 + rndN (schN (fun q => mW4 (pF xs) (a + 4 * q)) 48) Hh 64 4)) (zx_add _ _) ?_
                    refine mv_las Cx hG hO hH hS isM_7 4 (rfl) (by decide) dX8_block_602 (fun H locs hH hS => ?_)
                    refine lv_aload_n hx hb dX8_block_603 rfl (lv_at hl 0 rfl) ?_
                    refine g_X8_h Cx hG hH q_fl_X8_19 dX8_block_604 ?_
                    refine lv_iconst (v := 5) hx hb dX8_block_607 (by decide) ?_
                    refine lv_aload_n hx hb dX8_block_608 rfl (lv_at hl 0 rfl) ?_
                    refine g_X8_h Cx hG hH q_fl_X8_19 dX8_block_609 ?_
                    refine lv_iconst (v := 5) hx hb dX8_block_612 (by decide) ?_
                    refine mv_lal Cx hG hH isM_7 5 (rfl) (by decide) dX8_block_613 ?_
                    refine mv_eql (x' := zx (Hh 5)) ((by simp [mJ, m3]; exact hh2 5 (by decide))) ?_
                    refine lv_lload hx hb dX8_block_614 (lv_at hl 9 rfl) ?_
                    refine lv_ladd hx hb dX8_block_616 ?_
                    refine lv_ldc2 hx hb Cx.2.2.2.1 (Cx.2.2.2.2 _ (List.mem_cons_of_mem _ q_k_X8_115)) dX8_block_617 ?_
                    refine lv_land hx hb dX8_block_620 ?_
                    refine mv_eql (x' := zx (Hh 5 + rndN (schN (fun q => mW4 (pF xs) (a + 4 * q)) 48) Hh 64 5)) (zx_add _ _) ?_
                    refine mv_las Cx hG hO hH hS isM_7 5 (rfl) (by decide) dX8_block_621 (fun H locs hH hS => ?_)
                    refine lv_aload_n hx hb dX8_block_622 rfl (lv_at hl 0 rfl) ?_
                    refine g_X8_h Cx hG hH q_fl_X8_19 dX8_block_623 ?_
                    refine lv_bipush (v := 6) hx hb dX8_block_626 (by decide) ?_
                    refine lv_aload_n hx hb dX8_block_628 rfl (lv_at hl 0 rfl) ?_
                    refine g_X8_h Cx hG hH q_fl_X8_19 dX8_block_629 ?_
                    refine lv_bipush (v := 6) hx hb dX8_block_632 (by decide) ?_
                    refine mv_lal Cx hG hH isM_7 6 (rfl) (by decide) dX8_block_634 ?_
                    refine mv_eql (x' := zx (Hh 6)) ((by simp [mJ, m3]; exact hh2 6 (by decide))) ?_
                    refine lv_lload hx hb dX8_block_635 (lv_at hl 10 rfl) ?_
                    refine lv_ladd hx hb dX8_block_637 ?_
                    refine lv_ldc2 hx hb Cx.2.2.2.1 (Cx.2.2.2.2 _ (List.mem_cons_of_mem _ q_k_X8_115)) dX8_block_638 ?_
                    refine lv_land hx hb dX8_block_641 ?_
                    refine mv_eql (x' := zx (Hh 6 + rndN (schN (fun q => mW4 (pF xs) (a + 4 * q)) 48) Hh 64 6)) (zx_add _ _) ?_
                    refine mv_las Cx hG hO hH hS isM_7 6 (rfl) (by decide) dX8_block_642 (fun H locs hH hS => ?_)
                    refine lv_aload_n hx hb dX8_block_643 rfl (lv_at hl 0 rfl) ?_
                    refine g_X8_h Cx hG hH q_fl_X8_19 dX8_block_644 ?_
                    refine lv_bipush (v := 7) hx hb dX8_block_647 (by decide) ?_
                    refine lv_aload_n hx hb dX8_block_649 rfl (lv_at hl 0 rfl) ?_
                    refine g_X8_h Cx hG hH q_fl_X8_19 dX8_block_650 ?_
                    refine lv_bipush (v := 7) hx hb dX8_block_653 (by decide) ?_
                    refine mv_lal Cx hG hH isM_7 7 (rfl) (by decide) dX8_block_655 ?_
                    refine mv_eql (x' := zx (Hh 7)) ((by simp [mJ, m3]; exact hh2 7 (by decide))) ?_
                    refine lv_lload hx hb dX8_block_656 (lv_at hl 11 rfl) ?_
                    refine lv_ladd hx hb dX8_block_658 ?_
                    refine lv_ldc2 hx hb Cx.2.2.2.1 (Cx.2.2.2.2 _ (List.mem_cons_of_mem _ q_k_X8_115)) dX8_block_659 ?_
                    refine lv_land hx hb dX8_block_662 ?_
                    refine mv_eql (x' := zx (Hh 7 + rndN (schN (fun q => mW4 (pF xs) (a + 4 * q)) 48) Hh 64 7)) (zx_add _ _) ?_
                    refine mv_las Cx hG hO hH hS isM_7 7 (rfl) (by decide) dX8_block_663 (fun H locs hH hS => ?_)
                    exact mv_retv Cx hr hH hS (⟨fun q hq => by rcases (show q = 0 ∨ q = 1 ∨ q = 2 ∨ q = 3 ∨ q = 4 ∨ q = 5 ∨ q = 6 ∨ q = 7 by omega) with rfl | rfl | rfl | rfl | rfl | rfl | rfl | rfl <;> simp [mJ, m3, shaBlk], ((((((((hin2.2.wk (fun _ _ h => Or.inr h)).tr (nSame.J (X := fun k _ => k = 7 ∨ k = 8) (Or.inl rfl))).tr (nSame.J (X := fun k _ => k = 7 ∨ k = 8) (Or.inl rfl))).tr (nSame.J (X := fun k _ => k = 7 ∨ k = 8) (Or.inl rfl))).tr (nSame.J (X := fun k _ => k = 7 ∨ k = 8) (Or.inl rfl))).tr (nSame.J (X := fun k _ => k = 7 ∨ k = 8) (Or.inl rfl))).tr (nSame.J (X := fun k _ => k = 7 ∨ k = 8) (Or.inl rfl))).tr (nSame.J (X := fun k _ => k = 7 ∨ k = 8) (Or.inl rfl))).tr (nSame.J (X := fun k _ => k = 7 ∨ k = 8) (Or.inl rfl))⟩) dX8_block_664 hlocks
                  · skip
                    have hr64 : r < 64 := lt_of (a := 64) (by decide) (by omega) h347
                    refine lv_lload hx hb dX8_block_350 (lv_at hl 11 rfl) ?_
                    refine lv_lload hx hb dX8_block_352 (lv_at hl 8 rfl) ?_
                    refine lv_bipush (v := 6) hx hb dX8_block_354 (by decide) ?_
                    refine mv_callS (Y := mLM) (rest := [.long (zx (rndN (schN (fun q => mW4 (pF xs) (a + 4 * q)) 48) Hh r 7))]) Cx hG hH hS (X8_turn_z l E A hO S2 (rndN (schN (fun q => mW4 (pF xs) (a + 4 * q)) 48) Hh r 4) 6 (by decide) (by decide)) q_co_X8_turn q_ml_X8_117 q_st_X8_turn q_in_X8 hd_X8_turn ⟨Nat.le_of_ble_eq_true rfl, Nat.le_of_ble_eq_true rfl⟩ rfl hl.1 rfl (Nat.le_of_ble_eq_true rfl) ⟨Nat.le_of_ble_eq_true rfl, Nat.le_of_ble_eq_true rfl⟩ dX8_block_356 (fun S356 H locs hP356 hH hS => ?_)
                    refine W.eq (g2 := F0 m 359 ls [.long (zx (rot (rndN (schN (fun q => mW4 (pF xs) (a + 4 * q)) 48) Hh r 4) 6)), .long (zx (rndN (schN (fun q => mW4 (pF xs) (a + 4 * q)) 48) Hh r 7))]) rfl ?_
                    have hH := mv_S hP356 hH
                    refine lv_lload hx hb dX8_block_359 (lv_at hl 8 rfl) ?_
                    refine lv_bipush (v := 11) hx hb dX8_block_361 (by decide) ?_
                    refine mv_callS (Y := mLM) (rest := [.long (zx (rot (rndN (schN (fun q => mW4 (pF xs) (a + 4 * q)) 48) Hh r 4) 6)), .long (zx (rndN (schN (fun q => mW4 (pF xs) (a + 4 * q)) 48) Hh r 7))]) Cx hG hH hS (X8_turn_z l E A hO S2 (rndN (schN (fun q => mW4 (pF xs) (a + 4 * q)) 48) Hh r 4) 11 (by decide) (by decide)) q_co_X8_turn q_ml_X8_117 q_st_X8_turn q_in_X8 hd_X8_turn ⟨Nat.le_of_ble_eq_true rfl, Nat.le_of_ble_eq_true rfl⟩ rfl hl.1 rfl (Nat.le_of_ble_eq_true rfl) ⟨Nat.le_of_ble_eq_true rfl, Nat.le_of_ble_eq_true rfl⟩ dX8_block_363 (fun S363 H locs hP363 hH hS => ?_)
                    refine W.eq (g2 := F0 m 366 ls [.long (zx (rot (rndN (schN (fun q => mW4 (pF xs) (a + 4 * q)) 48) Hh r 4) 11)), .long (zx (rot (rndN (schN (fun q => mW4 (pF xs) (a + 4 * q)) 48) Hh r 4) 6)), .long (zx (rndN (schN (fun q => mW4 (pF xs) (a + 4 * q)) 48) Hh r 7))]) rfl ?_
                    have hH := mv_S hP363 hH
                    refine lv_lxor hx hb dX8_block_366 ?_
                    refine lv_lload hx hb dX8_block_367 (lv_at hl 8 rfl) ?_
                    refine lv_bipush (v := 25) hx hb dX8_block_369 (by decide) ?_
                    refine mv_callS (Y := mLM) (rest := [.long ((zx (rot (rndN (schN (fun q => mW4 (pF xs) (a + 4 * q)) 48) Hh r 4) 6)) ^^^ (zx (rot (rndN (schN (fun q => mW4 (pF xs) (a + 4 * q)) 48) Hh r 4) 11))), .long (zx (rndN (schN (fun q => mW4 (pF xs) (a + 4 * q)) 48) Hh r 7))]) Cx hG hH hS (X8_turn_z l E A hO S2 (rndN (schN (fun q => mW4 (pF xs) (a + 4 * q)) 48) Hh r 4) 25 (by decide) (by decide)) q_co_X8_turn q_ml_X8_117 q_st_X8_turn q_in_X8 hd_X8_turn ⟨Nat.le_of_ble_eq_true rfl, Nat.le_of_ble_eq_true rfl⟩ rfl hl.1 rfl (Nat.le_of_ble_eq_true rfl) ⟨Nat.le_of_ble_eq_true rfl, Nat.le_of_ble_eq_true rfl⟩ dX8_block_371 (fun S371 H locs hP371 hH hS => ?_)
                    refine W.eq (g2 := F0 m 374 ls [.long (zx (rot (rndN (schN (fun q => mW4 (pF xs) (a + 4 * q)) 48) Hh r 4) 25)), .long ((zx (rot (rndN (schN (fun q => mW4 (pF xs) (a + 4 * q)) 48) Hh r 4) 6)) ^^^ (zx (rot (rndN (schN (fun q => mW4 (pF xs) (a + 4 * q)) 48) Hh r 4) 11))), .long (zx (rndN (schN (fun q => mW4 (pF xs) (a + 4 * q)) 48) Hh r 7))]) rfl ?_
                    have hH := mv_S hP371 hH
                    refine lv_lxor hx hb dX8_block_374 ?_
                    refine lv_ladd hx hb dX8_block_375 ?_
                    refine lv_lload hx hb dX8_block_376 (lv_at hl 8 rfl) ?_
                    refine lv_lload hx hb dX8_block_378 (lv_at hl 9 rfl) ?_
                    refine lv_land hx hb dX8_block_380 ?_
                    refine lv_ldc2 hx hb Cx.2.2.2.1 (Cx.2.2.2.2 _ (List.mem_cons_of_mem _ q_k_X8_115)) dX8_block_381 ?_
                    refine lv_lload hx hb dX8_block_384 (lv_at hl 8 rfl) ?_
                    refine lv_lsub hx hb dX8_block_386 ?_
                    refine lv_lload hx hb dX8_block_387 (lv_at hl 10 rfl) ?_
                    refine lv_land hx hb dX8_block_389 ?_
                    refine lv_lor hx hb dX8_block_390 ?_
                    refine lv_ladd hx hb dX8_block_391 ?_
                    refine mv_sta Cx hS hZR q_fl_X8_121 dX8_block_392 ?_
                    refine lv_iload hx hb dX8_block_395 (lv_at hl 12 rfl) ?_
                    refine mv_stl Cx hS hTR (by decide) r (rfl) (hr64) dX8_block_397 ?_
                    refine lv_i2l hx hb dX8_block_398 rfl ?_
                    refine lv_ldc2 hx hb Cx.2.2.2.1 (Cx.2.2.2.2 _ (List.mem_cons_of_mem _ q_k_X8_115)) dX8_block_399 ?_
                    refine lv_land hx hb dX8_block_402 ?_
                    refine lv_ladd hx hb dX8_block_403 ?_
                    refine lv_aload_n hx hb dX8_block_404 rfl (lv_at hl 0 rfl) ?_
                    refine g_X8_w Cx hG hH q_fl_X8_23 dX8_block_405 ?_
                    refine lv_iload hx hb dX8_block_408 (lv_at hl 12 rfl) ?_
                    refine mv_lal Cx hG hH isM_8 r (rfl) (hr64) dX8_block_410 ?_
                    refine mv_eql (x' := zx ((schN (fun q => mW4 (pF xs) (a + 4 * q)) 48) r)) (hw64 r (by omega)) ?_
                    refine lv_ladd hx hb dX8_block_411 ?_
                    refine mv_eql (x' := lN (tA (rndN (schN (fun q => mW4 (pF xs) (a + 4 * q)) 48) Hh r) (mK r) ((schN (fun q => mW4 (pF xs) (a + 4 * q)) 48) r))) (zx_T1 _ _ (rndN (schN (fun q => mW4 (pF xs) (a + 4 * q)) 48) Hh r)) ?_
                    refine lv_lstore (lv' := [(21, .long (lN (tA (rndN (schN (fun q => mW4 (pF xs) (a + 4 * q)) 48) Hh r) (mK r) ((schN (fun q => mW4 (pF xs) (a + 4 * q)) 48) r)))), (0, .ref (mAdM E 0 0)), (1, .int (nI a)), (2, .int (nI xs.length)), (3, .int (nI (padL xs).length)), (4, .long (zx (rndN (schN (fun q => mW4 (pF xs) (a + 4 * q)) 48) Hh r 0))), (6, .long (zx (rndN (schN (fun q => mW4 (pF xs) (a + 4 * q)) 48) Hh r 1))), (8, .long (zx (rndN (schN (fun q => mW4 (pF xs) (a + 4 * q)) 48) Hh r 2))), (10, .long (zx (rndN (schN (fun q => mW4 (pF xs) (a + 4 * q)) 48) Hh r 3))), (12, .long (zx (rndN (schN (fun q => mW4 (pF xs) (a + 4 * q)) 48) Hh r 4))), (14, .long (zx (rndN (schN (fun q => mW4 (pF xs) (a + 4 * q)) 48) Hh r 5))), (16, .long (zx (rndN (schN (fun q => mW4 (pF xs) (a + 4 * q)) 48) Hh r 6))), (18, .long (zx (rndN (schN (fun q => mW4 (pF xs) (a + 4 * q)) 48) Hh r 7))), (20, .int (nI r))]) hx hb dX8_block_412 hl (by decide) rfl (fun ls hl => ?_)
                    refine lv_lload hx hb dX8_block_414 (lv_at hl 5 rfl) ?_
                    refine lv_iconst (v := 2) hx hb dX8_block_416 (by decide) ?_
                    refine mv_callS (Y := mLM) (rest := []) Cx hG hH hS (X8_turn_z l E A hO S2 (rndN (schN (fun q => mW4 (pF xs) (a + 4 * q)) 48) Hh r 0) 2 (by decide) (by decide)) q_co_X8_turn q_ml_X8_117 q_st_X8_turn q_in_X8 hd_X8_turn ⟨Nat.le_of_ble_eq_true rfl, Nat.le_of_ble_eq_true rfl⟩ rfl hl.1 rfl (Nat.le_of_ble_eq_true rfl) ⟨Nat.le_of_ble_eq_true rfl, Nat.le_of_ble_eq_true rfl⟩ dX8_block_417 (fun S417 H locs hP417 hH hS => ?_)
                    refine W.eq (g2 := F0 m 420 ls [.long (zx (rot (rndN (schN (fun q => mW4 (pF xs) (a + 4 * q)) 48) Hh r 0) 2))]) rfl ?_
                    have hH := mv_S hP417 hH
                    refine lv_lload hx hb dX8_block_420 (lv_at hl 5 rfl) ?_
                    refine lv_bipush (v := 13) hx hb dX8_block_422 (by decide) ?_
                    refine mv_callS (Y := mLM) (rest := [.long (zx (rot (rndN (schN (fun q => mW4 (pF xs) (a + 4 * q)) 48) Hh r 0) 2))]) Cx hG hH hS (X8_turn_z l E A hO S2 (rndN (schN (fun q => mW4 (pF xs) (a + 4 * q)) 48) Hh r 0) 13 (by decide) (by decide)) q_co_X8_turn q_ml_X8_117 q_st_X8_turn q_in_X8 hd_X8_turn ⟨Nat.le_of_ble_eq_true rfl, Nat.le_of_ble_eq_true rfl⟩ rfl hl.1 rfl (Nat.le_of_ble_eq_true rfl) ⟨Nat.le_of_ble_eq_true rfl, Nat.le_of_ble_eq_true rfl⟩ dX8_block_424 (fun S424 H locs hP424 hH hS => ?_)
                    refine W.eq (g2 := F0 m 427 ls [.long (zx (rot (rndN (schN (fun q => mW4 (pF xs) (a + 4 * q)) 48) Hh r 0) 13)), .long (zx (rot (rndN (schN (fun q => mW4 (pF xs) (a + 4 * q)) 48) Hh r 0) 2))]) rfl ?_
                    have hH := mv_S hP424 hH
                    refine lv_lxor hx hb dX8_block_427 ?_
                    refine lv_lload hx hb dX8_block_428 (lv_at hl 5 rfl) ?_
                    refine lv_bipush (v := 22) hx hb dX8_block_430 (by decide) ?_
                    refine mv_callS (Y := mLM) (rest := [.long ((zx (rot (rndN (schN (fun q => mW4 (pF xs) (a + 4 * q)) 48) Hh r 0) 2)) ^^^ (zx (rot (rndN (schN (fun q => mW4 (pF xs) (a + 4 * q)) 48) Hh r 0) 13)))]) Cx hG hH hS (X8_turn_z l E A hO S2 (rndN (schN (fun q => mW4 (pF xs) (a + 4 * q)) 48) Hh r 0) 22 (by decide) (by decide)) q_co_X8_turn q_ml_X8_117 q_st_X8_turn q_in_X8 hd_X8_turn ⟨Nat.le_of_ble_eq_true rfl, Nat.le_of_ble_eq_true rfl⟩ rfl hl.1 rfl (Nat.le_of_ble_eq_true rfl) ⟨Nat.le_of_ble_eq_true rfl, Nat.le_of_ble_eq_true rfl⟩ dX8_block_432 (fun S432 H locs hP432 hH hS => ?_)
                    refine W.eq (g2 := F0 m 435 ls [.long (zx (rot (rndN (schN (fun q => mW4 (pF xs) (a + 4 * q)) 48) Hh r 0) 22)), .long ((zx (rot (rndN (schN (fun q => mW4 (pF xs) (a + 4 * q)) 48) Hh r 0) 2)) ^^^ (zx (rot (rndN (schN (fun q => mW4 (pF xs) (a + 4 * q)) 48) Hh r 0) 13)))]) rfl ?_
                    have hH := mv_S hP432 hH
                    refine lv_lxor hx hb dX8_block_435 ?_
                    refine lv_lload hx hb dX8_block_436 (lv_at hl 5 rfl) ?_
                    refine lv_lload hx hb dX8_block_438 (lv_at hl 6 rfl) ?_
                    refine lv_land hx hb dX8_block_440 ?_
                    refine lv_lload hx hb dX8_block_441 (lv_at hl 5 rfl) ?_
                    refine lv_lload hx hb dX8_block_443 (lv_at hl 7 rfl) ?_
                    refine lv_land hx hb dX8_block_445 ?_
                    refine lv_lor hx hb dX8_block_446 ?_
                    refine lv_lload hx hb dX8_block_447 (lv_at hl 6 rfl) ?_
                    refine lv_lload hx hb dX8_block_449 (lv_at hl 7 rfl) ?_
                    refine lv_land hx hb dX8_block_451 ?_
                    refine lv_lor hx hb dX8_block_452 ?_
                    refine lv_ladd hx hb dX8_block_453 ?_
                    refine mv_eql (x' := lN (tB (rndN (schN (fun q => mW4 (pF xs) (a + 4 * q)) 48) Hh r))) (zx_T2 (rndN (schN (fun q => mW4 (pF xs) (a + 4 * q)) 48) Hh r)) ?_
                    refine lv_lstore (lv' := [(23, .long (lN (tB (rndN (schN (fun q => mW4 (pF xs) (a + 4 * q)) 48) Hh r)))), (21, .long (lN (tA (rndN (schN (fun q => mW4 (pF xs) (a + 4 * q)) 48) Hh r) (mK r) ((schN (fun q => mW4 (pF xs) (a + 4 * q)) 48) r)))), (0, .ref (mAdM E 0 0)), (1, .int (nI a)), (2, .int (nI xs.length)), (3, .int (nI (padL xs).length)), (4, .long (zx (rndN (schN (fun q => mW4 (pF xs) (a + 4 * q)) 48) Hh r 0))), (6, .long (zx (rndN (schN (fun q => mW4 (pF xs) (a + 4 * q)) 48) Hh r 1))), (8, .long (zx (rndN (schN (fun q => mW4 (pF xs) (a + 4 * q)) 48) Hh r 2))), (10, .long (zx (rndN (schN (fun q => mW4 (pF xs) (a + 4 * q)) 48) Hh r 3))), (12, .long (zx (rndN (schN (fun q => mW4 (pF xs) (a + 4 * q)) 48) Hh r 4))), (14, .long (zx (rndN (schN (fun q => mW4 (pF xs) (a + 4 * q)) 48) Hh r 5))), (16, .long (zx (rndN (schN (fun q => mW4 (pF xs) (a + 4 * q)) 48) Hh r 6))), (18, .long (zx (rndN (schN (fun q => mW4 (pF xs) (a + 4 * q)) 48) Hh r 7))), (20, .int (nI r))]) hx hb dX8_block_454 hl (by decide) rfl (fun ls hl => ?_)
                    refine lv_lload hx hb dX8_block_456 (lv_at hl 12 rfl) ?_
                    refine lv_lstore (lv' := [(18, .long (zx (rndN (schN (fun q => mW4 (pF xs) (a + 4 * q)) 48) Hh r 6))), (23, .long (lN (tB (rndN (schN (fun q => mW4 (pF xs) (a + 4 * q)) 48) Hh r)))), (21, .long (lN (tA (rndN (schN (fun q => mW4 (pF xs) (a + 4 * q)) 48) Hh r) (mK r) ((schN (fun q => mW4 (pF xs) (a + 4 * q)) 48) r)))), (0, .ref (mAdM E 0 0)), (1, .int (nI a)), (2, .int (nI xs.length)), (3, .int (nI (padL xs).length)), (4, .long (zx (rndN (schN (fun q => mW4 (pF xs) (a + 4 * q)) 48) Hh r 0))), (6, .long (zx (rndN (schN (fun q => mW4 (pF xs) (a + 4 * q)) 48) Hh r 1))), (8, .long (zx (rndN (schN (fun q => mW4 (pF xs) (a + 4 * q)) 48) Hh r 2))), (10, .long (zx (rndN (schN (fun q => mW4 (pF xs) (a + 4 * q)) 48) Hh r 3))), (12, .long (zx (rndN (schN (fun q => mW4 (pF xs) (a + 4 * q)) 48) Hh r 4))), (14, .long (zx (rndN (schN (fun q => mW4 (pF xs) (a + 4 * q)) 48) Hh r 5))), (16, .long (zx (rndN (schN (fun q => mW4 (pF xs) (a + 4 * q)) 48) Hh r 6))), (20, .int (nI r))]) hx hb dX8_block_458 hl (by decide) rfl (fun ls hl => ?_)
                    refine lv_lload hx hb dX8_block_460 (lv_at hl 12 rfl) ?_
                    refine lv_lstore (lv' := [(16, .long (zx (rndN (schN (fun q => mW4 (pF xs) (a + 4 * q)) 48) Hh r 5))), (18, .long (zx (rndN (schN (fun q => mW4 (pF xs) (a + 4 * q)) 48) Hh r 6))), (23, .long (lN (tB (rndN (schN (fun q => mW4 (pF xs) (a + 4 * q)) 48) Hh r)))), (21, .long (lN (tA (rndN (schN (fun q => mW4 (pF xs) (a + 4 * q)) 48) Hh r) (mK r) ((schN (fun q => mW4 (pF xs) (a + 4 * q)) 48) r)))), (0, .ref (mAdM E 0 0)), (1, .int (nI a)), (2, .int (nI xs.length)), (3, .int (nI (padL xs).length)), (4, .long (zx (rndN (schN (fun q => mW4 (pF xs) (a + 4 * q)) 48) Hh r 0))), (6, .long (zx (rndN (schN (fun q => mW4 (pF xs) (a + 4 * q)) 48) Hh r 1))), (8, .long (zx (rndN (schN (fun q => mW4 (pF xs) (a + 4 * q)) 48) Hh r 2))), (10, .long (zx (rndN (schN (fun q => mW4 (pF xs) (a + 4 * q)) 48) Hh r 3))), (12, .long (zx (rndN (schN (fun q => mW4 (pF xs) (a + 4 * q)) 48) Hh r 4))), (14, .long (zx (rndN (schN (fun q => mW4 (pF xs) (a + 4 * q)) 48) Hh r 5))), (20, .int (nI r))]) hx hb dX8_block_462 hl (by decide) rfl (fun ls hl => ?_)
                    refine lv_lload hx hb dX8_block_464 (lv_at hl 12 rfl) ?_
                    refine lv_lstore (lv' := [(14, .long (zx (rndN (schN (fun q => mW4 (pF xs) (a + 4 * q)) 48) Hh r 4))), (16, .long (zx (rndN (schN (fun q => mW4 (pF xs) (a + 4 * q)) 48) Hh r 5))), (18, .long (zx (rndN (schN (fun q => mW4 (pF xs) (a + 4 * q)) 48) Hh r 6))), (23, .long (lN (tB (rndN (schN (fun q => mW4 (pF xs) (a + 4 * q)) 48) Hh r)))), (21, .long (lN (tA (rndN (schN (fun q => mW4 (pF xs) (a + 4 * q)) 48) Hh r) (mK r) ((schN (fun q => mW4 (pF xs) (a + 4 * q)) 48) r)))), (0, .ref (mAdM E 0 0)), (1, .int (nI a)), (2, .int (nI xs.length)), (3, .int (nI (padL xs).length)), (4, .long (zx (rndN (schN (fun q => mW4 (pF xs) (a + 4 * q)) 48) Hh r 0))), (6, .long (zx (rndN (schN (fun q => mW4 (pF xs) (a + 4 * q)) 48) Hh r 1))), (8, .long (zx (rndN (schN (fun q => mW4 (pF xs) (a + 4 * q)) 48) Hh r 2))), (10, .long (zx (rndN (schN (fun q => mW4 (pF xs) (a + 4 * q)) 48) Hh r 3))), (12, .long (zx (rndN (schN (fun q => mW4 (pF xs) (a + 4 * q)) 48) Hh r 4))), (20, .int (nI r))]) hx hb dX8_block_466 hl (by decide) rfl (fun ls hl => ?_)
                    refine lv_lload hx hb dX8_block_468 (lv_at hl 12 rfl) ?_
                    refine lv_lload hx hb dX8_block_470 (lv_at hl 4 rfl) ?_
                    refine lv_ladd hx hb dX8_block_472 ?_
                    refine lv_ldc2 hx hb Cx.2.2.2.1 (Cx.2.2.2.2 _ (List.mem_cons_of_mem _ q_k_X8_115)) dX8_block_473 ?_
                    refine lv_land hx hb dX8_block_476 ?_
                    refine mv_eql (x' := zx (rnd (mK r) ((schN (fun q => mW4 (pF xs) (a + 4 * q)) 48) r) (rndN (schN (fun q => mW4 (pF xs) (a + 4 * q)) 48) Hh r) 4)) (zx_r4 _ _ _) ?_
                    refine lv_lstore (lv' := [(12, .long (zx (rnd (mK r) ((schN (fun q => mW4 (pF xs) (a + 4 * q)) 48) r) (rndN (schN (fun q => mW4 (pF xs) (a + 4 * q)) 48) Hh r) 4))), (14, .long (zx (rndN (schN (fun q => mW4 (pF xs) (a + 4 * q)) 48) Hh r 4))), (16, .long (zx (rndN (schN (fun q => mW4 (pF xs) (a + 4 * q)) 48) Hh r 5))), (18, .long (zx (rndN (schN (fun q => mW4 (pF xs) (a + 4 * q)) 48) Hh r 6))), (23, .long (lN (tB (rndN (schN (fun q => mW4 (pF xs) (a + 4 * q)) 48) Hh r)))), (21, .long (lN (tA (rndN (schN (fun q => mW4 (pF xs) (a + 4 * q)) 48) Hh r) (mK r) ((schN (fun q => mW4 (pF xs) (a + 4 * q)) 48) r)))), (0, .ref (mAdM E 0 0)), (1, .int (nI a)), (2, .int (nI xs.length)), (3, .int (nI (padL xs).length)), (4, .long (zx (rndN (schN (fun q => mW4 (pF xs) (a + 4 * q)) 48) Hh r 0))), (6, .long (zx (rndN (schN (fun q => mW4 (pF xs) (a + 4 * q)) 48) Hh r 1))), (8, .long (zx (rndN (schN (fun q => mW4 (pF xs) (a + 4 * q)) 48) Hh r 2))), (10, .long (zx (rndN (schN (fun q => mW4 (pF xs) (a + 4 * q)) 48) Hh r 3))), (20, .int (nI r))]) hx hb dX8_block_477 hl (by decide) rfl (fun ls hl => ?_)
                    refine lv_lload hx hb dX8_block_479 (lv_at hl 12 rfl) ?_
                    refine lv_lstore (lv' := [(10, .long (zx (rndN (schN (fun q => mW4 (pF xs) (a + 4 * q)) 48) Hh r 2))), (12, .long (zx (rnd (mK r) ((schN (fun q => mW4 (pF xs) (a + 4 * q)) 48) r) (rndN (schN (fun q => mW4 (pF xs) (a + 4 * q)) 48) Hh r) 4))), (14, .long (zx (rndN (schN (fun q => mW4 (pF xs) (a + 4 * q)) 48) Hh r 4))), (16, .long (zx (rndN (schN (fun q => mW4 (pF xs) (a + 4 * q)) 48) Hh r 5))), (18, .long (zx (rndN (schN (fun q => mW4 (pF xs) (a + 4 * q)) 48) Hh r 6))), (23, .long (lN (tB (rndN (schN (fun q => mW4 (pF xs) (a + 4 * q)) 48) Hh r)))), (21, .long (lN (tA (rndN (schN (fun q => mW4 (pF xs) (a + 4 * q)) 48) Hh r) (mK r) ((schN (fun q => mW4 (pF xs) (a + 4 * q)) 48) r)))), (0, .ref (mAdM E 0 0)), (1, .int (nI a)), (2, .int (nI xs.length)), (3, .int (nI (padL xs).length)), (4, .long (zx (rndN (schN (fun q => mW4 (pF xs) (a + 4 * q)) 48) Hh r 0))), (6, .long (zx (rndN (schN (fun q => mW4 (pF xs) (a + 4 * q)) 48) Hh r 1))), (8, .long (zx (rndN (schN (fun q => mW4 (pF xs) (a + 4 * q)) 48) Hh r 2))), (20, .int (nI r))]) hx hb dX8_block_481 hl (by decide) rfl (fun ls hl => ?_)
                    refine lv_lload hx hb dX8_block_483 (lv_at hl 12 rfl) ?_
                    refine lv_lstore (lv' := [(8, .long (zx (rndN (schN (fun q => mW4 (pF xs) (a + 4 * q)) 48) Hh r 1))), (10, .long (zx (rndN (schN (fun q => mW4 (pF xs) (a + 4 * q)) 48) Hh r 2))), (12, .long (zx (rnd (mK r) ((schN (fun q => mW4 (pF xs) (a + 4 * q)) 48) r) (rndN (schN (fun q => mW4 (pF xs) (a + 4 * q)) 48) Hh r) 4))), (14, .long (zx (rndN (schN (fun q => mW4 (pF xs) (a + 4 * q)) 48) Hh r 4))), (16, .long (zx (rndN (schN (fun q => mW4 (pF xs) (a + 4 * q)) 48) Hh r 5))), (18, .long (zx (rndN (schN (fun q => mW4 (pF xs) (a + 4 * q)) 48) Hh r 6))), (23, .long (lN (tB (rndN (schN (fun q => mW4 (pF xs) (a + 4 * q)) 48) Hh r)))), (21, .long (lN (tA (rndN (schN (fun q => mW4 (pF xs) (a + 4 * q)) 48) Hh r) (mK r) ((schN (fun q => mW4 (pF xs) (a + 4 * q)) 48) r)))), (0, .ref (mAdM E 0 0)), (1, .int (nI a)), (2, .int (nI xs.length)), (3, .int (nI (padL xs).length)), (4, .long (zx (rndN (schN (fun q => mW4 (pF xs) (a + 4 * q)) 48) Hh r 0))), (6, .long (zx (rndN (schN (fun q => mW4 (pF xs) (a + 4 * q)) 48) Hh r 1))), (20, .int (nI r))]) hx hb dX8_block_485 hl (by decide) rfl (fun ls hl => ?_)
                    refine lv_lload hx hb dX8_block_487 (lv_at hl 12 rfl) ?_
                    refine lv_lstore (lv' := [(6, .long (zx (rndN (schN (fun q => mW4 (pF xs) (a + 4 * q)) 48) Hh r 0))), (8, .long (zx (rndN (schN (fun q => mW4 (pF xs) (a + 4 * q)) 48) Hh r 1))), (10, .long (zx (rndN (schN (fun q => mW4 (pF xs) (a + 4 * q)) 48) Hh r 2))), (12, .long (zx (rnd (mK r) ((schN (fun q => mW4 (pF xs) (a + 4 * q)) 48) r) (rndN (schN (fun q => mW4 (pF xs) (a + 4 * q)) 48) Hh r) 4))), (14, .long (zx (rndN (schN (fun q => mW4 (pF xs) (a + 4 * q)) 48) Hh r 4))), (16, .long (zx (rndN (schN (fun q => mW4 (pF xs) (a + 4 * q)) 48) Hh r 5))), (18, .long (zx (rndN (schN (fun q => mW4 (pF xs) (a + 4 * q)) 48) Hh r 6))), (23, .long (lN (tB (rndN (schN (fun q => mW4 (pF xs) (a + 4 * q)) 48) Hh r)))), (21, .long (lN (tA (rndN (schN (fun q => mW4 (pF xs) (a + 4 * q)) 48) Hh r) (mK r) ((schN (fun q => mW4 (pF xs) (a + 4 * q)) 48) r)))), (0, .ref (mAdM E 0 0)), (1, .int (nI a)), (2, .int (nI xs.length)), (3, .int (nI (padL xs).length)), (4, .long (zx (rndN (schN (fun q => mW4 (pF xs) (a + 4 * q)) 48) Hh r 0))), (20, .int (nI r))]) hx hb dX8_block_489 hl (by decide) rfl (fun ls hl => ?_)
                    refine lv_lload hx hb dX8_block_491 (lv_at hl 8 rfl) ?_
                    refine lv_lload hx hb dX8_block_493 (lv_at hl 7 rfl) ?_
                    refine lv_ladd hx hb dX8_block_495 ?_
                    refine lv_ldc2 hx hb Cx.2.2.2.1 (Cx.2.2.2.2 _ (List.mem_cons_of_mem _ q_k_X8_115)) dX8_block_496 ?_
                    refine lv_land hx hb dX8_block_499 ?_
                    refine mv_eql (x' := zx (rnd (mK r) ((schN (fun q => mW4 (pF xs) (a + 4 * q)) 48) r) (rndN (schN (fun q => mW4 (pF xs) (a + 4 * q)) 48) Hh r) 0)) (zx_r0 _ _ _) ?_
                    refine lv_lstore (lv' := [(4, .long (zx (rnd (mK r) ((schN (fun q => mW4 (pF xs) (a + 4 * q)) 48) r) (rndN (schN (fun q => mW4 (pF xs) (a + 4 * q)) 48) Hh r) 0))), (6, .long (zx (rndN (schN (fun q => mW4 (pF xs) (a + 4 * q)) 48) Hh r 0))), (8, .long (zx (rndN (schN (fun q => mW4 (pF xs) (a + 4 * q)) 48) Hh r 1))), (10, .long (zx (rndN (schN (fun q => mW4 (pF xs) (a + 4 * q)) 48) Hh r 2))), (12, .long (zx (rnd (mK r) ((schN (fun q => mW4 (pF xs) (a + 4 * q)) 48) r) (rndN (schN (fun q => mW4 (pF xs) (a + 4 * q)) 48) Hh r) 4))), (14, .long (zx (rndN (schN (fun q => mW4 (pF xs) (a + 4 * q)) 48) Hh r 4))), (16, .long (zx (rndN (schN (fun q => mW4 (pF xs) (a + 4 * q)) 48) Hh r 5))), (18, .long (zx (rndN (schN (fun q => mW4 (pF xs) (a + 4 * q)) 48) Hh r 6))), (23, .long (lN (tB (rndN (schN (fun q => mW4 (pF xs) (a + 4 * q)) 48) Hh r)))), (21, .long (lN (tA (rndN (schN (fun q => mW4 (pF xs) (a + 4 * q)) 48) Hh r) (mK r) ((schN (fun q => mW4 (pF xs) (a + 4 * q)) 48) r)))), (0, .ref (mAdM E 0 0)), (1, .int (nI a)), (2, .int (nI xs.length)), (3, .int (nI (padL xs).length)), (20, .int (nI r))]) hx hb dX8_block_500 hl (by decide) rfl (fun ls hl => ?_)
                    refine lv_iinc (v := nI (r + 1)) (lv' := [(20, .int (nI (r + 1))), (4, .long (zx (rnd (mK r) ((schN (fun q => mW4 (pF xs) (a + 4 * q)) 48) r) (rndN (schN (fun q => mW4 (pF xs) (a + 4 * q)) 48) Hh r) 0))), (6, .long (zx (rndN (schN (fun q => mW4 (pF xs) (a + 4 * q)) 48) Hh r 0))), (8, .long (zx (rndN (schN (fun q => mW4 (pF xs) (a + 4 * q)) 48) Hh r 1))), (10, .long (zx (rndN (schN (fun q => mW4 (pF xs) (a + 4 * q)) 48) Hh r 2))), (12, .long (zx (rnd (mK r) ((schN (fun q => mW4 (pF xs) (a + 4 * q)) 48) r) (rndN (schN (fun q => mW4 (pF xs) (a + 4 * q)) 48) Hh r) 4))), (14, .long (zx (rndN (schN (fun q => mW4 (pF xs) (a + 4 * q)) 48) Hh r 4))), (16, .long (zx (rndN (schN (fun q => mW4 (pF xs) (a + 4 * q)) 48) Hh r 5))), (18, .long (zx (rndN (schN (fun q => mW4 (pF xs) (a + 4 * q)) 48) Hh r 6))), (23, .long (lN (tB (rndN (schN (fun q => mW4 (pF xs) (a + 4 * q)) 48) Hh r)))), (21, .long (lN (tA (rndN (schN (fun q => mW4 (pF xs) (a + 4 * q)) 48) Hh r) (mK r) ((schN (fun q => mW4 (pF xs) (a + 4 * q)) 48) r)))), (0, .ref (mAdM E 0 0)), (1, .int (nI a)), (2, .int (nI xs.length)), (3, .int (nI (padL xs).length))]) hx hb dX8_block_502 hl (k := 14) rfl (i2_1 r) (by decide) rfl (fun ls hl => ?_)
                    refine lv_goto (tgt := 343) hx hb dX8_block_505 (by decide) ?_
                    exact ih4 (r + 1) S2 _ _ ls  (by omega) (by omega) (rfl) hH hS (lv_sub hl [11, 12, 13, 14, 1, 2, 3, 4, 5, 6, 7, 8, 0] rfl)
              exact lp3 (64 - 0 + 1) 0 S2 _ _ ls  (by omega) (by omega) (rfl) hH hS (lv_sub hl [9, 10, 11, 12, 8, 7, 6, 5, 4, 3, 2, 1, 0] rfl)
            · skip
              have ht48 : t < 48 := by have := lt_of (a := 64) (by decide) (by omega) h137; omega
              refine lv_aload_n hx hb dX8_block_140 rfl (lv_at hl 0 rfl) ?_
              refine g_X8_w Cx hG hH q_fl_X8_23 dX8_block_141 ?_
              refine lv_iload hx hb dX8_block_144 (lv_at hl 4 rfl) ?_
              refine lv_bipush (v := 15) hx hb dX8_block_146 (by decide) ?_
              refine lv_isub hx hb dX8_block_148 ?_
              refine mv_eqi (x' := nI (16 + t - 15)) (pk_sub (a := 16 + t) (b := 15) (by omega)) ?_
              refine mv_lal Cx hG hH isM_8 (16 + t - 15) (rfl) (by omega) dX8_block_149 ?_
              refine mv_eql (x' := zx (schN (fun q => mW4 (pF xs) (a + 4 * q)) t (16 + t - 15))) (hin2.1 _ (by omega)) ?_
              refine lv_bipush (v := 7) hx hb dX8_block_150 (by decide) ?_
              refine mv_callS (Y := mLM) (rest := []) Cx hG hH hS (X8_turn_z l E A hO S2 (schN (fun q => mW4 (pF xs) (a + 4 * q)) t (16 + t - 15)) 7 (by decide) (by decide)) q_co_X8_turn q_ml_X8_117 q_st_X8_turn q_in_X8 hd_X8_turn ⟨Nat.le_of_ble_eq_true rfl, Nat.le_of_ble_eq_true rfl⟩ rfl hl.1 rfl (Nat.le_of_ble_eq_true rfl) ⟨Nat.le_of_ble_eq_true rfl, Nat.le_of_ble_eq_true rfl⟩ dX8_block_152 (fun S152 H locs hP152 hH hS => ?_)
              refine W.eq (g2 := F0 m 155 ls [.long (zx (rot (schN (fun q => mW4 (pF xs) (a + 4 * q)) t (16 + t - 15)) 7))]) rfl ?_
              have hH := mv_S hP152 hH
              refine lv_aload_n hx hb dX8_block_155 rfl (lv_at hl 0 rfl) ?_
              refine g_X8_w Cx hG hH q_fl_X8_23 dX8_block_156 ?_
              refine lv_iload hx hb dX8_block_159 (lv_at hl 4 rfl) ?_
              refine lv_bipush (v := 15) hx hb dX8_block_161 (by decide) ?_
              refine lv_isub hx hb dX8_block_163 ?_
              refine mv_eqi (x' := nI (16 + t - 15)) (pk_sub (a := 16 + t) (b := 15) (by omega)) ?_
              refine mv_lal Cx hG hH isM_8 (16 + t - 15) (rfl) (by omega) dX8_block_164 ?_
              refine mv_eql (x' := zx (schN (fun q => mW4 (pF xs) (a + 4 * q)) t (16 + t - 15))) (hin2.1 _ (by omega)) ?_
              refine lv_bipush (v := 18) hx hb dX8_block_165 (by decide) ?_
              refine mv_callS (Y := mLM) (rest := [.long (zx (rot (schN (fun q => mW4 (pF xs) (a + 4 * q)) t (16 + t - 15)) 7))]) Cx hG hH hS (X8_turn_z l E A hO S2 (schN (fun q => mW4 (pF xs) (a + 4 * q)) t (16 + t - 15)) 18 (by decide) (by decide)) q_co_X8_turn q_ml_X8_117 q_st_X8_turn q_in_X8 hd_X8_turn ⟨Nat.le_of_ble_eq_true rfl, Nat.le_of_ble_eq_true rfl⟩ rfl hl.1 rfl (Nat.le_of_ble_eq_true rfl) ⟨Nat.le_of_ble_eq_true rfl, Nat.le_of_ble_eq_true rfl⟩ dX8_block_167 (fun S167 H locs hP167 hH hS => ?_)
              refine W.eq (g2 := F0 m 170 ls [.long (zx (rot (schN (fun q => mW4 (pF xs) (a + 4 * q)) t (16 + t - 15)) 18)), .long (zx (rot (schN (fun q => mW4 (pF xs) (a + 4 * q)) t (16 + t - 15)) 7))]) rfl ?_
              have hH := mv_S hP167 hH
              refine lv_lxor hx hb dX8_block_170 ?_
              refine lv_aload_n hx hb dX8_block_171 rfl (lv_at hl 0 rfl) ?_
              refine g_X8_w Cx hG hH q_fl_X8_23 dX8_block_172 ?_
              refine lv_iload hx hb dX8_block_175 (lv_at hl 4 rfl) ?_
              refine lv_bipush (v := 15) hx hb dX8_block_177 (by decide) ?_
              refine lv_isub hx hb dX8_block_179 ?_
              refine mv_eqi (x' := nI (16 + t - 15)) (pk_sub (a := 16 + t) (b := 15) (by omega)) ?_
              refine mv_lal Cx hG hH isM_8 (16 + t - 15) (rfl) (by omega) dX8_block_180 ?_
              refine mv_eql (x' := zx (schN (fun q => mW4 (pF xs) (a + 4 * q)) t (16 + t - 15))) (hin2.1 _ (by omega)) ?_
              refine lv_iconst (v := 3) hx hb dX8_block_181 (by decide) ?_
              refine lv_lshr hx hb dX8_block_182 rfl ?_
              refine lv_lxor hx hb dX8_block_183 ?_
              refine lv_lstore (lv' := [(5, .long (((zx (rot (schN (fun q => mW4 (pF xs) (a + 4 * q)) t (16 + t - 15)) 7)) ^^^ (zx (rot (schN (fun q => mW4 (pF xs) (a + 4 * q)) t (16 + t - 15)) 18))) ^^^ ((zx (schN (fun q => mW4 (pF xs) (a + 4 * q)) t (16 + t - 15))) >>> ((3 : Int32).toInt64 &&& 63)))), (0, .ref (mAdM E 0 0)), (1, .int (nI a)), (2, .int (nI xs.length)), (3, .int (nI (padL xs).length)), (4, .int (nI (16 + t)))]) hx hb dX8_block_184 hl (by decide) rfl (fun ls hl => ?_)
              refine lv_aload_n hx hb dX8_block_186 rfl (lv_at hl 1 rfl) ?_
              refine g_X8_w Cx hG hH q_fl_X8_23 dX8_block_187 ?_
              refine lv_iload hx hb dX8_block_190 (lv_at hl 5 rfl) ?_
              refine lv_iconst (v := 2) hx hb dX8_block_192 (by decide) ?_
              refine lv_isub hx hb dX8_block_193 ?_
              refine mv_eqi (x' := nI (16 + t - 2)) (pk_sub (a := 16 + t) (b := 2) (by omega)) ?_
              refine mv_lal Cx hG hH isM_8 (16 + t - 2) (rfl) (by omega) dX8_block_194 ?_
              refine mv_eql (x' := zx (schN (fun q => mW4 (pF xs) (a + 4 * q)) t (16 + t - 2))) (hin2.1 _ (by omega)) ?_
              refine lv_bipush (v := 17) hx hb dX8_block_195 (by decide) ?_
              refine mv_callS (Y := mLM) (rest := []) Cx hG hH hS (X8_turn_z l E A hO S2 (schN (fun q => mW4 (pF xs) (a + 4 * q)) t (16 + t - 2)) 17 (by decide) (by decide)) q_co_X8_turn q_ml_X8_117 q_st_X8_turn q_in_X8 hd_X8_turn ⟨Nat.le_of_ble_eq_true rfl, Nat.le_of_ble_eq_true rfl⟩ rfl hl.1 rfl (Nat.le_of_ble_eq_true rfl) ⟨Nat.le_of_ble_eq_true rfl, Nat.le_of_ble_eq_true rfl⟩ dX8_block_197 (fun S197 H locs hP197 hH hS => ?_)
              refine W.eq (g2 := F0 m 200 ls [.long (zx (rot (schN (fun q => mW4 (pF xs) (a + 4 * q)) t (16 + t - 2)) 17))]) rfl ?_
              have hH := mv_S hP197 hH
              refine lv_aload_n hx hb dX8_block_200 rfl (lv_at hl 1 rfl) ?_
              refine g_X8_w Cx hG hH q_fl_X8_23 dX8_block_201 ?_
              refine lv_iload hx hb dX8_block_204 (lv_at hl 5 rfl) ?_
              refine lv_iconst (v := 2) hx hb dX8_block_206 (by decide) ?_
              refine lv_isub hx hb dX8_block_207 ?_
              refine mv_eqi (x' := nI (16 + t - 2)) (pk_sub (a := 16 + t) (b := 2) (by omega)) ?_
              refine mv_lal Cx hG hH isM_8 (16 + t - 2) (rfl) (by omega) dX8_block_208 ?_
              refine mv_eql (x' := zx (schN (fun q => mW4 (pF xs) (a + 4 * q)) t (16 + t - 2))) (hin2.1 _ (by omega)) ?_
              refine lv_bipush (v := 19) hx hb dX8_block_209 (by decide) ?_
              refine mv_callS (Y := mLM) (rest := [.long (zx (rot (schN (fun q => mW4 (pF xs) (a + 4 * q)) t (16 + t - 2)) 17))]) Cx hG hH hS (X8_turn_z l E A hO S2 (schN (fun q => mW4 (pF xs) (a + 4 * q)) t (16 + t - 2)) 19 (by decide) (by decide)) q_co_X8_turn q_ml_X8_117 q_st_X8_turn q_in_X8 hd_X8_turn ⟨Nat.le_of_ble_eq_true rfl, Nat.le_of_ble_eq_true rfl⟩ rfl hl.1 rfl (Nat.le_of_ble_eq_true rfl) ⟨Nat.le_of_ble_eq_true rfl, Nat.le_of_ble_eq_true rfl⟩ dX8_block_211 (fun S211 H locs hP211 hH hS => ?_)
              refine W.eq (g2 := F0 m 214 ls [.long (zx (rot (schN (fun q => mW4 (pF xs) (a + 4 * q)) t (16 + t - 2)) 19)), .long (zx (rot (schN (fun q => mW4 (pF xs) (a + 4 * q)) t (16 + t - 2)) 17))]) rfl ?_
              have hH := mv_S hP211 hH
              refine lv_lxor hx hb dX8_block_214 ?_
              refine lv_aload_n hx hb dX8_block_215 rfl (lv_at hl 1 rfl) ?_
              refine g_X8_w Cx hG hH q_fl_X8_23 dX8_block_216 ?_
              refine lv_iload hx hb dX8_block_219 (lv_at hl 5 rfl) ?_
              refine lv_iconst (v := 2) hx hb dX8_block_221 (by decide) ?_
              refine lv_isub hx hb dX8_block_222 ?_
              refine mv_eqi (x' := nI (16 + t - 2)) (pk_sub (a := 16 + t) (b := 2) (by omega)) ?_
              refine mv_lal Cx hG hH isM_8 (16 + t - 2) (rfl) (by omega) dX8_block_223 ?_
              refine mv_eql (x' := zx (schN (fun q => mW4 (pF xs) (a + 4 * q)) t (16 + t - 2))) (hin2.1 _ (by omega)) ?_
              refine lv_bipush (v := 10) hx hb dX8_block_224 (by decide) ?_
              refine lv_lshr hx hb dX8_block_226 rfl ?_
              refine lv_lxor hx hb dX8_block_227 ?_
              refine lv_lstore (lv' := [(7, .long (((zx (rot (schN (fun q => mW4 (pF xs) (a + 4 * q)) t (16 + t - 2)) 17)) ^^^ (zx (rot (schN (fun q => mW4 (pF xs) (a + 4 * q)) t (16 + t - 2)) 19))) ^^^ ((zx (schN (fun q => mW4 (pF xs) (a + 4 * q)) t (16 + t - 2))) >>> ((10 : Int32).toInt64 &&& 63)))), (5, .long (((zx (rot (schN (fun q => mW4 (pF xs) (a + 4 * q)) t (16 + t - 15)) 7)) ^^^ (zx (rot (schN (fun q => mW4 (pF xs) (a + 4 * q)) t (16 + t - 15)) 18))) ^^^ ((zx (schN (fun q => mW4 (pF xs) (a + 4 * q)) t (16 + t - 15))) >>> ((3 : Int32).toInt64 &&& 63)))), (0, .ref (mAdM E 0 0)), (1, .int (nI a)), (2, .int (nI xs.length)), (3, .int (nI (padL xs).length)), (4, .int (nI (16 + t)))]) hx hb dX8_block_228 hl (by decide) rfl (fun ls hl => ?_)
              refine lv_aload_n hx hb dX8_block_230 rfl (lv_at hl 2 rfl) ?_
              refine g_X8_w Cx hG hH q_fl_X8_23 dX8_block_231 ?_
              refine lv_iload hx hb dX8_block_234 (lv_at hl 6 rfl) ?_
              refine lv_aload_n hx hb dX8_block_236 rfl (lv_at hl 2 rfl) ?_
              refine g_X8_w Cx hG hH q_fl_X8_23 dX8_block_237 ?_
              refine lv_iload hx hb dX8_block_240 (lv_at hl 6 rfl) ?_
              refine lv_bipush (v := 16) hx hb dX8_block_242 (by decide) ?_
              refine lv_isub hx hb dX8_block_244 ?_
              refine mv_eqi (x' := nI (16 + t - 16)) (pk_sub (a := 16 + t) (b := 16) (by omega)) ?_
              refine mv_lal Cx hG hH isM_8 (16 + t - 16) (rfl) (by omega) dX8_block_245 ?_
              refine mv_eql (x' := zx (schN (fun q => mW4 (pF xs) (a + 4 * q)) t (16 + t - 16))) (hin2.1 _ (by omega)) ?_
              refine lv_lload hx hb dX8_block_246 (lv_at hl 1 rfl) ?_
              refine lv_ladd hx hb dX8_block_248 ?_
              refine lv_aload_n hx hb dX8_block_249 rfl (lv_at hl 2 rfl) ?_
              refine g_X8_w Cx hG hH q_fl_X8_23 dX8_block_250 ?_
              refine lv_iload hx hb dX8_block_253 (lv_at hl 6 rfl) ?_
              refine lv_bipush (v := 7) hx hb dX8_block_255 (by decide) ?_
              refine lv_isub hx hb dX8_block_257 ?_
              refine mv_eqi (x' := nI (16 + t - 7)) (pk_sub (a := 16 + t) (b := 7) (by omega)) ?_
              refine mv_lal Cx hG hH isM_8 (16 + t - 7) (rfl) (by omega) dX8_block_258 ?_
              refine mv_eql (x' := zx (schN (fun q => mW4 (pF xs) (a + 4 * q)) t (16 + t - 7))) (hin2.1 _ (by omega)) ?_
              refine lv_ladd hx hb dX8_block_259 ?_
              refine lv_lload hx hb dX8_block_260 (lv_at hl 0 rfl) ?_
              refine lv_ladd hx hb dX8_block_262 ?_
              refine lv_ldc2 hx hb Cx.2.2.2.1 (Cx.2.2.2.2 _ (List.mem_cons_of_mem _ q_k_X8_115)) dX8_block_263 ?_
              refine lv_land hx hb dX8_block_266 ?_
              refine mv_eql (x' := zx (schV (schN (fun q => mW4 (pF xs) (a + 4 * q)) t) (16 + t))) (zx_schV _ _) ?_
              refine mv_las Cx hG hO hH hS isM_8 (16 + t) (rfl) (by omega) dX8_block_267 (fun H locs hH hS => ?_)
              refine lv_iinc (v := nI (16 + (t + 1))) (lv' := [(4, .int (nI (16 + (t + 1)))), (7, .long (((zx (rot (schN (fun q => mW4 (pF xs) (a + 4 * q)) t (16 + t - 2)) 17)) ^^^ (zx (rot (schN (fun q => mW4 (pF xs) (a + 4 * q)) t (16 + t - 2)) 19))) ^^^ ((zx (schN (fun q => mW4 (pF xs) (a + 4 * q)) t (16 + t - 2))) >>> ((10 : Int32).toInt64 &&& 63)))), (5, .long (((zx (rot (schN (fun q => mW4 (pF xs) (a + 4 * q)) t (16 + t - 15)) 7)) ^^^ (zx (rot (schN (fun q => mW4 (pF xs) (a + 4 * q)) t (16 + t - 15)) 18))) ^^^ ((zx (schN (fun q => mW4 (pF xs) (a + 4 * q)) t (16 + t - 15))) >>> ((3 : Int32).toInt64 &&& 63)))), (0, .ref (mAdM E 0 0)), (1, .int (nI a)), (2, .int (nI xs.length)), (3, .int (nI (padL xs).length))]) hx hb dX8_block_268 hl (k := 6) rfl (i2_1 (16 + t)) (by decide) rfl (fun ls hl => ?_)
              refine lv_goto (tgt := 133) hx hb dX8_block_271 (by decide) ?_
              exact ih3 (t + 1) (mJ S2 8 0 (16 + t) (zx (schV (schN (fun q => mW4 (pF xs) (a + 4 * q)) t) (16 + t)))) _ _ ls  (by omega) (by omega) (by
                              refine ⟨fun q hq => ?_, hin2.2.tr (nSame.J rfl)⟩
                              show _ = zx (va_up (schN (fun q => mW4 (pF xs) (a + 4 * q)) t) (16 + t) (schV (schN (fun q => mW4 (pF xs) (a + 4 * q)) t) (16 + t)) q)
                              by_cases e : q = 16 + t
                              · subst e
                                rw [va_up_self]
                                simp [mJ, m3]
                              · rw [va_up_ne _ _ e]
                                exact (show m3 S2.2.2 8 0 (16 + t) _ 8 0 q = _ from m3_n _ _ (by omega)).trans (hin2.1 q (by omega))) hH hS (lv_sub hl [3, 4, 5, 6, 0] rfl)
        exact lp2 (48 - 0 + 1) 0 S1 _ _ ls  (by omega) (by omega) (by rw [hj16] at hinv; exact hinv) hH hS (lv_sub hl [1, 2, 3, 4, 0] rfl)
      · skip
        have hj16 : j < 16 := lt_of (a := 16) (by decide) (by omega) h7
        refine lv_lconst (v := 0) hx hb dX8_block_10 (by decide) ?_
        refine lv_lstore (lv' := [(5, .long 0), (0, .ref (mAdM E 0 0)), (1, .int (nI a)), (2, .int (nI xs.length)), (3, .int (nI (padL xs).length)), (4, .int (nI j))]) hx hb dX8_block_11 hl (by decide) rfl (fun ls hl => ?_)
        refine lv_iconst (v := 0) hx hb dX8_block_13 (by decide) ?_
        refine mv_eqi (x' := nI 0) (rfl) ?_
        refine lv_istore (lv' := [(7, .int (nI 0)), (5, .long 0), (0, .ref (mAdM E 0 0)), (1, .int (nI a)), (2, .int (nI xs.length)), (3, .int (nI (padL xs).length)), (4, .int (nI j))]) hx hb dX8_block_14 hl (by decide) rfl (fun ls hl => ?_)
        have lp1 : ∀ (fu i : Nat) (Si : mSt) (H : Heap) (locs : List Loc) (ls : Array Slot) , 4 - i < fu → i ≤ 4 → (Si = S1) → mHold mLM E Si H → va_S A s.heap H locs → lv_has ls 25 [(0, .ref (mAdM E 0 0)), (1, .int (nI a)), (2, .int (nI xs.length)), (3, .int (nI (padL xs).length)), (4, .int (nI j)), (5, .long (lN (wv (pF xs) (a + 4 * j) i))), (7, .int (nI i))] → W p l e (headSpec (Cond.code yX8_block cX8_block 25 none :: mv_ws) (mRm 1 22)).room s m ([.ref (mAdM E 0 0), .int (nI a), .int (nI xs.length), .int (nI (padL xs).length)] : List Value).toArray below meth c H locs 0 0 (MQ below (mQ mLM E A (fun S' => (∀ q, q < 8 → S'.2.2 7 0 q = zx (shaBlk (pF xs) Hh a q)) ∧ nSame (fun k _ => k = 7 ∨ k = 8) S S') none) ([.ref (mAdM E 0 0), .int (nI a), .int (nI xs.length), .int (nI (padL xs).length)] : List Value).toArray s 0 0 A) (F0 m 16 ls []) := by
          intro fu
          induction fu with
          | zero => intro i Si H locs ls  hn1 hi hin1 hH hS hl; omega
          | succ fu ih2 =>
            intro i Si H locs ls  hn1 hi hin1 hH hS hl
            have hH := mv_S hin1 hH
            refine lv_iload hx hb dX8_block_16 (lv_at hl 6 rfl) ?_
            refine lv_iconst (v := 4) hx hb dX8_block_18 (by decide) ?_
            refine lv_icmp_ge (tgt := 114) hx hb dX8_block_19 (by decide) (fun h19 => ?_) (fun h19 => ?_)
            · skip
              have hi4 : i = 4 := by have := ge_of (a := 4) (by decide) (by omega) h19; omega
              refine lv_aload_n hx hb dX8_block_114 rfl (lv_at hl 0 rfl) ?_
              refine g_X8_w Cx hG hH q_fl_X8_23 dX8_block_115 ?_
              refine lv_iload hx hb dX8_block_118 (lv_at hl 4 rfl) ?_
              refine lv_lload hx hb dX8_block_120 (lv_at hl 5 rfl) ?_
              refine mv_las Cx hG hO hH hS isM_8 j (rfl) (by omega) dX8_block_122 (fun H locs hH hS => ?_)
              refine lv_iinc (v := nI (j + 1)) (lv' := [(4, .int (nI (j + 1))), (0, .ref (mAdM E 0 0)), (1, .int (nI a)), (2, .int (nI xs.length)), (3, .int (nI (padL xs).length)), (5, .long (lN (wv (pF xs) (a + 4 * j) i))), (7, .int (nI i))]) hx hb dX8_block_123 hl (k := 4) rfl (i2_1 j) (by decide) rfl (fun ls hl => ?_)
              refine lv_goto (tgt := 3) hx hb dX8_block_126 (by decide) ?_
              exact ih1 (j + 1) (mJ S1 8 0 j (lN (wv (pF xs) (a + 4 * j) i))) _ _ ls  (by omega) (by omega) (by
                              refine ⟨fun q hq => ?_, hinv.2.tr (nSame.J rfl)⟩
                              by_cases e : q = j
                              · subst e
                                refine (show m3 S1.2.2 8 0 q (lN (wv (pF xs) (a + 4 * q) i)) 8 0 q = lN (wv (pF xs) (a + 4 * q) i) by simp [m3]).trans ?_
                                rw [hi4]
                                exact wv_4 _ _
                              · exact (show m3 S1.2.2 8 0 j _ 8 0 q = _ from m3_n _ _ (by omega)).trans (hinv.1 q (by omega))) hH hS (lv_sub hl [1, 2, 3, 4, 0] rfl)
            · skip
              have hi4 : i < 4 := lt_of (a := 4) (by decide) (by omega) h19
              refine lv_iload_n hx hb dX8_block_22 rfl (lv_at hl 1 rfl) ?_
              refine lv_iconst (v := 4) hx hb dX8_block_23 (by decide) ?_
              refine lv_iload hx hb dX8_block_24 (lv_at hl 4 rfl) ?_
              refine lv_imul hx hb dX8_block_26 ?_
              refine lv_iadd hx hb dX8_block_27 ?_
              refine mv_eqi (x' := nI (a + 4 * j)) (by rw [show (4 : Int32) = nI 4 from rfl, pk_mul, nI_add]) ?_
              refine lv_iload hx hb dX8_block_28 (lv_at hl 6 rfl) ?_
              refine lv_iadd hx hb dX8_block_30 ?_
              refine mv_eqi (x' := nI (a + 4 * j + i)) (nI_add _ _) ?_
              refine lv_istore (lv' := [(8, .int (nI (a + 4 * j + i))), (0, .ref (mAdM E 0 0)), (1, .int (nI a)), (2, .int (nI xs.length)), (3, .int (nI (padL xs).length)), (4, .int (nI j)), (5, .long (lN (wv (pF xs) (a + 4 * j) i))), (7, .int (nI i))]) hx hb dX8_block_31 hl (by decide) rfl (fun ls hl => ?_)
              refine lv_iload hx hb dX8_block_33 (lv_at hl 0 rfl) ?_
              refine lv_iload_n hx hb dX8_block_35 rfl (lv_at hl 3 rfl) ?_
              refine lv_icmp_ge (tgt := 53) hx hb dX8_block_36 (by decide) (fun h36 => ?_) (fun h36 => ?_)
              · skip
                have hlo := ge_of (a := xs.length) (b := (a + 4 * j + i)) (by omega) (by omega) h36
                refine lv_iload hx hb dX8_block_53 (lv_at hl 0 rfl) ?_
                refine lv_iload_n hx hb dX8_block_55 rfl (lv_at hl 3 rfl) ?_
                refine lv_icmp_ne (tgt := 65) hx hb dX8_block_56 (by decide) (fun h56 => ?_) (fun h56 => ?_)
                · skip
                  have hpe : ¬ (a + 4 * j + i) = xs.length := fun q => h56 (by rw [q])
                  refine lv_iload hx hb dX8_block_65 (lv_at hl 0 rfl) ?_
                  refine lv_iload_n hx hb dX8_block_67 rfl (lv_at hl 4 rfl) ?_
                  refine lv_iconst (v := 4) hx hb dX8_block_68 (by decide) ?_
                  refine lv_isub hx hb dX8_block_69 ?_
                  refine mv_eqi (x' := nI ((padL xs).length - 4)) (pk_sub (a := (padL xs).length) (b := 4) (by omega)) ?_
                  refine lv_icmp_lt (tgt := 94) hx hb dX8_block_70 (by decide) (fun h70 => ?_) (fun h70 => ?_)
                  · skip
                    have hlt := (nI_ltI (a := (a + 4 * j + i)) (b := (padL xs).length - 4) (by omega) (by omega)).mp h70
                    refine lv_iconst (v := 0) hx hb dX8_block_94 (by decide) ?_
                    refine mv_eqi (x' := nI (bN (pF xs (a + 4 * j + i)))) (pad_mid (by omega) (by omega)) ?_
                    refine lv_istore (lv' := [(9, .int (nI (bN (pF xs (a + 4 * j + i))))), (8, .int (nI (a + 4 * j + i))), (0, .ref (mAdM E 0 0)), (1, .int (nI a)), (2, .int (nI xs.length)), (3, .int (nI (padL xs).length)), (4, .int (nI j)), (5, .long (lN (wv (pF xs) (a + 4 * j) i))), (7, .int (nI i))]) hx hb dX8_block_95 hl (by decide) rfl (fun ls hl => ?_)
                    refine lv_lload hx hb dX8_block_97 (lv_at hl 7 rfl) ?_
                    refine lv_bipush (v := 8) hx hb dX8_block_99 (by decide) ?_
                    refine lv_lshl hx hb dX8_block_101 rfl ?_
                    refine lv_iload hx hb dX8_block_102 (lv_at hl 0 rfl) ?_
                    refine lv_i2l hx hb dX8_block_104 rfl ?_
                    refine lv_lor hx hb dX8_block_105 ?_
                    refine mv_eql (x' := lN (wv (pF xs) (a + 4 * j) (i + 1))) (lN_byte (wv_lt _ _ hi4) (bN_lt _)) ?_
                    refine lv_lstore (lv' := [(5, .long (lN (wv (pF xs) (a + 4 * j) (i + 1)))), (9, .int (nI (bN (pF xs (a + 4 * j + i))))), (8, .int (nI (a + 4 * j + i))), (0, .ref (mAdM E 0 0)), (1, .int (nI a)), (2, .int (nI xs.length)), (3, .int (nI (padL xs).length)), (4, .int (nI j)), (7, .int (nI i))]) hx hb dX8_block_106 hl (by decide) rfl (fun ls hl => ?_)
                    refine lv_iinc (v := nI (i + 1)) (lv' := [(7, .int (nI (i + 1))), (5, .long (lN (wv (pF xs) (a + 4 * j) (i + 1)))), (9, .int (nI (bN (pF xs (a + 4 * j + i))))), (8, .int (nI (a + 4 * j + i))), (0, .ref (mAdM E 0 0)), (1, .int (nI a)), (2, .int (nI xs.length)), (3, .int (nI (padL xs).length)), (4, .int (nI j))]) hx hb dX8_block_108 hl (k := 8) rfl (i2_1 i) (by decide) rfl (fun ls hl => ?_)
                    refine lv_goto (tgt := 16) hx hb dX8_block_111 (by decide) ?_
                    exact ih2 (i + 1) S1 _ _ ls  (by omega) (by omega) (rfl) hH hS (lv_sub hl [4, 5, 6, 7, 8, 1, 0] rfl)
                  · skip
                    have hlt : (padL xs).length - 4 ≤ (a + 4 * j + i) := Nat.not_lt.mp (fun q => h70 ((nI_ltI (by omega) (by omega)).mpr q))
                    refine lv_bipush (v := 8) hx hb dX8_block_73 (by decide) ?_
                    refine lv_iload_n hx hb dX8_block_75 rfl (lv_at hl 3 rfl) ?_
                    refine lv_imul hx hb dX8_block_76 ?_
                    refine mv_eqi (x' := nI (8 * xs.length)) (pk_mul 8 xs.length) ?_
                    refine lv_bipush (v := 8) hx hb dX8_block_77 (by decide) ?_
                    refine lv_iload_n hx hb dX8_block_79 rfl (lv_at hl 4 rfl) ?_
                    refine lv_iconst (v := 1) hx hb dX8_block_80 (by decide) ?_
                    refine lv_isub hx hb dX8_block_81 ?_
                    refine mv_eqi (x' := nI ((padL xs).length - 1)) (pk_sub (a := (padL xs).length) (b := 1) (by omega)) ?_
                    refine lv_iload hx hb dX8_block_82 (lv_at hl 0 rfl) ?_
                    refine lv_isub hx hb dX8_block_84 ?_
                    refine mv_eqi (x' := nI ((padL xs).length - 1 - (a + 4 * j + i))) (pk_sub (by omega)) ?_
                    refine lv_imul hx hb dX8_block_85 ?_
                    refine mv_eqi (x' := nI (8 * ((padL xs).length - 1 - (a + 4 * j + i)))) (pk_mul 8 _) ?_
                    refine lv_ishr hx hb dX8_block_86 ?_
                    refine lv_sipush (v := 255) hx hb dX8_block_87 (by decide) ?_
                    refine lv_iand hx hb dX8_block_90 ?_
                    refine mv_eqi (x' := nI (bN (pF xs (a + 4 * j + i)))) (pad_hi hxs.2.1 (by omega) (by omega) (by omega)) ?_
                    refine lv_goto (tgt := 95) hx hb dX8_block_91 (by decide) ?_
                    refine lv_istore (lv' := [(9, .int (nI (bN (pF xs (a + 4 * j + i))))), (8, .int (nI (a + 4 * j + i))), (0, .ref (mAdM E 0 0)), (1, .int (nI a)), (2, .int (nI xs.length)), (3, .int (nI (padL xs).length)), (4, .int (nI j)), (5, .long (lN (wv (pF xs) (a + 4 * j) i))), (7, .int (nI i))]) hx hb dX8_block_95 hl (by decide) rfl (fun ls hl => ?_)
                    refine lv_lload hx hb dX8_block_97 (lv_at hl 7 rfl) ?_
                    refine lv_bipush (v := 8) hx hb dX8_block_99 (by decide) ?_
                    refine lv_lshl hx hb dX8_block_101 rfl ?_
                    refine lv_iload hx hb dX8_block_102 (lv_at hl 0 rfl) ?_
                    refine lv_i2l hx hb dX8_block_104 rfl ?_
                    refine lv_lor hx hb dX8_block_105 ?_
                    refine mv_eql (x' := lN (wv (pF xs) (a + 4 * j) (i + 1))) (lN_byte (wv_lt _ _ hi4) (bN_lt _)) ?_
                    refine lv_lstore (lv' := [(5, .long (lN (wv (pF xs) (a + 4 * j) (i + 1)))), (9, .int (nI (bN (pF xs (a + 4 * j + i))))), (8, .int (nI (a + 4 * j + i))), (0, .ref (mAdM E 0 0)), (1, .int (nI a)), (2, .int (nI xs.length)), (3, .int (nI (padL xs).length)), (4, .int (nI j)), (7, .int (nI i))]) hx hb dX8_block_106 hl (by decide) rfl (fun ls hl => ?_)
                    refine lv_iinc (v := nI (i + 1)) (lv' := [(7, .int (nI (i + 1))), (5, .long (lN (wv (pF xs) (a + 4 * j) (i + 1)))), (9, .int (nI (bN (pF xs (a + 4 * j + i))))), (8, .int (nI (a + 4 * j + i))), (0, .ref (mAdM E 0 0)), (1, .int (nI a)), (2, .int (nI xs.length)), (3, .int (nI (padL xs).length)), (4, .int (nI j))]) hx hb dX8_block_108 hl (k := 8) rfl (i2_1 i) (by decide) rfl (fun ls hl => ?_)
                    refine lv_goto (tgt := 16) hx hb dX8_block_111 (by decide) ?_
                    exact ih2 (i + 1) S1 _ _ ls  (by omega) (by omega) (rfl) hH hS (lv_sub hl [4, 5, 6, 7, 8, 1, 0] rfl)
                · skip
                  have hpe : (a + 4 * j + i) = xs.length := (nI_eq (by omega) (by omega)).mp h56
                  refine lv_sipush (v := 128) hx hb dX8_block_59 (by decide) ?_
                  refine mv_eqi (x' := nI (bN (pF xs (a + 4 * j + i)))) (by rw [hpe]; exact pad_eq) ?_
                  refine lv_goto (tgt := 95) hx hb dX8_block_62 (by decide) ?_
                  refine lv_istore (lv' := [(9, .int (nI (bN (pF xs (a + 4 * j + i))))), (8, .int (nI (a + 4 * j + i))), (0, .ref (mAdM E 0 0)), (1, .int (nI a)), (2, .int (nI xs.length)), (3, .int (nI (padL xs).length)), (4, .int (nI j)), (5, .long (lN (wv (pF xs) (a + 4 * j) i))), (7, .int (nI i))]) hx hb dX8_block_95 hl (by decide) rfl (fun ls hl => ?_)
                  refine lv_lload hx hb dX8_block_97 (lv_at hl 7 rfl) ?_
                  refine lv_bipush (v := 8) hx hb dX8_block_99 (by decide) ?_
                  refine lv_lshl hx hb dX8_block_101 rfl ?_
                  refine lv_iload hx hb dX8_block_102 (lv_at hl 0 rfl) ?_
                  refine lv_i2l hx hb dX8_block_104 rfl ?_
                  refine lv_lor hx hb dX8_block_105 ?_
                  refine mv_eql (x' := lN (wv (pF xs) (a + 4 * j) (i + 1))) (lN_byte (wv_lt _ _ hi4) (bN_lt _)) ?_
                  refine lv_lstore (lv' := [(5, .long (lN (wv (pF xs) (a + 4 * j) (i + 1)))), (9, .int (nI (bN (pF xs (a + 4 * j + i))))), (8, .int (nI (a + 4 * j + i))), (0, .ref (mAdM E 0 0)), (1, .int (nI a)), (2, .int (nI xs.length)), (3, .int (nI (padL xs).length)), (4, .int (nI j)), (7, .int (nI i))]) hx hb dX8_block_106 hl (by decide) rfl (fun ls hl => ?_)
                  refine lv_iinc (v := nI (i + 1)) (lv' := [(7, .int (nI (i + 1))), (5, .long (lN (wv (pF xs) (a + 4 * j) (i + 1)))), (9, .int (nI (bN (pF xs (a + 4 * j + i))))), (8, .int (nI (a + 4 * j + i))), (0, .ref (mAdM E 0 0)), (1, .int (nI a)), (2, .int (nI xs.length)), (3, .int (nI (padL xs).length)), (4, .int (nI j))]) hx hb dX8_block_108 hl (k := 8) rfl (i2_1 i) (by decide) rfl (fun ls hl => ?_)
                  refine lv_goto (tgt := 16) hx hb dX8_block_111 (by decide) ?_
                  exact ih2 (i + 1) S1 _ _ ls  (by omega) (by omega) (rfl) hH hS (lv_sub hl [4, 5, 6, 7, 8, 1, 0] rfl)
              · skip
                have hlo := lt_of (a := xs.length) (b := (a + 4 * j + i)) (by omega) (by omega) h36
                refine lv_aload_n hx hb dX8_block_39 rfl (lv_at hl 1 rfl) ?_
                refine g_X8_row Cx hG hH q_fl_X8_16 dX8_block_40 ?_
                refine lv_iload hx hb dX8_block_43 (lv_at hl 0 rfl) ?_
                refine mv_bal Cx hG hH isM_5 (a + 4 * j + i) (rfl) (by omega) dX8_block_45 ?_
                refine lv_sipush (v := 255) hx hb dX8_block_46 (by decide) ?_
                refine lv_iand hx hb dX8_block_49 ?_
                refine mv_eqi (x' := nI (bN (pF xs (a + 4 * j + i)))) (by rw [(hinv.2 5 _ (show ¬ (5 : Nat) = 8 by decide)).2.1, hxs.2.2 _ hlo]; exact pad_lo hlo) ?_
                refine lv_goto (tgt := 95) hx hb dX8_block_50 (by decide) ?_
                refine lv_istore (lv' := [(9, .int (nI (bN (pF xs (a + 4 * j + i))))), (8, .int (nI (a + 4 * j + i))), (0, .ref (mAdM E 0 0)), (1, .int (nI a)), (2, .int (nI xs.length)), (3, .int (nI (padL xs).length)), (4, .int (nI j)), (5, .long (lN (wv (pF xs) (a + 4 * j) i))), (7, .int (nI i))]) hx hb dX8_block_95 hl (by decide) rfl (fun ls hl => ?_)
                refine lv_lload hx hb dX8_block_97 (lv_at hl 7 rfl) ?_
                refine lv_bipush (v := 8) hx hb dX8_block_99 (by decide) ?_
                refine lv_lshl hx hb dX8_block_101 rfl ?_
                refine lv_iload hx hb dX8_block_102 (lv_at hl 0 rfl) ?_
                refine lv_i2l hx hb dX8_block_104 rfl ?_
                refine lv_lor hx hb dX8_block_105 ?_
                refine mv_eql (x' := lN (wv (pF xs) (a + 4 * j) (i + 1))) (lN_byte (wv_lt _ _ hi4) (bN_lt _)) ?_
                refine lv_lstore (lv' := [(5, .long (lN (wv (pF xs) (a + 4 * j) (i + 1)))), (9, .int (nI (bN (pF xs (a + 4 * j + i))))), (8, .int (nI (a + 4 * j + i))), (0, .ref (mAdM E 0 0)), (1, .int (nI a)), (2, .int (nI xs.length)), (3, .int (nI (padL xs).length)), (4, .int (nI j)), (7, .int (nI i))]) hx hb dX8_block_106 hl (by decide) rfl (fun ls hl => ?_)
                refine lv_iinc (v := nI (i + 1)) (lv' := [(7, .int (nI (i + 1))), (5, .long (lN (wv (pF xs) (a + 4 * j) (i + 1)))), (9, .int (nI (bN (pF xs (a + 4 * j + i))))), (8, .int (nI (a + 4 * j + i))), (0, .ref (mAdM E 0 0)), (1, .int (nI a)), (2, .int (nI xs.length)), (3, .int (nI (padL xs).length)), (4, .int (nI j))]) hx hb dX8_block_108 hl (k := 8) rfl (i2_1 i) (by decide) rfl (fun ls hl => ?_)
                refine lv_goto (tgt := 16) hx hb dX8_block_111 (by decide) ?_
                exact ih2 (i + 1) S1 _ _ ls  (by omega) (by omega) (rfl) hH hS (lv_sub hl [4, 5, 6, 7, 8, 1, 0] rfl)
        exact lp1 (4 - 0 + 1) 0 S1 _ _ ls  (by omega) (by omega) (rfl) hH hS (lv_sub hl [2, 3, 4, 5, 6, 1, 0] rfl)
  exact lp (16 - 0 + 1) 0 S _ _ ls  (by omega) (by omega) (⟨fun q h => absurd h (Nat.not_lt_zero _), nSame.rf⟩) hH hS (lv_sub hl [1, 2, 3, 4, 0] rfl)
