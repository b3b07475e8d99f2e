/-! ===== SHA-256 as numbers ===== -/
abbrev mU (x k : Int32) : Int32 := (x.toUInt32 >>> (k.toUInt32 &&& Int32.toUInt32 31)).toInt32
/-- one round, over the eight numbers -/
def rnd (K w : Int32) (v : Nat → Int32) : Nat → Int32 := fun j => match j with
  | 0 => v 7 + (((mU (v 4) 6 ||| v 4 <<< ((26 : Int32) &&& 31)) ^^^ (mU (v 4) 11 ||| v 4 <<< ((21 : Int32) &&& 31))) ^^^ (mU (v 4) 25 ||| v 4 <<< ((7 : Int32) &&& 31))) + ((v 4 &&& v 5) ^^^ ((v 4 ^^^ -1) &&& v 6)) + K + w + (((mU (v 0) 2 ||| v 0 <<< ((30 : Int32) &&& 31)) ^^^ (mU (v 0) 13 ||| v 0 <<< ((19 : Int32) &&& 31)) ^^^ (mU (v 0) 22 ||| v 0 <<< ((10 : Int32) &&& 31))) + (((v 0 &&& v 1) ^^^ (v 0 &&& v 2)) ^^^ (v 1 &&& v 2)))
  | 1 => v 0
  | 2 => v 1
  | 3 => v 2
  | 4 => v 3 + (v 7 + (((mU (v 4) 6 ||| v 4 <<< ((26 : Int32) &&& 31)) ^^^ (mU (v 4) 11 ||| v 4 <<< ((21 : Int32) &&& 31))) ^^^ (mU (v 4) 25 ||| v 4 <<< ((7 : Int32) &&& 31))) + ((v 4 &&& v 5) ^^^ ((v 4 ^^^ -1) &&& v 6)) + K + w)
  | 5 => v 4
  | 6 => v 5
  | _ => v 6
def rndN (w : Nat → Int32) (v : Nat → Int32) : Nat → Nat → Int32
  | 0 => v
  | t + 1 => rnd (mK t) (w t) (rndN w v t)
/-- the words of a block, one more -/
def schV (w : Nat → Int32) (t : Nat) : Int32 := w (t - 16) + (((mU (w (t - 15)) 7 ||| w (t - 15) <<< ((25 : Int32) &&& 31)) ^^^ (mU (w (t - 15)) 18 ||| w (t - 15) <<< ((14 : Int32) &&& 31))) ^^^ mU (w (t - 15)) 3) + w (t - 7) + (((mU (w (t - 2)) 17 ||| w (t - 2) <<< ((15 : Int32) &&& 31)) ^^^ (mU (w (t - 2)) 19 ||| w (t - 2) <<< ((13 : Int32) &&& 31))) ^^^ mU (w (t - 2)) 10)
def schN (w : Nat → Int32) : Nat → Nat → Int32
  | 0 => w
  | n + 1 => va_up (schN w n) (16 + n) (schV (schN w n) (16 + n))
def shaBlk (f : Nat → Int8) (h : Nat → Int32) (a : Nat) : Nat → Int32 := fun j => h j + rndN (schN (fun j => mW4 f (a + 4 * j)) 48) h 64 j
def shaN (f : Nat → Int8) : Nat → Nat → Int32
  | 0 => mI
  | b + 1 => shaBlk f (shaN f b) (64 * b)
def shaOut (h : Nat → Int32) (j : Nat) : Int8 := if j % 4 = 0 then (mU (h (j / 4)) 24).toInt8 else if j % 4 = 1 then (mU (h (j / 4)) 16).toInt8 else if j % 4 = 2 then (mU (h (j / 4)) 8).toInt8 else (h (j / 4)).toInt8
def padL (xs : List Int8) : List Int8 := xs ++ [(128 : Int32).toInt8] ++ List.replicate ((568 - (xs.length + 1)) % 64 + 6) ((0 : Int32).toInt8) ++ [(mU (nI xs.length * 8) 8).toInt8] ++ [(nI xs.length * 8).toInt8]
def shaL (xs : List Int8) (j : Nat) : Int8 := shaOut (shaN (fun q => (padL xs).getD q 0) ((padL xs).length / 64)) j
theorem padL_len (xs : List Int8) : (padL xs).length = xs.length + 9 + (568 - (xs.length + 1)) % 64 := by simp [padL]; omega
theorem rnd_congr {K w : Int32} {v v' : Nat → Int32} (h : ∀ j, j < 8 → v j = v' j) (j : Nat) : rnd K w v j = rnd K w v' j := by
  have e0 := h 0 (by decide)
  have e1 := h 1 (by decide)
  have e2 := h 2 (by decide)
  have e3 := h 3 (by decide)
  have e4 := h 4 (by decide)
  have e5 := h 5 (by decide)
  have e6 := h 6 (by decide)
  have e7 := h 7 (by decide)
  unfold rnd
  rw [e0, e1, e2, e3, e4, e5, e6, e7]
theorem rndN_congr {w w' v v' : Nat → Int32} (hv : ∀ j, j < 8 → v j = v' j) : ∀ (t : Nat), (∀ j, j < t → w j = w' j) → ∀ j, j < 8 → rndN w v t j = rndN w' v' t j
  | 0, _, j, hj => hv j hj
  | t + 1, hw, j, hj => by
    show rnd (mK t) (w t) (rndN w v t) j = rnd (mK t) (w' t) (rndN w' v' t) j
    rw [hw t (by omega)]
    exact rnd_congr (fun q hq => rndN_congr hv t (fun j hj => hw j (by omega)) q hq) j
theorem schN_old (w : Nat → Int32) {j : Nat} (hj : j < 16) : ∀ n, schN w n j = w j
  | 0 => rfl
  | n + 1 => by
    show va_up _ _ _ j = _
    rw [va_up_ne _ _ (by omega)]
    exact schN_old w hj n
theorem schN_congr {w w' : Nat → Int32} (h : ∀ j, j < 16 → w j = w' j) : ∀ (n j : Nat), j < 16 + n → schN w n j = schN w' n j
  | 0, j, hj => h j hj
  | n + 1, j, hj => by
    show va_up (schN w n) (16 + n) (schV (schN w n) (16 + n)) j = va_up (schN w' n) (16 + n) (schV (schN w' n) (16 + n)) j
    have ih := schN_congr h n
    by_cases hq : j = 16 + n
    · subst hq
      rw [va_up_self, va_up_self]
      unfold schV
      rw [ih (16 + n - 16) (by omega), ih (16 + n - 15) (by omega), ih (16 + n - 7) (by omega), ih (16 + n - 2) (by omega)]
    · rw [va_up_ne _ _ hq, va_up_ne _ _ hq]
      exact ih j (by omega)
theorem mW4_congr {f g : Nat → Int8} {a : Nat} (h : ∀ j, a ≤ j → j < a + 4 → f j = g j) : mW4 f a = mW4 g a := by
  unfold mW4
  rw [h a (by omega) (by omega), h (a + 1) (by omega) (by omega), h (a + 2) (by omega) (by omega), h (a + 3) (by omega) (by omega)]
theorem shaBlk_congr {f g : Nat → Int8} {h h' : Nat → Int32} {a : Nat} (hh : ∀ j, j < 8 → h j = h' j) (hf : ∀ j, a ≤ j → j < a + 64 → f j = g j) (j : Nat) (hj : j < 8) : shaBlk f h a j = shaBlk g h' a j := by
  unfold shaBlk
  rw [hh j hj, rndN_congr hh 64 (fun q hq => schN_congr (fun i hi => mW4_congr (fun r h1 h2 => hf r (by omega) (by omega))) 48 q (by omega)) j hj]
theorem shaN_congr {f g : Nat → Int8} : ∀ (b : Nat), (∀ j, j < 64 * b → f j = g j) → ∀ j, j < 8 → shaN f b j = shaN g b j
  | 0, _, _, _ => rfl
  | b + 1, hf, j, hj => shaBlk_congr (fun q hq => shaN_congr b (fun r hr => hf r (by omega)) q hq) (fun r h1 h2 => hf r (by omega)) j hj
