/-! ===== the class's hasher ===== -/
def padK (f : Nat → Int8) (x : Int32) (n : Nat) : List Int8 := (List.range n).map (fun j => ((if j < 32 then (f j).toInt32 else 0) ^^^ x).toInt8)
theorem padK_len (f : Nat → Int8) (x : Int32) (n : Nat) : (padK f x n).length = n := by simp [padK]
theorem padK_succ (f : Nat → Int8) (x : Int32) (n : Nat) : padK f x (n + 1) = padK f x n ++ [((if n < 32 then (f n).toInt32 else 0) ^^^ x).toInt8] := by simp [padK, List.range_succ]
theorem padK_congr {f g : Nat → Int8} {x : Int32} {n : Nat} (h : ∀ j, j < 32 → f j = g j) : padK f x n = padK g x n := by
  unfold padK
  refine List.map_congr_left (fun j _ => ?_)
  by_cases hj : j < 32
  · rw [if_pos hj, if_pos hj, h j hj]
  · rw [if_neg hj, if_neg hj]
def macL (key : Nat → Int8) (ms : List Int8) : Nat → Int8 := shaL (padK key 92 64 ++ mTk (shaL (padK key 54 64 ++ ms)) 32)
/-- the hasher's own rows -/
def hsX : Nat → Nat → Prop := fun k i => bX 2 k i ∨ k = 4 ∨ k = 5
theorem bX_hs {k i : Nat} (h : bX 2 k i) : hsX k i := Or.inl h
theorem bHas.nil {S : mSt} {i : Nat} : bHas (mM S 2 i 1 0) i [] := ⟨by simp [mM, m3]; exact nI_0.symm, Nat.zero_le _, fun j h => absurd h (Nat.not_lt_zero _)⟩
theorem mLn_2 : mLn 2 = 512 := rfl
theorem mM_fill {S : mSt} {k i j : Nat} {v : Int32} {F : Nat → Int32} (h : ∀ q, q < j → S.1 k i q = F q) (hv : v = F j) : ∀ q, q < j + 1 → (mM S k i j v).1 k i q = F q := by
  intro q hq
  by_cases e : q = j
  · subst e
    simp [mM, m3, hv]
  · simp only [mM, m3, e, and_false, if_false]
    exact h q (by omega)
def mFm (x y : Int32) : Int32 := if 0 ≤ x ^^^ y then x - x / y * y else if x - x / y * y = 0 then x - x / y * y else x - x / y * y + y
theorem fm64 : ∀ n, n ≤ 512 → mFm (56 - nI n) 64 = nI ((568 - n) % 64) := by decide +kernel
theorem i2_1 (j : Nat) : nI j + Int32.ofInt 1 = nI (j + 1) := by rw [lit1]; exact nI_1 j
theorem ge_of {a b : Nat} (ha : a < 2 ^ 31) (hb : b < 2 ^ 31) (h : nI a ≤ nI b) : a ≤ b := (nI_leI ha hb).mp h
theorem lt_of {a b : Nat} (ha : a < 2 ^ 31) (hb : b < 2 ^ 31) (h : ¬ nI a ≤ nI b) : b < a := Nat.not_le.mp (fun q => h ((nI_leI ha hb).mpr q))
/-- a block more -/
theorem shaN_step {f F : Nat → Int8} {h w h' : Nat → Int32} {b : Nat} (hh : ∀ j, j < 8 → h j = shaN F b j) (hw : ∀ j, j < 64 → w j = schN (fun q => mW4 f (64 * b + 4 * q)) 48 j) (hf : ∀ j, 64 * b ≤ j → j < 64 * b + 64 → f j = F j) (he : ∀ j, j < 8 → h' j = h j + rndN w h 64 j) : ∀ j, j < 8 → h' j = shaN F (b + 1) j := by
  intro j hj
  refine (he j hj).trans ?_
  refine congr (congrArg HAdd.hAdd (hh j hj)) ?_
  refine rndN_congr hh 64 (fun q hq => ?_) j hj
  rw [hw q hq]
  exact schN_congr (fun i hi => mW4_congr (fun r h1 h2 => hf r (by omega) (by omega))) 48 q (by omega)
theorem shaOut_4 (h : Nat → Int32) (i : Nat) : shaOut h (4 * i) = (mU (h i) 24).toInt8 ∧ shaOut h (4 * i + 1) = (mU (h i) 16).toInt8 ∧ shaOut h (4 * i + 2) = (mU (h i) 8).toInt8 ∧ shaOut h (4 * i + 3) = (h i).toInt8 := by
  refine ⟨?_, ?_, ?_, ?_⟩ <;> unfold shaOut
  · rw [show (4 * i) % 4 = 0 by omega, show (4 * i) / 4 = i by omega]; rfl
  · rw [show (4 * i + 1) % 4 = 1 by omega, show (4 * i + 1) / 4 = i by omega]; rfl
  · rw [show (4 * i + 2) % 4 = 2 by omega, show (4 * i + 2) / 4 = i by omega]; rfl
  · rw [show (4 * i + 3) % 4 = 3 by omega, show (4 * i + 3) / 4 = i by omega]; rfl
set_option maxHeartbeats 4000000 in
set_option maxRecDepth 100000 in
theorem c_J9_floorMod_7cf53 (l : Launch) (E : mEv) (A : Nat → Prop) (hO : mOwn mLC E A) (S : mSt) (x y : Int32) (hy : ¬ y = 0) : Met l yJ9_floorMod_7cf53 (Cond.code yJ9_floorMod_7cf53 cJ9_floorMod_7cf53 3 (some .int) :: mv_ws) (mRm 0 0) (mPc mLC E A S [.int x, .int y]) (mQ mLC E A (fun S' => S' = S) (some (.int (mFm x y)))) 0 0 A := by
  refine va_MetF (cc := cJ9_floorMod_7cf53) (maxL := 3) (ret := (some .int)) (by decide +kernel) rfl ?_
  intro p e s m args below meth c s₁ B hml hv
  obtain ⟨rfl, hG, hH⟩ := hv
  have hx := B.exec
  have hb := B.bytes
  have hr := B.returns
  have hlocks := B.notSynchronized
  have Cx : CallFix p m c cJ9_floorMod_7cf53 3 s ([.int x, .int y] : List Value).toArray (Cond.code yJ9_floorMod_7cf53 cJ9_floorMod_7cf53 3 (some .int) :: mv_ws) RJ9 := ⟨hx, hb, hml, findClass_of_methodNamed B.named, atoms_spec (ws := Cond.code yJ9_floorMod_7cf53 cJ9_floorMod_7cf53 3 (some .int) :: mv_ws) B.pre⟩
  have hS : va_S A s.heap s.heap [] := va_S.rf
  have hl := lv_entry ([.int x, .int y]) (n := 3) (Nat.le_of_ble_eq_true rfl)
  rw [lg_entry_eq]
  generalize (lg_sl ([.int x, .int y]) ++ List.replicate (3 - (lg_sl ([.int x, .int y])).length) Slot.unset).toArray = ls at hl ⊢
  have hl : lv_has ls 3 [(0, .int x), (1, .int y)] := hl
  refine lv_iload_n hx hb dJ9_floorMod_7cf53_0 rfl (lv_at hl 0 rfl) ?_
  refine lv_iload_n hx hb dJ9_floorMod_7cf53_1 rfl (lv_at hl 1 rfl) ?_
  refine lv_irem hx hb dJ9_floorMod_7cf53_2 (hy) ?_
  refine lv_istore_n (lv' := [(2, .int (x - x / y * y)), (0, .int x), (1, .int y)]) hx hb dJ9_floorMod_7cf53_3 rfl hl (by decide) rfl (fun ls hl => ?_)
  refine lv_iload_n hx hb dJ9_floorMod_7cf53_4 rfl (lv_at hl 1 rfl) ?_
  refine lv_iload_n hx hb dJ9_floorMod_7cf53_5 rfl (lv_at hl 2 rfl) ?_
  refine lv_ixor hx hb dJ9_floorMod_7cf53_6 ?_
  refine lv_if_ge (tgt := 18) hx hb dJ9_floorMod_7cf53_7 (by decide) (fun h7 => ?_) (fun h7 => ?_)
  · skip
    refine lv_iload_n hx hb dJ9_floorMod_7cf53_18 rfl (lv_at hl 0 rfl) ?_
    exact mv_reti Cx hr hH hS (by unfold mFm; rw [if_pos h7]) (rfl) dJ9_floorMod_7cf53_19 hlocks
  · skip
    refine lv_iload_n hx hb dJ9_floorMod_7cf53_10 rfl (lv_at hl 0 rfl) ?_
    refine lv_if_eq (tgt := 18) hx hb dJ9_floorMod_7cf53_11 (by decide) (fun h11 => ?_) (fun h11 => ?_)
    · skip
      refine lv_iload_n hx hb dJ9_floorMod_7cf53_18 rfl (lv_at hl 0 rfl) ?_
      exact mv_reti Cx hr hH hS (by unfold mFm; rw [if_neg h7, if_pos h11]) (rfl) dJ9_floorMod_7cf53_19 hlocks
    · skip
      refine lv_iload_n hx hb dJ9_floorMod_7cf53_14 rfl (lv_at hl 0 rfl) ?_
      refine lv_iload_n hx hb dJ9_floorMod_7cf53_15 rfl (lv_at hl 2 rfl) ?_
      refine lv_iadd hx hb dJ9_floorMod_7cf53_16 ?_
      exact mv_reti Cx hr hH hS (by unfold mFm; rw [if_neg h7, if_neg h11]) (rfl) dJ9_floorMod_7cf53_17 hlocks

set_option maxHeartbeats 4000000 in
set_option maxRecDepth 100000 in
theorem c_X1_begin (l : Launch) (E : mEv) (A : Nat → Prop) (hO : mOwn mLC E A) (S : mSt)  : Met l yX1_begin (Cond.code yX1_begin cX1_begin 1 (some (.object "MeasuredVault$Bytes")) :: mv_ws) (mRm 0 0) (mPc mLC E A S [.ref (mAdC E 1 0)]) (mQ mLC E A (fun S' => bHas S' 2 [] ∧ mSame (bX 2) S S') (some (.ref (mAdC E 2 2)))) 0 0 A := by
  refine Met.ofW (cc := cX1_begin) (maxL := 1) (ret := (some (.object "MeasuredVault$Bytes"))) (by decide) rfl ?_
  intro p e s m args below meth c s₁ B hml hv
  obtain ⟨rfl, hG, hH⟩ := hv
  have hx := B.exec
  have hb := B.bytes
  have hr := B.returns
  have hlocks := B.notSynchronized
  have Cx : CallFix p m c cX1_begin 1 s ([.ref (mAdC E 1 0)] : List Value).toArray (Cond.code yX1_begin cX1_begin 1 (some (.object "MeasuredVault$Bytes")) :: mv_ws) RX1 := ⟨hx, hb, hml, findClass_of_methodNamed B.named, atoms_spec (ws := Cond.code yX1_begin cX1_begin 1 (some (.object "MeasuredVault$Bytes")) :: mv_ws) B.pre⟩
  have hS : va_S A s.heap s.heap [] := va_S.rf
  have hl := lv_entry ([.ref (mAdC E 1 0)]) (n := 1) (Nat.le_of_ble_eq_true rfl)
  rw [lg_entry_eq]
  generalize (lg_sl ([.ref (mAdC E 1 0)]) ++ List.replicate (1 - (lg_sl ([.ref (mAdC E 1 0)])).length) Slot.unset).toArray = ls at hl ⊢
  have hl : lv_has ls 1 [(0, .ref (mAdC E 1 0))] := hl
  refine lv_aload_n hx hb dX1_begin_0 rfl (lv_at hl 0 rfl) ?_
  refine g_X1_message Cx hG hH q_fl_X1_16 dX1_begin_1 ?_
  refine lv_iconst (v := 0) hx hb dX1_begin_4 (by decide) ?_
  refine p_X0_size Cx hG hO hH hS (by decide) q_fl_X1_31 dX1_begin_5 (fun H locs hH hS => ?_)
  refine lv_aload_n hx hb dX1_begin_8 rfl (lv_at hl 0 rfl) ?_
  refine g_X1_message Cx hG hH q_fl_X1_16 dX1_begin_9 ?_
  exact mv_reta Cx hr (Or.inl ⟨_, rfl⟩) hH hS (Or.inr ⟨_, rfl⟩) (rfl) (⟨bHas.nil, mSame.M ⟨Or.inl rfl, rfl⟩⟩) dX1_begin_12 hlocks

set_option maxHeartbeats 4000000 in
set_option maxRecDepth 100000 in
theorem c_X1_putPad (l : Launch) (E : mEv) (A : Nat → Prop) (hO : mOwn mLC E A) (S : mSt) (k0 i0 : Nat) (hB : mIsB mLC k0 i0 32) (hne : ¬ bX 2 k0 i0) (xs : List Int8) (hxs : bHas S 2 xs) (x : Int32) (hle : xs.length + 64 ≤ 512) : Met l yX1_putPad (Cond.code yX1_putPad cX1_putPad 4 none :: mv_ws) (mRm 1 21) (mPc mLC E A S [.ref (mAdC E 1 0), .ref (mAdC E k0 i0), .int x]) (mQ mLC E A (fun S' => bHas S' 2 (xs ++ padK (S.2.1 k0 i0) x 64) ∧ mSame (bX 2) S S') none) 0 0 A := by
  refine Met.ofW (cc := cX1_putPad) (maxL := 4) (ret := none) (by decide) rfl ?_
  intro p e s m args below meth c s₁ B hml hv
  obtain ⟨rfl, hG, hH⟩ := hv
  have hx := B.exec
  have hb := B.bytes
  have hr := B.returns
  have hlocks := B.notSynchronized
  have Cx : CallFix p m c cX1_putPad 4 s ([.ref (mAdC E 1 0), .ref (mAdC E k0 i0), .int x] : List Value).toArray (Cond.code yX1_putPad cX1_putPad 4 none :: mv_ws) RX1 := ⟨hx, hb, hml, findClass_of_methodNamed B.named, atoms_spec (ws := Cond.code yX1_putPad cX1_putPad 4 none :: mv_ws) B.pre⟩
  have hS : va_S A s.heap s.heap [] := va_S.rf
  have hl := lv_entry ([.ref (mAdC E 1 0), .ref (mAdC E k0 i0), .int x]) (n := 4) (Nat.le_of_ble_eq_true rfl)
  rw [lg_entry_eq]
  generalize (lg_sl ([.ref (mAdC E 1 0), .ref (mAdC E k0 i0), .int x]) ++ List.replicate (4 - (lg_sl ([.ref (mAdC E 1 0), .ref (mAdC E k0 i0), .int x])).length) Slot.unset).toArray = ls at hl ⊢
  have hl : lv_has ls 4 [(0, .ref (mAdC E 1 0)), (1, .ref (mAdC E k0 i0)), (2, .int x)] := hl
  refine lv_iconst (v := 0) hx hb dX1_putPad_0 (by decide) ?_
  refine mv_eqi (x' := nI 0) (rfl) ?_
  refine lv_istore_n (lv' := [(3, .int (nI 0)), (0, .ref (mAdC E 1 0)), (1, .ref (mAdC E k0 i0)), (2, .int x)]) hx hb dX1_putPad_1 rfl hl (by decide) rfl (fun ls hl => ?_)
  have lp : ∀ (n j : Nat) (S1 : mSt) (H : Heap) (locs : List Loc) (ls : Array Slot) , 64 - j < n → j ≤ 64 → (bHas S1 2 (xs ++ padK (S.2.1 k0 i0) x j) ∧ mSame (bX 2) S S1) → mHold mLC E S1 H → va_S A s.heap H locs → lv_has ls 4 [(0, .ref (mAdC E 1 0)), (1, .ref (mAdC E k0 i0)), (2, .int x), (3, .int (nI j))] → W p l e (headSpec (Cond.code yX1_putPad cX1_putPad 4 none :: mv_ws) (mRm 1 21)).room s m ([.ref (mAdC E 1 0), .ref (mAdC E k0 i0), .int x] : List Value).toArray below meth c H locs 0 0 (MQ below (mQ mLC E A (fun S' => bHas S' 2 (xs ++ padK (S.2.1 k0 i0) x 64) ∧ mSame (bX 2) S S') none) ([.ref (mAdC E 1 0), .ref (mAdC E k0 i0), .int x] : List Value).toArray s 0 0 A) (F0 m 2 ls []) := by
    intro n
    induction n with
    | zero => intro j S1 H locs ls  hn hj hinv hH hS hl; omega
    | succ n ih =>
      intro j S1 H locs ls  hn hj hinv hH hS hl
      refine lv_iload_n hx hb dX1_putPad_2 rfl (lv_at hl 3 rfl) ?_
      refine lv_bipush (v := 64) hx hb dX1_putPad_3 (by decide) ?_
      refine lv_icmp_ge (tgt := 36) hx hb dX1_putPad_5 (by decide) (fun h5 => ?_) (fun h5 => ?_)
      · skip
        have hj64 : j = 64 := by have := ge_of (a := 64) (by decide) (by omega) h5; omega
        exact mv_retv Cx hr hH hS (by subst hj64; exact hinv) dX1_putPad_36 hlocks
      · skip
        have hj64 : j < 64 := lt_of (a := 64) (by decide) (by omega) h5
        refine lv_aload_n hx hb dX1_putPad_8 rfl (lv_at hl 0 rfl) ?_
        refine g_X1_message Cx hG hH q_fl_X1_16 dX1_putPad_9 ?_
        refine lv_iload_n hx hb dX1_putPad_12 rfl (lv_at hl 3 rfl) ?_
        refine lv_bipush (v := 32) hx hb dX1_putPad_13 (by decide) ?_
        refine lv_icmp_ge (tgt := 24) hx hb dX1_putPad_15 (by decide) (fun h15 => ?_) (fun h15 => ?_)
        · skip
          have hlt : ¬ j < 32 := by have := ge_of (a := 32) (by decide) (by omega) h15; omega
          refine lv_iconst (v := 0) hx hb dX1_putPad_24 (by decide) ?_
          refine lv_iload_n hx hb dX1_putPad_25 rfl (lv_at hl 2 rfl) ?_
          refine lv_ixor hx hb dX1_putPad_26 ?_
          refine mv_callV (Y := mLC) (C := RX0) (k := 2) (i := 2) (rest := []) Cx hG hH hS (c_X0_put l E A hO S1 2 (by decide) (xs ++ padK (S.2.1 k0 i0) x j) hinv.1 (0 ^^^ x) (by rw [List.length_append, padK_len, mLn_2]; omega)) q_co_X0_put q_ml_X1_64 q_im_X0_put q_se_X0_put q_in_X0 (okC_2 (by decide)) rfl rfl hd_X0_put ⟨Nat.le_of_ble_eq_true rfl, Nat.le_of_ble_eq_true rfl⟩ rfl hl.1 rfl (Nat.le_of_ble_eq_true rfl) ⟨Nat.le_of_ble_eq_true rfl, Nat.le_of_ble_eq_true rfl⟩ dX1_putPad_27 (fun S27 H locs hP27 hH hS => ?_)
          refine W.eq (g2 := F0 m 30 ls []) rfl ?_
          refine lv_iinc (v := nI (j + 1)) (lv' := [(3, .int (nI (j + 1))), (0, .ref (mAdC E 1 0)), (1, .ref (mAdC E k0 i0)), (2, .int x)]) hx hb dX1_putPad_30 hl (k := 3) rfl (i2_1 j) (by decide) rfl (fun ls hl => ?_)
          refine lv_goto (tgt := 2) hx hb dX1_putPad_33 (by decide) ?_
          exact ih (j + 1) S27 _ _ ls  (by omega) (by omega) (by rw [padK_succ, if_neg hlt, ← List.append_assoc]; exact ⟨hP27.1, hinv.2.tr hP27.2⟩) hH hS (lv_sub hl [1, 2, 3, 0] rfl)
        · skip
          have hlt : j < 32 := lt_of (a := 32) (by decide) (by omega) h15
          refine lv_aload_n hx hb dX1_putPad_18 rfl (lv_at hl 1 rfl) ?_
          refine lv_iload_n hx hb dX1_putPad_19 rfl (lv_at hl 3 rfl) ?_
          refine mv_bal Cx hG hH hB j (rfl) (hlt) dX1_putPad_20 ?_
          refine lv_goto (tgt := 25) hx hb dX1_putPad_21 (by decide) ?_
          refine lv_iload_n hx hb dX1_putPad_25 rfl (lv_at hl 2 rfl) ?_
          refine lv_ixor hx hb dX1_putPad_26 ?_
          refine mv_callV (Y := mLC) (C := RX0) (k := 2) (i := 2) (rest := []) Cx hG hH hS (c_X0_put l E A hO S1 2 (by decide) (xs ++ padK (S.2.1 k0 i0) x j) hinv.1 (((S1.2.1 k0 i0 j).toInt32) ^^^ x) (by rw [List.length_append, padK_len, mLn_2]; omega)) q_co_X0_put q_ml_X1_64 q_im_X0_put q_se_X0_put q_in_X0 (okC_2 (by decide)) rfl rfl hd_X0_put ⟨Nat.le_of_ble_eq_true rfl, Nat.le_of_ble_eq_true rfl⟩ rfl hl.1 rfl (Nat.le_of_ble_eq_true rfl) ⟨Nat.le_of_ble_eq_true rfl, Nat.le_of_ble_eq_true rfl⟩ dX1_putPad_27 (fun S27 H locs hP27 hH hS => ?_)
          refine W.eq (g2 := F0 m 30 ls []) rfl ?_
          refine lv_iinc (v := nI (j + 1)) (lv' := [(3, .int (nI (j + 1))), (0, .ref (mAdC E 1 0)), (1, .ref (mAdC E k0 i0)), (2, .int x)]) hx hb dX1_putPad_30 hl (k := 3) rfl (i2_1 j) (by decide) rfl (fun ls hl => ?_)
          refine lv_goto (tgt := 2) hx hb dX1_putPad_33 (by decide) ?_
          exact ih (j + 1) S27 _ _ ls  (by omega) (by omega) (by rw [padK_succ, if_pos hlt, ← List.append_assoc, ← (hinv.2 k0 i0 hne).2.1 j]; exact ⟨hP27.1, hinv.2.tr hP27.2⟩) hH hS (lv_sub hl [1, 2, 3, 0] rfl)
  exact lp (64 - 0 + 1) 0 S _ _ ls  (by omega) (by omega) (⟨by simpa [padK] using hxs, mSame.rf⟩) hH hS (lv_sub hl [1, 2, 3, 0] rfl)

set_option maxHeartbeats 4000000 in
set_option maxRecDepth 100000 in
theorem c_X1_beginKeyed (l : Launch) (E : mEv) (A : Nat → Prop) (hO : mOwn mLC E A) (S : mSt) (k0 i0 : Nat) (hB : mIsB mLC k0 i0 32) (hne : ¬ bX 2 k0 i0) : Met l yX1_beginKeyed (Cond.code yX1_beginKeyed cX1_beginKeyed 2 (some (.object "MeasuredVault$Bytes")) :: mv_ws) (mRm 2 44) (mPc mLC E A S [.ref (mAdC E 1 0), .ref (mAdC E k0 i0)]) (mQ mLC E A (fun S' => bHas S' 2 (padK (S.2.1 k0 i0) 54 64) ∧ mSame (bX 2) S S') (some (.ref (mAdC E 2 2)))) 0 0 A := by
  refine Met.ofW (cc := cX1_beginKeyed) (maxL := 2) (ret := (some (.object "MeasuredVault$Bytes"))) (by decide) rfl ?_
  intro p e s m args below meth c s₁ B hml hv
  obtain ⟨rfl, hG, hH⟩ := hv
  have hx := B.exec
  have hb := B.bytes
  have hr := B.returns
  have hlocks := B.notSynchronized
  have Cx : CallFix p m c cX1_beginKeyed 2 s ([.ref (mAdC E 1 0), .ref (mAdC E k0 i0)] : List Value).toArray (Cond.code yX1_beginKeyed cX1_beginKeyed 2 (some (.object "MeasuredVault$Bytes")) :: mv_ws) RX1 := ⟨hx, hb, hml, findClass_of_methodNamed B.named, atoms_spec (ws := Cond.code yX1_beginKeyed cX1_beginKeyed 2 (some (.object "MeasuredVault$Bytes")) :: mv_ws) B.pre⟩
  have hS : va_S A s.heap s.heap [] := va_S.rf
  have hl := lv_entry ([.ref (mAdC E 1 0), .ref (mAdC E k0 i0)]) (n := 2) (Nat.le_of_ble_eq_true rfl)
  rw [lg_entry_eq]
  generalize (lg_sl ([.ref (mAdC E 1 0), .ref (mAdC E k0 i0)]) ++ List.replicate (2 - (lg_sl ([.ref (mAdC E 1 0), .ref (mAdC E k0 i0)])).length) Slot.unset).toArray = ls at hl ⊢
  have hl : lv_has ls 2 [(0, .ref (mAdC E 1 0)), (1, .ref (mAdC E k0 i0))] := hl
  refine lv_aload_n hx hb dX1_beginKeyed_0 rfl (lv_at hl 0 rfl) ?_
  refine g_X1_message Cx hG hH q_fl_X1_16 dX1_beginKeyed_1 ?_
  refine lv_iconst (v := 0) hx hb dX1_beginKeyed_4 (by decide) ?_
  refine p_X0_size Cx hG hO hH hS (by decide) q_fl_X1_31 dX1_beginKeyed_5 (fun H locs hH hS => ?_)
  refine lv_aload_n hx hb dX1_beginKeyed_8 rfl (lv_at hl 0 rfl) ?_
  refine lv_aload_n hx hb dX1_beginKeyed_9 rfl (lv_at hl 1 rfl) ?_
  refine lv_bipush (v := 54) hx hb dX1_beginKeyed_10 (by decide) ?_
  refine mv_callV (Y := mLC) (C := RX1) (k := 1) (i := 0) (rest := []) Cx hG hH hS (c_X1_putPad l E A hO (mM S 2 2 1 0) k0 i0 hB hne [] bHas.nil 54 (by decide)) q_co_X1_putPad q_ml_X1_35 q_im_X1_putPad q_se_X1_putPad q_in_X1 okC_1 rfl rfl hd_X1_putPad ⟨Nat.le_of_ble_eq_true rfl, Nat.le_of_ble_eq_true rfl⟩ rfl hl.1 rfl (Nat.le_of_ble_eq_true rfl) ⟨Nat.le_of_ble_eq_true rfl, Nat.le_of_ble_eq_true rfl⟩ dX1_beginKeyed_12 (fun S12 H locs hP12 hH hS => ?_)
  refine W.eq (g2 := F0 m 15 ls []) rfl ?_
  refine lv_aload_n hx hb dX1_beginKeyed_15 rfl (lv_at hl 0 rfl) ?_
  refine g_X1_message Cx hG hH q_fl_X1_16 dX1_beginKeyed_16 ?_
  exact mv_reta Cx hr (Or.inl ⟨_, rfl⟩) hH hS (Or.inr ⟨_, rfl⟩) (rfl) (⟨hP12.1, (mSame.M ⟨Or.inl rfl, rfl⟩).tr hP12.2⟩) dX1_beginKeyed_19 hlocks

set_option maxHeartbeats 4000000 in
set_option maxRecDepth 100000 in
theorem c_X1_padMessage (l : Launch) (E : mEv) (A : Nat → Prop) (hO : mOwn mLC E A) (S : mSt) (xs : List Int8) (hxs : bHas S 2 xs) (hle : xs.length ≤ 503) : Met l yX1_padMessage (Cond.code yX1_padMessage cX1_padMessage 4 none :: mv_ws) (mRm 1 22) (mPc mLC E A S [.ref (mAdC E 1 0)]) (mQ mLC E A (fun S' => bHas S' 2 (padL xs) ∧ mSame (bX 2) S S') none) 0 0 A := by
  refine Met.ofW (cc := cX1_padMessage) (maxL := 4) (ret := none) (by decide) rfl ?_
  intro p e s m args below meth c s₁ B hml hv
  obtain ⟨rfl, hG, hH⟩ := hv
  have hx := B.exec
  have hb := B.bytes
  have hr := B.returns
  have hlocks := B.notSynchronized
  have Cx : CallFix p m c cX1_padMessage 4 s ([.ref (mAdC E 1 0)] : List Value).toArray (Cond.code yX1_padMessage cX1_padMessage 4 none :: mv_ws) RX1 := ⟨hx, hb, hml, findClass_of_methodNamed B.named, atoms_spec (ws := Cond.code yX1_padMessage cX1_padMessage 4 none :: mv_ws) B.pre⟩
  have hS : va_S A s.heap s.heap [] := va_S.rf
  have hl := lv_entry ([.ref (mAdC E 1 0)]) (n := 4) (Nat.le_of_ble_eq_true rfl)
  rw [lg_entry_eq]
  generalize (lg_sl ([.ref (mAdC E 1 0)]) ++ List.replicate (4 - (lg_sl ([.ref (mAdC E 1 0)])).length) Slot.unset).toArray = ls at hl ⊢
  have hl : lv_has ls 4 [(0, .ref (mAdC E 1 0))] := hl
  refine lv_aload_n hx hb dX1_padMessage_0 rfl (lv_at hl 0 rfl) ?_
  refine g_X1_message Cx hG hH q_fl_X1_16 dX1_padMessage_1 ?_
  refine g_X0_size Cx hG hH (by decide) q_fl_X1_31 dX1_padMessage_4 ?_
  refine mv_eqi (x' := nI xs.length) (hxs.1) ?_
  refine lv_bipush (v := 8) hx hb dX1_padMessage_7 (by decide) ?_
  refine lv_imul hx hb dX1_padMessage_9 ?_
  refine lv_istore_n (lv' := [(1, .int ((nI xs.length) * 8)), (0, .ref (mAdC E 1 0))]) hx hb dX1_padMessage_10 rfl hl (by decide) rfl (fun ls hl => ?_)
  refine lv_aload_n hx hb dX1_padMessage_11 rfl (lv_at hl 1 rfl) ?_
  refine g_X1_message Cx hG hH q_fl_X1_16 dX1_padMessage_12 ?_
  refine lv_sipush (v := 128) hx hb dX1_padMessage_15 (by decide) ?_
  refine mv_callV (Y := mLC) (C := RX0) (k := 2) (i := 2) (rest := []) Cx hG hH hS (c_X0_put l E A hO S 2 (by decide) xs hxs 128 (by rw [mLn_2]; omega)) q_co_X0_put q_ml_X1_64 q_im_X0_put q_se_X0_put q_in_X0 (okC_2 (by decide)) rfl rfl hd_X0_put ⟨Nat.le_of_ble_eq_true rfl, Nat.le_of_ble_eq_true rfl⟩ rfl hl.1 rfl (Nat.le_of_ble_eq_true rfl) ⟨Nat.le_of_ble_eq_true rfl, Nat.le_of_ble_eq_true rfl⟩ dX1_padMessage_18 (fun S18 H locs hP18 hH hS => ?_)
  refine W.eq (g2 := F0 m 21 ls []) rfl ?_
  refine lv_bipush (v := 56) hx hb dX1_padMessage_21 (by decide) ?_
  refine lv_aload_n hx hb dX1_padMessage_23 rfl (lv_at hl 1 rfl) ?_
  refine g_X1_message Cx hG hH q_fl_X1_16 dX1_padMessage_24 ?_
  refine g_X0_size Cx hG hH (by decide) q_fl_X1_31 dX1_padMessage_27 ?_
  refine mv_eqi (x' := nI (xs.length + 1)) (by have h := hP18.1.1; simpa using h) ?_
  refine lv_isub hx hb dX1_padMessage_30 ?_
  refine lv_bipush (v := 64) hx hb dX1_padMessage_31 (by decide) ?_
  refine mv_callS (Y := mLC) (rest := []) Cx hG hH hS (c_J9_floorMod_7cf53 l E A hO S18 (56 - (nI (xs.length + 1))) 64 (by decide)) q_co_J9_floorMod_7cf53 q_ml_X1_67 q_st_J9_floorMod_7cf53 q_in_J9 hd_J9_floorMod_7cf53 ⟨Nat.le_of_ble_eq_true rfl, Nat.le_of_ble_eq_true rfl⟩ rfl hl.1 rfl (Nat.le_of_ble_eq_true rfl) ⟨Nat.le_of_ble_eq_true rfl, Nat.le_of_ble_eq_true rfl⟩ dX1_padMessage_33 (fun S33 H locs hP33 hH hS => ?_)
  refine W.eq (g2 := F0 m 36 ls [.int (mFm (56 - (nI (xs.length + 1))) 64)]) rfl ?_
  have hH := mv_S hP33 hH
  refine mv_eqi (x' := nI ((568 - (xs.length + 1)) % 64)) (fm64 _ (by omega)) ?_
  refine lv_bipush (v := 6) hx hb dX1_padMessage_36 (by decide) ?_
  refine lv_iadd hx hb dX1_padMessage_38 ?_
  refine mv_eqi (x' := nI ((568 - (xs.length + 1)) % 64 + 6)) (nI_add _ 6) ?_
  refine lv_istore_n (lv' := [(2, .int (nI ((568 - (xs.length + 1)) % 64 + 6))), (1, .int ((nI xs.length) * 8)), (0, .ref (mAdC E 1 0))]) hx hb dX1_padMessage_39 rfl hl (by decide) rfl (fun ls hl => ?_)
  refine lv_iconst (v := 0) hx hb dX1_padMessage_40 (by decide) ?_
  refine mv_eqi (x' := nI 0) (rfl) ?_
  refine lv_istore_n (lv' := [(3, .int (nI 0)), (2, .int (nI ((568 - (xs.length + 1)) % 64 + 6))), (1, .int ((nI xs.length) * 8)), (0, .ref (mAdC E 1 0))]) hx hb dX1_padMessage_41 rfl hl (by decide) rfl (fun ls hl => ?_)
  have lp : ∀ (n j : Nat) (S1 : mSt) (H : Heap) (locs : List Loc) (ls : Array Slot) , ((568 - (xs.length + 1)) % 64 + 6) - j < n → j ≤ ((568 - (xs.length + 1)) % 64 + 6) → (bHas S1 2 ((xs ++ [(128 : Int32).toInt8]) ++ List.replicate j ((0 : Int32).toInt8)) ∧ mSame (bX 2) S S1) → mHold mLC E S1 H → va_S A s.heap H locs → lv_has ls 4 [(0, .ref (mAdC E 1 0)), (1, .int (nI xs.length * 8)), (2, .int (nI ((568 - (xs.length + 1)) % 64 + 6))), (3, .int (nI j))] → W p l e (headSpec (Cond.code yX1_padMessage cX1_padMessage 4 none :: mv_ws) (mRm 1 22)).room s m ([.ref (mAdC E 1 0)] : List Value).toArray below meth c H locs 0 0 (MQ below (mQ mLC E A (fun S' => bHas S' 2 (padL xs) ∧ mSame (bX 2) S S') none) ([.ref (mAdC E 1 0)] : List Value).toArray s 0 0 A) (F0 m 42 ls []) := by
    intro n
    induction n with
    | zero => intro j S1 H locs ls  hn hj hinv hH hS hl; omega
    | succ n ih =>
      intro j S1 H locs ls  hn hj hinv hH hS hl
      refine lv_iload_n hx hb dX1_padMessage_42 rfl (lv_at hl 3 rfl) ?_
      refine lv_iload_n hx hb dX1_padMessage_43 rfl (lv_at hl 2 rfl) ?_
      refine lv_icmp_ge (tgt := 61) hx hb dX1_padMessage_44 (by decide) (fun h44 => ?_) (fun h44 => ?_)
      · skip
        have hjz : j = ((568 - (xs.length + 1)) % 64 + 6) := by have := ge_of (a := ((568 - (xs.length + 1)) % 64 + 6)) (by omega) (by omega) h44; omega
        refine lv_aload_n hx hb dX1_padMessage_61 rfl (lv_at hl 0 rfl) ?_
        refine g_X1_message Cx hG hH q_fl_X1_16 dX1_padMessage_62 ?_
        refine lv_iload_n hx hb dX1_padMessage_65 rfl (lv_at hl 1 rfl) ?_
        refine lv_bipush (v := 8) hx hb dX1_padMessage_66 (by decide) ?_
        refine lv_iushr hx hb dX1_padMessage_68 rfl ?_
        refine mv_callV (Y := mLC) (C := RX0) (k := 2) (i := 2) (rest := []) Cx hG hH hS (c_X0_put l E A hO S1 2 (by decide) ((xs ++ [(128 : Int32).toInt8]) ++ List.replicate j ((0 : Int32).toInt8)) hinv.1 (((nI xs.length * 8).toUInt32 >>> ((8 : Int32).toUInt32 &&& Int32.toUInt32 31)).toInt32) (by simp only [List.length_append, List.length_replicate, List.length_singleton, mLn_2]; omega)) q_co_X0_put q_ml_X1_64 q_im_X0_put q_se_X0_put q_in_X0 (okC_2 (by decide)) rfl rfl hd_X0_put ⟨Nat.le_of_ble_eq_true rfl, Nat.le_of_ble_eq_true rfl⟩ rfl hl.1 rfl (Nat.le_of_ble_eq_true rfl) ⟨Nat.le_of_ble_eq_true rfl, Nat.le_of_ble_eq_true rfl⟩ dX1_padMessage_69 (fun S69 H locs hP69 hH hS => ?_)
        refine W.eq (g2 := F0 m 72 ls []) rfl ?_
        refine lv_aload_n hx hb dX1_padMessage_72 rfl (lv_at hl 0 rfl) ?_
        refine g_X1_message Cx hG hH q_fl_X1_16 dX1_padMessage_73 ?_
        refine lv_iload_n hx hb dX1_padMessage_76 rfl (lv_at hl 1 rfl) ?_
        refine mv_callV (Y := mLC) (C := RX0) (k := 2) (i := 2) (rest := []) Cx hG hH hS (c_X0_put l E A hO S69 2 (by decide) _ hP69.1 (nI xs.length * 8) (by simp only [List.length_append, List.length_replicate, List.length_singleton, mLn_2]; omega)) q_co_X0_put q_ml_X1_64 q_im_X0_put q_se_X0_put q_in_X0 (okC_2 (by decide)) rfl rfl hd_X0_put ⟨Nat.le_of_ble_eq_true rfl, Nat.le_of_ble_eq_true rfl⟩ rfl hl.1 rfl (Nat.le_of_ble_eq_true rfl) ⟨Nat.le_of_ble_eq_true rfl, Nat.le_of_ble_eq_true rfl⟩ dX1_padMessage_77 (fun S77 H locs hP77 hH hS => ?_)
        refine W.eq (g2 := F0 m 80 ls []) rfl ?_
        exact mv_retv Cx hr hH hS (⟨by have h := hP77.1; unfold padL; rw [hjz] at h; exact h, (hinv.2.tr hP69.2).tr hP77.2⟩) dX1_padMessage_80 hlocks
      · skip
        have hjz : j < ((568 - (xs.length + 1)) % 64 + 6) := lt_of (a := ((568 - (xs.length + 1)) % 64 + 6)) (by omega) (by omega) h44
        refine lv_aload_n hx hb dX1_padMessage_47 rfl (lv_at hl 0 rfl) ?_
        refine g_X1_message Cx hG hH q_fl_X1_16 dX1_padMessage_48 ?_
        refine lv_iconst (v := 0) hx hb dX1_padMessage_51 (by decide) ?_
        refine mv_callV (Y := mLC) (C := RX0) (k := 2) (i := 2) (rest := []) Cx hG hH hS (c_X0_put l E A hO S1 2 (by decide) ((xs ++ [(128 : Int32).toInt8]) ++ List.replicate j ((0 : Int32).toInt8)) hinv.1 0 (by simp only [List.length_append, List.length_replicate, List.length_singleton, mLn_2]; omega)) q_co_X0_put q_ml_X1_64 q_im_X0_put q_se_X0_put q_in_X0 (okC_2 (by decide)) rfl rfl hd_X0_put ⟨Nat.le_of_ble_eq_true rfl, Nat.le_of_ble_eq_true rfl⟩ rfl hl.1 rfl (Nat.le_of_ble_eq_true rfl) ⟨Nat.le_of_ble_eq_true rfl, Nat.le_of_ble_eq_true rfl⟩ dX1_padMessage_52 (fun S52 H locs hP52 hH hS => ?_)
        refine W.eq (g2 := F0 m 55 ls []) rfl ?_
        refine lv_iinc (v := nI (j + 1)) (lv' := [(3, .int (nI (j + 1))), (0, .ref (mAdC E 1 0)), (1, .int (nI xs.length * 8)), (2, .int (nI ((568 - (xs.length + 1)) % 64 + 6)))]) hx hb dX1_padMessage_55 hl (k := 3) rfl (i2_1 j) (by decide) rfl (fun ls hl => ?_)
        refine lv_goto (tgt := 42) hx hb dX1_padMessage_58 (by decide) ?_
        exact ih (j + 1) S52 _ _ ls  (by omega) (by omega) (⟨by rw [List.replicate_succ', ← List.append_assoc]; exact hP52.1, hinv.2.tr hP52.2⟩) hH hS (lv_sub hl [1, 2, 3, 0] rfl)
  exact lp (((568 - (xs.length + 1)) % 64 + 6) - 0 + 1) 0 S18 _ _ ls  (by omega) (by omega) (⟨by simpa using hP18.1, hP18.2⟩) hH hS (lv_sub hl [3, 2, 1, 0] rfl)

set_option maxHeartbeats 4000000 in
set_option maxRecDepth 100000 in
theorem c_X1_spreadBlock (l : Launch) (E : mEv) (A : Nat → Prop) (hO : mOwn mLC E A) (S : mSt) (a : Nat) (ha : a + 64 ≤ 512) : Met l yX1_spreadBlock (Cond.code yX1_spreadBlock cX1_spreadBlock 7 none :: mv_ws) (mRm 1 21) (mPc mLC E A S [.ref (mAdC E 1 0), .int (nI a)]) (mQ mLC E A (fun S' => (∀ q, q < 16 + 48 → S'.1 5 0 q = schN (fun q => mW4 (S.2.1 3 2) (a + 4 * q)) 48 q) ∧ mSame (fun k _ => k = 5) S S') none) 0 0 A := by
  refine Met.ofW (cc := cX1_spreadBlock) (maxL := 7) (ret := none) (by decide) rfl ?_
  intro p e s m args below meth c s₁ B hml hv
  obtain ⟨rfl, hG, hH⟩ := hv
  have hx := B.exec
  have hb := B.bytes
  have hr := B.returns
  have hlocks := B.notSynchronized
  have Cx : CallFix p m c cX1_spreadBlock 7 s ([.ref (mAdC E 1 0), .int (nI a)] : List Value).toArray (Cond.code yX1_spreadBlock cX1_spreadBlock 7 none :: mv_ws) RX1 := ⟨hx, hb, hml, findClass_of_methodNamed B.named, atoms_spec (ws := Cond.code yX1_spreadBlock cX1_spreadBlock 7 none :: mv_ws) B.pre⟩
  have hS : va_S A s.heap s.heap [] := va_S.rf
  have hl := lv_entry ([.ref (mAdC E 1 0), .int (nI a)]) (n := 7) (Nat.le_of_ble_eq_true rfl)
  rw [lg_entry_eq]
  generalize (lg_sl ([.ref (mAdC E 1 0), .int (nI a)]) ++ List.replicate (7 - (lg_sl ([.ref (mAdC E 1 0), .int (nI a)])).length) Slot.unset).toArray = ls at hl ⊢
  have hl : lv_has ls 7 [(0, .ref (mAdC E 1 0)), (1, .int (nI a))] := hl
  refine lv_iconst (v := 0) hx hb dX1_spreadBlock_0 (by decide) ?_
  refine mv_eqi (x' := nI 0) (rfl) ?_
  refine lv_istore_n (lv' := [(2, .int (nI 0)), (0, .ref (mAdC E 1 0)), (1, .int (nI a))]) hx hb dX1_spreadBlock_1 rfl hl (by decide) rfl (fun ls hl => ?_)
  have lp : ∀ (n j : Nat) (S1 : mSt) (H : Heap) (locs : List Loc) (ls : Array Slot) , 16 - j < n → j ≤ 16 → ((∀ q, q < j → S1.1 5 0 q = (fun q => mW4 (S.2.1 3 2) (a + 4 * q)) q) ∧ mSame (fun k _ => k = 5) S S1) → mHold mLC E S1 H → va_S A s.heap H locs → lv_has ls 7 [(0, .ref (mAdC E 1 0)), (1, .int (nI a)), (2, .int (nI j))] → W p l e (headSpec (Cond.code yX1_spreadBlock cX1_spreadBlock 7 none :: mv_ws) (mRm 1 21)).room s m ([.ref (mAdC E 1 0), .int (nI a)] : List Value).toArray below meth c H locs 0 0 (MQ below (mQ mLC E A (fun S' => (∀ q, q < 16 + 48 → S'.1 5 0 q = schN (fun q => mW4 (S.2.1 3 2) (a + 4 * q)) 48 q) ∧ mSame (fun k _ => k = 5) S S') none) ([.ref (mAdC E 1 0), .int (nI a)] : List Value).toArray s 0 0 A) (F0 m 2 ls []) := by
    intro n
    induction n with
    | zero => intro j S1 H locs ls  hn hj hinv hH hS hl; omega
    | succ n ih =>
      intro j S1 H locs ls  hn hj hinv hH hS hl
      refine lv_iload_n hx hb dX1_spreadBlock_2 rfl (lv_at hl 2 rfl) ?_
      refine lv_bipush (v := 16) hx hb dX1_spreadBlock_3 (by decide) ?_
      refine lv_icmp_ge (tgt := 32) hx hb dX1_spreadBlock_5 (by decide) (fun h5 => ?_) (fun h5 => ?_)
      · skip
        have hj16 : j = 16 := by have := ge_of (a := 16) (by decide) (by omega) h5; omega
        refine lv_bipush (v := 16) hx hb dX1_spreadBlock_32 (by decide) ?_
        refine mv_eqi (x' := nI (16 + 0)) (rfl) ?_
        refine lv_istore_n (lv' := [(2, .int (nI (16 + 0))), (0, .ref (mAdC E 1 0)), (1, .int (nI a))]) hx hb dX1_spreadBlock_34 rfl hl (by decide) rfl (fun ls hl => ?_)
        have lp2 : ∀ (n t : Nat) (S2 : mSt) (H : Heap) (locs : List Loc) (ls : Array Slot) , 48 - t < n → t ≤ 48 → ((∀ q, q < 16 + t → S2.1 5 0 q = schN (fun q => mW4 (S.2.1 3 2) (a + 4 * q)) t q) ∧ mSame (fun k _ => k = 5) S S2) → mHold mLC E S2 H → va_S A s.heap H locs → lv_has ls 7 [(0, .ref (mAdC E 1 0)), (1, .int (nI a)), (2, .int (nI (16 + t)))] → W p l e (headSpec (Cond.code yX1_spreadBlock cX1_spreadBlock 7 none :: mv_ws) (mRm 1 21)).room s m ([.ref (mAdC E 1 0), .int (nI a)] : List Value).toArray below meth c H locs 0 0 (MQ below (mQ mLC E A (fun S' => (∀ q, q < 16 + 48 → S'.1 5 0 q = schN (fun q => mW4 (S.2.1 3 2) (a + 4 * q)) 48 q) ∧ mSame (fun k _ => k = 5) S S') none) ([.ref (mAdC E 1 0), .int (nI a)] : List Value).toArray s 0 0 A) (F0 m 35 ls []) := by
          intro n
          induction n with
          | zero => intro t S2 H locs ls  hn2 ht hin2 hH hS hl; omega
          | succ n ih =>
            intro t S2 H locs ls  hn2 ht hin2 hH hS hl
            refine lv_iload_n hx hb dX1_spreadBlock_35 rfl (lv_at hl 2 rfl) ?_
            refine lv_bipush (v := 64) hx hb dX1_spreadBlock_36 (by decide) ?_
            refine lv_icmp_ge (tgt := 154) hx hb dX1_spreadBlock_38 (by decide) (fun h38 => ?_) (fun h38 => ?_)
            · skip
              have ht48 : t = 48 := by have := ge_of (a := 64) (by decide) (by omega) h38; omega
              exact mv_retv Cx hr hH hS (by subst ht48; exact hin2) dX1_spreadBlock_154 hlocks
            · skip
              have ht48 : t < 48 := by have := lt_of (a := 64) (by decide) (by omega) h38; omega
              refine lv_aload_n hx hb dX1_spreadBlock_41 rfl (lv_at hl 0 rfl) ?_
              refine g_X1_words Cx hG hH q_fl_X1_24 dX1_spreadBlock_42 ?_
              refine lv_iload_n hx hb dX1_spreadBlock_45 rfl (lv_at hl 2 rfl) ?_
              refine lv_bipush (v := 15) hx hb dX1_spreadBlock_46 (by decide) ?_
              refine lv_isub hx hb dX1_spreadBlock_48 ?_
              refine mv_eqi (x' := nI (16 + t - 15)) (pk_sub (a := 16 + t) (b := 15) (by omega)) ?_
              refine mv_ial Cx hG hH isC_5 (16 + t - 15) (rfl) (by omega) dX1_spreadBlock_49 ?_
              refine lv_istore_n (lv' := [(3, .int (S2.1 5 0 (16 + t - 15))), (0, .ref (mAdC E 1 0)), (1, .int (nI a)), (2, .int (nI (16 + t)))]) hx hb dX1_spreadBlock_50 rfl hl (by decide) rfl (fun ls hl => ?_)
              refine lv_aload_n hx hb dX1_spreadBlock_51 rfl (lv_at hl 1 rfl) ?_
              refine g_X1_words Cx hG hH q_fl_X1_24 dX1_spreadBlock_52 ?_
              refine lv_iload_n hx hb dX1_spreadBlock_55 rfl (lv_at hl 3 rfl) ?_
              refine lv_iconst (v := 2) hx hb dX1_spreadBlock_56 (by decide) ?_
              refine lv_isub hx hb dX1_spreadBlock_57 ?_
              refine mv_eqi (x' := nI (16 + t - 2)) (pk_sub (a := 16 + t) (b := 2) (by omega)) ?_
              refine mv_ial Cx hG hH isC_5 (16 + t - 2) (rfl) (by omega) dX1_spreadBlock_58 ?_
              refine lv_istore (lv' := [(4, .int (S2.1 5 0 (16 + t - 2))), (3, .int (S2.1 5 0 (16 + t - 15))), (0, .ref (mAdC E 1 0)), (1, .int (nI a)), (2, .int (nI (16 + t)))]) hx hb dX1_spreadBlock_59 hl (by decide) rfl (fun ls hl => ?_)
              refine lv_iload_n hx hb dX1_spreadBlock_61 rfl (lv_at hl 1 rfl) ?_
              refine lv_bipush (v := 7) hx hb dX1_spreadBlock_62 (by decide) ?_
              refine lv_iushr hx hb dX1_spreadBlock_64 rfl ?_
              refine lv_iload_n hx hb dX1_spreadBlock_65 rfl (lv_at hl 1 rfl) ?_
              refine lv_bipush (v := 25) hx hb dX1_spreadBlock_66 (by decide) ?_
              refine lv_ishl hx hb dX1_spreadBlock_68 ?_
              refine lv_ior hx hb dX1_spreadBlock_69 ?_
              refine lv_iload_n hx hb dX1_spreadBlock_70 rfl (lv_at hl 1 rfl) ?_
              refine lv_bipush (v := 18) hx hb dX1_spreadBlock_71 (by decide) ?_
              refine lv_iushr hx hb dX1_spreadBlock_73 rfl ?_
              refine lv_iload_n hx hb dX1_spreadBlock_74 rfl (lv_at hl 1 rfl) ?_
              refine lv_bipush (v := 14) hx hb dX1_spreadBlock_75 (by decide) ?_
              refine lv_ishl hx hb dX1_spreadBlock_77 ?_
              refine lv_ior hx hb dX1_spreadBlock_78 ?_
              refine lv_ixor hx hb dX1_spreadBlock_79 ?_
              refine lv_iload_n hx hb dX1_spreadBlock_80 rfl (lv_at hl 1 rfl) ?_
              refine lv_iconst (v := 3) hx hb dX1_spreadBlock_81 (by decide) ?_
              refine lv_iushr hx hb dX1_spreadBlock_82 rfl ?_
              refine lv_ixor hx hb dX1_spreadBlock_83 ?_
              refine lv_istore (lv' := [(5, .int ((((((S2.1 5 0 (16 + t - 15)).toUInt32 >>> ((7 : Int32).toUInt32 &&& Int32.toUInt32 31)).toInt32) ||| ((S2.1 5 0 (16 + t - 15)) <<< (25 &&& 31))) ^^^ ((((S2.1 5 0 (16 + t - 15)).toUInt32 >>> ((18 : Int32).toUInt32 &&& Int32.toUInt32 31)).toInt32) ||| ((S2.1 5 0 (16 + t - 15)) <<< (14 &&& 31)))) ^^^ (((S2.1 5 0 (16 + t - 15)).toUInt32 >>> ((3 : Int32).toUInt32 &&& Int32.toUInt32 31)).toInt32))), (4, .int (S2.1 5 0 (16 + t - 2))), (3, .int (S2.1 5 0 (16 + t - 15))), (0, .ref (mAdC E 1 0)), (1, .int (nI a)), (2, .int (nI (16 + t)))]) hx hb dX1_spreadBlock_84 hl (by decide) rfl (fun ls hl => ?_)
              refine lv_iload hx hb dX1_spreadBlock_86 (lv_at hl 1 rfl) ?_
              refine lv_bipush (v := 17) hx hb dX1_spreadBlock_88 (by decide) ?_
              refine lv_iushr hx hb dX1_spreadBlock_90 rfl ?_
              refine lv_iload hx hb dX1_spreadBlock_91 (lv_at hl 1 rfl) ?_
              refine lv_bipush (v := 15) hx hb dX1_spreadBlock_93 (by decide) ?_
              refine lv_ishl hx hb dX1_spreadBlock_95 ?_
              refine lv_ior hx hb dX1_spreadBlock_96 ?_
              refine lv_iload hx hb dX1_spreadBlock_97 (lv_at hl 1 rfl) ?_
              refine lv_bipush (v := 19) hx hb dX1_spreadBlock_99 (by decide) ?_
              refine lv_iushr hx hb dX1_spreadBlock_101 rfl ?_
              refine lv_iload hx hb dX1_spreadBlock_102 (lv_at hl 1 rfl) ?_
              refine lv_bipush (v := 13) hx hb dX1_spreadBlock_104 (by decide) ?_
              refine lv_ishl hx hb dX1_spreadBlock_106 ?_
              refine lv_ior hx hb dX1_spreadBlock_107 ?_
              refine lv_ixor hx hb dX1_spreadBlock_108 ?_
              refine lv_iload hx hb dX1_spreadBlock_109 (lv_at hl 1 rfl) ?_
              refine lv_bipush (v := 10) hx hb dX1_spreadBlock_111 (by decide) ?_
              refine lv_iushr hx hb dX1_spreadBlock_113 rfl ?_
              refine lv_ixor hx hb dX1_spreadBlock_114 ?_
              refine lv_istore (lv' := [(6, .int ((((((S2.1 5 0 (16 + t - 2)).toUInt32 >>> ((17 : Int32).toUInt32 &&& Int32.toUInt32 31)).toInt32) ||| ((S2.1 5 0 (16 + t - 2)) <<< (15 &&& 31))) ^^^ ((((S2.1 5 0 (16 + t - 2)).toUInt32 >>> ((19 : Int32).toUInt32 &&& Int32.toUInt32 31)).toInt32) ||| ((S2.1 5 0 (16 + t - 2)) <<< (13 &&& 31)))) ^^^ (((S2.1 5 0 (16 + t - 2)).toUInt32 >>> ((10 : Int32).toUInt32 &&& Int32.toUInt32 31)).toInt32))), (5, .int ((((((S2.1 5 0 (16 + t - 15)).toUInt32 >>> ((7 : Int32).toUInt32 &&& Int32.toUInt32 31)).toInt32) ||| ((S2.1 5 0 (16 + t - 15)) <<< (25 &&& 31))) ^^^ ((((S2.1 5 0 (16 + t - 15)).toUInt32 >>> ((18 : Int32).toUInt32 &&& Int32.toUInt32 31)).toInt32) ||| ((S2.1 5 0 (16 + t - 15)) <<< (14 &&& 31)))) ^^^ (((S2.1 5 0 (16 + t - 15)).toUInt32 >>> ((3 : Int32).toUInt32 &&& Int32.toUInt32 31)).toInt32))), (4, .int (S2.1 5 0 (16 + t - 2))), (3, .int (S2.1 5 0 (16 + t - 15))), (0, .ref (mAdC E 1 0)), (1, .int (nI a)), (2, .int (nI (16 + t)))]) hx hb dX1_spreadBlock_115 hl (by decide) rfl (fun ls hl => ?_)
              refine lv_aload_n hx hb dX1_spreadBlock_117 rfl (lv_at hl 4 rfl) ?_
              refine g_X1_words Cx hG hH q_fl_X1_24 dX1_spreadBlock_118 ?_
              refine lv_iload_n hx hb dX1_spreadBlock_121 rfl (lv_at hl 6 rfl) ?_
              refine lv_aload_n hx hb dX1_spreadBlock_122 rfl (lv_at hl 4 rfl) ?_
              refine g_X1_words Cx hG hH q_fl_X1_24 dX1_spreadBlock_123 ?_
              refine lv_iload_n hx hb dX1_spreadBlock_126 rfl (lv_at hl 6 rfl) ?_
              refine lv_bipush (v := 16) hx hb dX1_spreadBlock_127 (by decide) ?_
              refine lv_isub hx hb dX1_spreadBlock_129 ?_
              refine mv_eqi (x' := nI (16 + t - 16)) (pk_sub (a := 16 + t) (b := 16) (by omega)) ?_
              refine mv_ial Cx hG hH isC_5 (16 + t - 16) (rfl) (by omega) dX1_spreadBlock_130 ?_
              refine lv_iload hx hb dX1_spreadBlock_131 (lv_at hl 1 rfl) ?_
              refine lv_iadd hx hb dX1_spreadBlock_133 ?_
              refine lv_aload_n hx hb dX1_spreadBlock_134 rfl (lv_at hl 4 rfl) ?_
              refine g_X1_words Cx hG hH q_fl_X1_24 dX1_spreadBlock_135 ?_
              refine lv_iload_n hx hb dX1_spreadBlock_138 rfl (lv_at hl 6 rfl) ?_
              refine lv_bipush (v := 7) hx hb dX1_spreadBlock_139 (by decide) ?_
              refine lv_isub hx hb dX1_spreadBlock_141 ?_
              refine mv_eqi (x' := nI (16 + t - 7)) (pk_sub (a := 16 + t) (b := 7) (by omega)) ?_
              refine mv_ial Cx hG hH isC_5 (16 + t - 7) (rfl) (by omega) dX1_spreadBlock_142 ?_
              refine lv_iadd hx hb dX1_spreadBlock_143 ?_
              refine lv_iload hx hb dX1_spreadBlock_144 (lv_at hl 0 rfl) ?_
              refine lv_iadd hx hb dX1_spreadBlock_146 ?_
              refine mv_ias Cx hG hO hH hS isC_5 (16 + t) (rfl) (by omega) dX1_spreadBlock_147 (fun H locs hH hS => ?_)
              refine lv_iinc (v := nI (16 + (t + 1))) (lv' := [(2, .int (nI (16 + (t + 1)))), (6, .int ((((((S2.1 5 0 (16 + t - 2)).toUInt32 >>> ((17 : Int32).toUInt32 &&& Int32.toUInt32 31)).toInt32) ||| ((S2.1 5 0 (16 + t - 2)) <<< (15 &&& 31))) ^^^ ((((S2.1 5 0 (16 + t - 2)).toUInt32 >>> ((19 : Int32).toUInt32 &&& Int32.toUInt32 31)).toInt32) ||| ((S2.1 5 0 (16 + t - 2)) <<< (13 &&& 31)))) ^^^ (((S2.1 5 0 (16 + t - 2)).toUInt32 >>> ((10 : Int32).toUInt32 &&& Int32.toUInt32 31)).toInt32))), (5, .int ((((((S2.1 5 0 (16 + t - 15)).toUInt32 >>> ((7 : Int32).toUInt32 &&& Int32.toUInt32 31)).toInt32) ||| ((S2.1 5 0 (16 + t - 15)) <<< (25 &&& 31))) ^^^ ((((S2.1 5 0 (16 + t - 15)).toUInt32 >>> ((18 : Int32).toUInt32 &&& Int32.toUInt32 31)).toInt32) ||| ((S2.1 5 0 (16 + t - 15)) <<< (14 &&& 31)))) ^^^ (((S2.1 5 0 (16 + t - 15)).toUInt32 >>> ((3 : Int32).toUInt32 &&& Int32.toUInt32 31)).toInt32))), (4, .int (S2.1 5 0 (16 + t - 2))), (3, .int (S2.1 5 0 (16 + t - 15))), (0, .ref (mAdC E 1 0)), (1, .int (nI a))]) hx hb dX1_spreadBlock_148 hl (k := 6) rfl (i2_1 (16 + t)) (by decide) rfl (fun ls hl => ?_)
              refine lv_goto (tgt := 35) hx hb dX1_spreadBlock_151 (by decide) ?_
              exact ih (t + 1) (mM S2 5 0 (16 + t) ((((S2.1 5 0 (16 + t - 16)) + ((((((S2.1 5 0 (16 + t - 15)).toUInt32 >>> ((7 : Int32).toUInt32 &&& Int32.toUInt32 31)).toInt32) ||| ((S2.1 5 0 (16 + t - 15)) <<< (25 &&& 31))) ^^^ ((((S2.1 5 0 (16 + t - 15)).toUInt32 >>> ((18 : Int32).toUInt32 &&& Int32.toUInt32 31)).toInt32) ||| ((S2.1 5 0 (16 + t - 15)) <<< (14 &&& 31)))) ^^^ (((S2.1 5 0 (16 + t - 15)).toUInt32 >>> ((3 : Int32).toUInt32 &&& Int32.toUInt32 31)).toInt32))) + (S2.1 5 0 (16 + t - 7))) + ((((((S2.1 5 0 (16 + t - 2)).toUInt32 >>> ((17 : Int32).toUInt32 &&& Int32.toUInt32 31)).toInt32) ||| ((S2.1 5 0 (16 + t - 2)) <<< (15 &&& 31))) ^^^ ((((S2.1 5 0 (16 + t - 2)).toUInt32 >>> ((19 : Int32).toUInt32 &&& Int32.toUInt32 31)).toInt32) ||| ((S2.1 5 0 (16 + t - 2)) <<< (13 &&& 31)))) ^^^ (((S2.1 5 0 (16 + t - 2)).toUInt32 >>> ((10 : Int32).toUInt32 &&& Int32.toUInt32 31)).toInt32)))) _ _ ls  (by omega) (by omega) (by
                              refine ⟨fun q hq => ?_, hin2.2.tr (mSame.M rfl)⟩
                              show _ = va_up (schN (fun q => mW4 (S.2.1 3 2) (a + 4 * q)) t) (16 + t) (schV (schN (fun q => mW4 (S.2.1 3 2) (a + 4 * q)) t) (16 + t)) q
                              by_cases e : q = 16 + t
                              · subst e
                                rw [va_up_self]
                                unfold schV
                                rw [← hin2.1 (16 + t - 16) (by omega), ← hin2.1 (16 + t - 15) (by omega), ← hin2.1 (16 + t - 7) (by omega), ← hin2.1 (16 + t - 2) (by omega)]
                                simp [mM, m3]
                              · rw [va_up_ne _ _ e]
                                simp only [mM, m3, e, and_false, if_false]
                                exact hin2.1 q (by omega)) hH hS (lv_sub hl [5, 6, 0] rfl)
        exact lp2 (48 - 0 + 1) 0 S1 _ _ ls  (by omega) (by omega) (by subst hj16; exact hinv) hH hS (lv_sub hl [1, 2, 0] rfl)
      · skip
        have hj16 : j < 16 := lt_of (a := 16) (by decide) (by omega) h5
        refine lv_aload_n hx hb dX1_spreadBlock_8 rfl (lv_at hl 0 rfl) ?_
        refine g_X1_words Cx hG hH q_fl_X1_24 dX1_spreadBlock_9 ?_
        refine lv_iload_n hx hb dX1_spreadBlock_12 rfl (lv_at hl 2 rfl) ?_
        refine lv_aload_n hx hb dX1_spreadBlock_13 rfl (lv_at hl 0 rfl) ?_
        refine g_X1_message Cx hG hH q_fl_X1_16 dX1_spreadBlock_14 ?_
        refine lv_iload_n hx hb dX1_spreadBlock_17 rfl (lv_at hl 1 rfl) ?_
        refine lv_iconst (v := 4) hx hb dX1_spreadBlock_18 (by decide) ?_
        refine lv_iload_n hx hb dX1_spreadBlock_19 rfl (lv_at hl 2 rfl) ?_
        refine lv_imul hx hb dX1_spreadBlock_20 ?_
        refine lv_iadd hx hb dX1_spreadBlock_21 ?_
        refine mv_eqi (x' := nI (a + 4 * j)) (by rw [show (4 : Int32) = nI 4 from rfl, pk_mul, nI_add]) ?_
        refine mv_callV (Y := mLC) (C := RX0) (k := 2) (i := 2) (rest := [.int (nI j), .ref (mAdC E 5 0)]) Cx hG hH hS (c_X0_intAt l E A hO S1 2 (by decide) (a + 4 * j) (by rw [mLn_2]; omega)) q_co_X0_intAt q_ml_X1_73 q_im_X0_intAt q_se_X0_intAt q_in_X0 (okC_2 (by decide)) rfl rfl hd_X0_intAt ⟨Nat.le_of_ble_eq_true rfl, Nat.le_of_ble_eq_true rfl⟩ rfl hl.1 rfl (Nat.le_of_ble_eq_true rfl) ⟨Nat.le_of_ble_eq_true rfl, Nat.le_of_ble_eq_true rfl⟩ dX1_spreadBlock_22 (fun S22 H locs hP22 hH hS => ?_)
        refine W.eq (g2 := F0 m 25 ls [.int (mW4 (S1.2.1 3 2) (a + 4 * j)), .int (nI j), .ref (mAdC E 5 0)]) rfl ?_
        have hH := mv_S hP22 hH
        refine mv_ias Cx hG hO hH hS isC_5 j (rfl) (by omega) dX1_spreadBlock_25 (fun H locs hH hS => ?_)
        refine lv_iinc (v := nI (j + 1)) (lv' := [(2, .int (nI (j + 1))), (0, .ref (mAdC E 1 0)), (1, .int (nI a))]) hx hb dX1_spreadBlock_26 hl (k := 2) rfl (i2_1 j) (by decide) rfl (fun ls hl => ?_)
        refine lv_goto (tgt := 2) hx hb dX1_spreadBlock_29 (by decide) ?_
        exact ih (j + 1) (mM S1 5 0 j (mW4 (S1.2.1 3 2) (a + 4 * j))) _ _ ls  (by omega) (by omega) (⟨mM_fill hinv.1 (by rw [show S1.2.1 3 2 = S.2.1 3 2 from funext (hinv.2 3 2 (by decide)).2.1]), hinv.2.tr (mSame.M rfl)⟩) hH hS (lv_sub hl [1, 2, 0] rfl)
  exact lp (16 - 0 + 1) 0 S _ _ ls  (by omega) (by omega) (⟨fun q h => absurd h (Nat.not_lt_zero _), mSame.rf⟩) hH hS (lv_sub hl [1, 2, 0] rfl)

set_option maxHeartbeats 4000000 in
set_option maxRecDepth 100000 in
theorem c_X1_mixBlock (l : Launch) (E : mEv) (A : Nat → Prop) (hO : mOwn mLC E A) (S : mSt)  : Met l yX1_mixBlock (Cond.code yX1_mixBlock cX1_mixBlock 14 none :: mv_ws) (mRm 0 0) (mPc mLC E A S [.ref (mAdC E 1 0)]) (mQ mLC E A (fun S' => (∀ q, q < 8 → S'.1 4 0 q = S.1 4 0 q + rndN (fun q => S.1 5 0 q) (fun q => S.1 4 0 q) 64 q) ∧ mSame (fun k _ => k = 4) S S') none) 0 0 A := by
  refine Met.ofW (cc := cX1_mixBlock) (maxL := 14) (ret := none) (by decide) rfl ?_
  intro p e s m args below meth c s₁ B hml hv
  obtain ⟨rfl, hG, hH⟩ := hv
  have hx := B.exec
  have hb := B.bytes
  have hr := B.returns
  have hlocks := B.notSynchronized
  have Cx : CallFix p m c cX1_mixBlock 14 s ([.ref (mAdC E 1 0)] : List Value).toArray (Cond.code yX1_mixBlock cX1_mixBlock 14 none :: mv_ws) RX1 := ⟨hx, hb, hml, findClass_of_methodNamed B.named, atoms_spec (ws := Cond.code yX1_mixBlock cX1_mixBlock 14 none :: mv_ws) B.pre⟩
  have hS : va_S A s.heap s.heap [] := va_S.rf
  obtain ⟨tR, hZR, hTR⟩ := hG.2.2.2.1
  have hl := lv_entry ([.ref (mAdC E 1 0)]) (n := 14) (Nat.le_of_ble_eq_true rfl)
  rw [lg_entry_eq]
  generalize (lg_sl ([.ref (mAdC E 1 0)]) ++ List.replicate (14 - (lg_sl ([.ref (mAdC E 1 0)])).length) Slot.unset).toArray = ls at hl ⊢
  have hl : lv_has ls 14 [(0, .ref (mAdC E 1 0))] := hl
  refine lv_aload_n hx hb dX1_mixBlock_0 rfl (lv_at hl 0 rfl) ?_
  refine g_X1_sum Cx hG hH q_fl_X1_20 dX1_mixBlock_1 ?_
  refine lv_iconst (v := 0) hx hb dX1_mixBlock_4 (by decide) ?_
  refine mv_ial Cx hG hH isC_4 0 (rfl) (by decide) dX1_mixBlock_5 ?_
  refine lv_istore_n (lv' := [(1, .int (S.1 4 0 0)), (0, .ref (mAdC E 1 0))]) hx hb dX1_mixBlock_6 rfl hl (by decide) rfl (fun ls hl => ?_)
  refine lv_aload_n hx hb dX1_mixBlock_7 rfl (lv_at hl 1 rfl) ?_
  refine g_X1_sum Cx hG hH q_fl_X1_20 dX1_mixBlock_8 ?_
  refine lv_iconst (v := 1) hx hb dX1_mixBlock_11 (by decide) ?_
  refine mv_ial Cx hG hH isC_4 1 (rfl) (by decide) dX1_mixBlock_12 ?_
  refine lv_istore_n (lv' := [(2, .int (S.1 4 0 1)), (1, .int (S.1 4 0 0)), (0, .ref (mAdC E 1 0))]) hx hb dX1_mixBlock_13 rfl hl (by decide) rfl (fun ls hl => ?_)
  refine lv_aload_n hx hb dX1_mixBlock_14 rfl (lv_at hl 2 rfl) ?_
  refine g_X1_sum Cx hG hH q_fl_X1_20 dX1_mixBlock_15 ?_
  refine lv_iconst (v := 2) hx hb dX1_mixBlock_18 (by decide) ?_
  refine mv_ial Cx hG hH isC_4 2 (rfl) (by decide) dX1_mixBlock_19 ?_
  refine lv_istore_n (lv' := [(3, .int (S.1 4 0 2)), (2, .int (S.1 4 0 1)), (1, .int (S.1 4 0 0)), (0, .ref (mAdC E 1 0))]) hx hb dX1_mixBlock_20 rfl hl (by decide) rfl (fun ls hl => ?_)
  refine lv_aload_n hx hb dX1_mixBlock_21 rfl (lv_at hl 3 rfl) ?_
  refine g_X1_sum Cx hG hH q_fl_X1_20 dX1_mixBlock_22 ?_
  refine lv_iconst (v := 3) hx hb dX1_mixBlock_25 (by decide) ?_
  refine mv_ial Cx hG hH isC_4 3 (rfl) (by decide) dX1_mixBlock_26 ?_
  refine lv_istore (lv' := [(4, .int (S.1 4 0 3)), (3, .int (S.1 4 0 2)), (2, .int (S.1 4 0 1)), (1, .int (S.1 4 0 0)), (0, .ref (mAdC E 1 0))]) hx hb dX1_mixBlock_27 hl (by decide) rfl (fun ls hl => ?_)
  refine lv_aload_n hx hb dX1_mixBlock_29 rfl (lv_at hl 4 rfl) ?_
  refine g_X1_sum Cx hG hH q_fl_X1_20 dX1_mixBlock_30 ?_
  refine lv_iconst (v := 4) hx hb dX1_mixBlock_33 (by decide) ?_
  refine mv_ial Cx hG hH isC_4 4 (rfl) (by decide) dX1_mixBlock_34 ?_
  refine lv_istore (lv' := [(5, .int (S.1 4 0 4)), (4, .int (S.1 4 0 3)), (3, .int (S.1 4 0 2)), (2, .int (S.1 4 0 1)), (1, .int (S.1 4 0 0)), (0, .ref (mAdC E 1 0))]) hx hb dX1_mixBlock_35 hl (by decide) rfl (fun ls hl => ?_)
  refine lv_aload_n hx hb dX1_mixBlock_37 rfl (lv_at hl 5 rfl) ?_
  refine g_X1_sum Cx hG hH q_fl_X1_20 dX1_mixBlock_38 ?_
  refine lv_iconst (v := 5) hx hb dX1_mixBlock_41 (by decide) ?_
  refine mv_ial Cx hG hH isC_4 5 (rfl) (by decide) dX1_mixBlock_42 ?_
  refine lv_istore (lv' := [(6, .int (S.1 4 0 5)), (5, .int (S.1 4 0 4)), (4, .int (S.1 4 0 3)), (3, .int (S.1 4 0 2)), (2, .int (S.1 4 0 1)), (1, .int (S.1 4 0 0)), (0, .ref (mAdC E 1 0))]) hx hb dX1_mixBlock_43 hl (by decide) rfl (fun ls hl => ?_)
  refine lv_aload_n hx hb dX1_mixBlock_45 rfl (lv_at hl 6 rfl) ?_
  refine g_X1_sum Cx hG hH q_fl_X1_20 dX1_mixBlock_46 ?_
  refine lv_bipush (v := 6) hx hb dX1_mixBlock_49 (by decide) ?_
  refine mv_ial Cx hG hH isC_4 6 (rfl) (by decide) dX1_mixBlock_51 ?_
  refine lv_istore (lv' := [(7, .int (S.1 4 0 6)), (6, .int (S.1 4 0 5)), (5, .int (S.1 4 0 4)), (4, .int (S.1 4 0 3)), (3, .int (S.1 4 0 2)), (2, .int (S.1 4 0 1)), (1, .int (S.1 4 0 0)), (0, .ref (mAdC E 1 0))]) hx hb dX1_mixBlock_52 hl (by decide) rfl (fun ls hl => ?_)
  refine lv_aload_n hx hb dX1_mixBlock_54 rfl (lv_at hl 7 rfl) ?_
  refine g_X1_sum Cx hG hH q_fl_X1_20 dX1_mixBlock_55 ?_
  refine lv_bipush (v := 7) hx hb dX1_mixBlock_58 (by decide) ?_
  refine mv_ial Cx hG hH isC_4 7 (rfl) (by decide) dX1_mixBlock_60 ?_
  refine lv_istore (lv' := [(8, .int (S.1 4 0 7)), (7, .int (S.1 4 0 6)), (6, .int (S.1 4 0 5)), (5, .int (S.1 4 0 4)), (4, .int (S.1 4 0 3)), (3, .int (S.1 4 0 2)), (2, .int (S.1 4 0 1)), (1, .int (S.1 4 0 0)), (0, .ref (mAdC E 1 0))]) hx hb dX1_mixBlock_61 hl (by decide) rfl (fun ls hl => ?_)
  refine lv_iconst (v := 0) hx hb dX1_mixBlock_63 (by decide) ?_
  refine mv_eqi (x' := nI 0) (rfl) ?_
  refine lv_istore (lv' := [(9, .int (nI 0)), (8, .int (S.1 4 0 7)), (7, .int (S.1 4 0 6)), (6, .int (S.1 4 0 5)), (5, .int (S.1 4 0 4)), (4, .int (S.1 4 0 3)), (3, .int (S.1 4 0 2)), (2, .int (S.1 4 0 1)), (1, .int (S.1 4 0 0)), (0, .ref (mAdC E 1 0))]) hx hb dX1_mixBlock_64 hl (by decide) rfl (fun ls hl => ?_)
  have lp : ∀ (n j : Nat) (S1 : mSt) (H : Heap) (locs : List Loc) (ls : Array Slot) , 64 - j < n → j ≤ 64 → (S1 = S) → mHold mLC E S1 H → va_S A s.heap H locs → lv_has ls 14 [(0, .ref (mAdC E 1 0)), (1, .int (rndN (fun q => S.1 5 0 q) (fun q => S.1 4 0 q) j 0)), (2, .int (rndN (fun q => S.1 5 0 q) (fun q => S.1 4 0 q) j 1)), (3, .int (rndN (fun q => S.1 5 0 q) (fun q => S.1 4 0 q) j 2)), (4, .int (rndN (fun q => S.1 5 0 q) (fun q => S.1 4 0 q) j 3)), (5, .int (rndN (fun q => S.1 5 0 q) (fun q => S.1 4 0 q) j 4)), (6, .int (rndN (fun q => S.1 5 0 q) (fun q => S.1 4 0 q) j 5)), (7, .int (rndN (fun q => S.1 5 0 q) (fun q => S.1 4 0 q) j 6)), (8, .int (rndN (fun q => S.1 5 0 q) (fun q => S.1 4 0 q) j 7)), (9, .int (nI j))] → W p l e (headSpec (Cond.code yX1_mixBlock cX1_mixBlock 14 none :: mv_ws) (mRm 0 0)).room s m ([.ref (mAdC E 1 0)] : List Value).toArray below meth c H locs 0 0 (MQ below (mQ mLC E A (fun S' => (∀ q, q < 8 → S'.1 4 0 q = S.1 4 0 q + rndN (fun q => S.1 5 0 q) (fun q => S.1 4 0 q) 64 q) ∧ mSame (fun k _ => k = 4) S S') none) ([.ref (mAdC E 1 0)] : List Value).toArray s 0 0 A) (F0 m 66 ls []) := by
    intro n
    induction n with
    | zero => intro j S1 H locs ls  hn hj hinv hH hS hl; omega
    | succ n ih =>
      intro j S1 H locs ls  hn hj hinv hH hS hl
      have hH := mv_S hinv hH
      refine lv_iload hx hb dX1_mixBlock_66 (lv_at hl 9 rfl) ?_
      refine lv_bipush (v := 64) hx hb dX1_mixBlock_68 (by decide) ?_
      refine lv_icmp_ge (tgt := 230) hx hb dX1_mixBlock_70 (by decide) (fun h70 => ?_) (fun h70 => ?_)
      · skip
        have hj64 : j = 64 := by have := ge_of (a := 64) (by decide) (by omega) h70; omega
        subst hj64
        refine lv_aload_n hx hb dX1_mixBlock_230 rfl (lv_at hl 0 rfl) ?_
        refine g_X1_sum Cx hG hH q_fl_X1_20 dX1_mixBlock_231 ?_
        refine lv_iconst (v := 0) hx hb dX1_mixBlock_234 (by decide) ?_
        refine lv_dup2_11 hx hb dX1_mixBlock_235 rfl rfl ?_
        refine mv_ial Cx hG hH isC_4 0 (rfl) (by decide) dX1_mixBlock_236 ?_
        refine mv_eqi (x' := S.1 4 0 0) (by simp [mM, m3]) ?_
        refine lv_iload_n hx hb dX1_mixBlock_237 rfl (lv_at hl 1 rfl) ?_
        refine lv_iadd hx hb dX1_mixBlock_238 ?_
        refine mv_ias Cx hG hO hH hS isC_4 0 (rfl) (by decide) dX1_mixBlock_239 (fun H locs hH hS => ?_)
        refine lv_aload_n hx hb dX1_mixBlock_240 rfl (lv_at hl 0 rfl) ?_
        refine g_X1_sum Cx hG hH q_fl_X1_20 dX1_mixBlock_241 ?_
        refine lv_iconst (v := 1) hx hb dX1_mixBlock_244 (by decide) ?_
        refine lv_dup2_11 hx hb dX1_mixBlock_245 rfl rfl ?_
        refine mv_ial Cx hG hH isC_4 1 (rfl) (by decide) dX1_mixBlock_246 ?_
        refine mv_eqi (x' := S.1 4 0 1) (by simp [mM, m3]) ?_
        refine lv_iload_n hx hb dX1_mixBlock_247 rfl (lv_at hl 2 rfl) ?_
        refine lv_iadd hx hb dX1_mixBlock_248 ?_
        refine mv_ias Cx hG hO hH hS isC_4 1 (rfl) (by decide) dX1_mixBlock_249 (fun H locs hH hS => ?_)
        refine lv_aload_n hx hb dX1_mixBlock_250 rfl (lv_at hl 0 rfl) ?_
        refine g_X1_sum Cx hG hH q_fl_X1_20 dX1_mixBlock_251 ?_
        refine lv_iconst (v := 2) hx hb dX1_mixBlock_254 (by decide) ?_
        refine lv_dup2_11 hx hb dX1_mixBlock_255 rfl rfl ?_
        refine mv_ial Cx hG hH isC_4 2 (rfl) (by decide) dX1_mixBlock_256 ?_
        refine mv_eqi (x' := S.1 4 0 2) (by simp [mM, m3]) ?_
        refine lv_iload_n hx hb dX1_mixBlock_257 rfl (lv_at hl 3 rfl) ?_
        refine lv_iadd hx hb dX1_mixBlock_258 ?_
        refine mv_ias Cx hG hO hH hS isC_4 2 (rfl) (by decide) dX1_mixBlock_259 (fun H locs hH hS => ?_)
        refine lv_aload_n hx hb dX1_mixBlock_260 rfl (lv_at hl 0 rfl) ?_
        refine g_X1_sum Cx hG hH q_fl_X1_20 dX1_mixBlock_261 ?_
        refine lv_iconst (v := 3) hx hb dX1_mixBlock_264 (by decide) ?_
        refine lv_dup2_11 hx hb dX1_mixBlock_265 rfl rfl ?_
        refine mv_ial Cx hG hH isC_4 3 (rfl) (by decide) dX1_mixBlock_266 ?_
        refine mv_eqi (x' := S.1 4 0 3) (by simp [mM, m3]) ?_
        refine lv_iload hx hb dX1_mixBlock_267 (lv_at hl 4 rfl) ?_
        refine lv_iadd hx hb dX1_mixBlock_269 ?_
        refine mv_ias Cx hG hO hH hS isC_4 3 (rfl) (by decide) dX1_mixBlock_270 (fun H locs hH hS => ?_)
        refine lv_aload_n hx hb dX1_mixBlock_271 rfl (lv_at hl 0 rfl) ?_
        refine g_X1_sum Cx hG hH q_fl_X1_20 dX1_mixBlock_272 ?_
        refine lv_iconst (v := 4) hx hb dX1_mixBlock_275 (by decide) ?_
        refine lv_dup2_11 hx hb dX1_mixBlock_276 rfl rfl ?_
        refine mv_ial Cx hG hH isC_4 4 (rfl) (by decide) dX1_mixBlock_277 ?_
        refine mv_eqi (x' := S.1 4 0 4) (by simp [mM, m3]) ?_
        refine lv_iload hx hb dX1_mixBlock_278 (lv_at hl 5 rfl) ?_
        refine lv_iadd hx hb dX1_mixBlock_280 ?_
        refine mv_ias Cx hG hO hH hS isC_4 4 (rfl) (by decide) dX1_mixBlock_281 (fun H locs hH hS => ?_)
        refine lv_aload_n hx hb dX1_mixBlock_282 rfl (lv_at hl 0 rfl) ?_
        refine g_X1_sum Cx hG hH q_fl_X1_20 dX1_mixBlock_283 ?_
        refine lv_iconst (v := 5) hx hb dX1_mixBlock_286 (by decide) ?_
        refine lv_dup2_11 hx hb dX1_mixBlock_287 rfl rfl ?_
        refine mv_ial Cx hG hH isC_4 5 (rfl) (by decide) dX1_mixBlock_288 ?_
        refine mv_eqi (x' := S.1 4 0 5) (by simp [mM, m3]) ?_
        refine lv_iload hx hb dX1_mixBlock_289 (lv_at hl 6 rfl) ?_
        refine lv_iadd hx hb dX1_mixBlock_291 ?_
        refine mv_ias Cx hG hO hH hS isC_4 5 (rfl) (by decide) dX1_mixBlock_292 (fun H locs hH hS => ?_)
        refine lv_aload_n hx hb dX1_mixBlock_293 rfl (lv_at hl 0 rfl) ?_
        refine g_X1_sum Cx hG hH q_fl_X1_20 dX1_mixBlock_294 ?_
        refine lv_bipush (v := 6) hx hb dX1_mixBlock_297 (by decide) ?_
        refine lv_dup2_11 hx hb dX1_mixBlock_299 rfl rfl ?_
        refine mv_ial Cx hG hH isC_4 6 (rfl) (by decide) dX1_mixBlock_300 ?_
        refine mv_eqi (x' := S.1 4 0 6) (by simp [mM, m3]) ?_
        refine lv_iload hx hb dX1_mixBlock_301 (lv_at hl 7 rfl) ?_
        refine lv_iadd hx hb dX1_mixBlock_303 ?_
        refine mv_ias Cx hG hO hH hS isC_4 6 (rfl) (by decide) dX1_mixBlock_304 (fun H locs hH hS => ?_)
        refine lv_aload_n hx hb dX1_mixBlock_305 rfl (lv_at hl 0 rfl) ?_
        refine g_X1_sum Cx hG hH q_fl_X1_20 dX1_mixBlock_306 ?_
        refine lv_bipush (v := 7) hx hb dX1_mixBlock_309 (by decide) ?_
        refine lv_dup2_11 hx hb dX1_mixBlock_311 rfl rfl ?_
        refine mv_ial Cx hG hH isC_4 7 (rfl) (by decide) dX1_mixBlock_312 ?_
        refine mv_eqi (x' := S.1 4 0 7) (by simp [mM, m3]) ?_
        refine lv_iload hx hb dX1_mixBlock_313 (lv_at hl 8 rfl) ?_
        refine lv_iadd hx hb dX1_mixBlock_315 ?_
        refine mv_ias Cx hG hO hH hS isC_4 7 (rfl) (by decide) dX1_mixBlock_316 (fun H locs hH hS => ?_)
        exact mv_retv Cx hr hH hS (⟨fun q hq => by rcases (show q = 0 ∨ q = 1 ∨ q = 2 ∨ q = 3 ∨ q = 4 ∨ q = 5 ∨ q = 6 ∨ q = 7 by omega) with rfl | rfl | rfl | rfl | rfl | rfl | rfl | rfl <;> simp [mM, m3], (((((((mSame.M (X := fun k _ => k = 4) rfl).tr (mSame.M rfl)).tr (mSame.M rfl)).tr (mSame.M rfl)).tr (mSame.M rfl)).tr (mSame.M rfl)).tr (mSame.M rfl)).tr (mSame.M rfl)⟩) dX1_mixBlock_317 hlocks
      · skip
        have hj64 : j < 64 := lt_of (a := 64) (by decide) (by omega) h70
        refine lv_iload hx hb dX1_mixBlock_73 (lv_at hl 5 rfl) ?_
        refine lv_bipush (v := 6) hx hb dX1_mixBlock_75 (by decide) ?_
        refine lv_iushr hx hb dX1_mixBlock_77 rfl ?_
        refine lv_iload hx hb dX1_mixBlock_78 (lv_at hl 5 rfl) ?_
        refine lv_bipush (v := 26) hx hb dX1_mixBlock_80 (by decide) ?_
        refine lv_ishl hx hb dX1_mixBlock_82 ?_
        refine lv_ior hx hb dX1_mixBlock_83 ?_
        refine lv_iload hx hb dX1_mixBlock_84 (lv_at hl 5 rfl) ?_
        refine lv_bipush (v := 11) hx hb dX1_mixBlock_86 (by decide) ?_
        refine lv_iushr hx hb dX1_mixBlock_88 rfl ?_
        refine lv_iload hx hb dX1_mixBlock_89 (lv_at hl 5 rfl) ?_
        refine lv_bipush (v := 21) hx hb dX1_mixBlock_91 (by decide) ?_
        refine lv_ishl hx hb dX1_mixBlock_93 ?_
        refine lv_ior hx hb dX1_mixBlock_94 ?_
        refine lv_ixor hx hb dX1_mixBlock_95 ?_
        refine lv_iload hx hb dX1_mixBlock_96 (lv_at hl 5 rfl) ?_
        refine lv_bipush (v := 25) hx hb dX1_mixBlock_98 (by decide) ?_
        refine lv_iushr hx hb dX1_mixBlock_100 rfl ?_
        refine lv_iload hx hb dX1_mixBlock_101 (lv_at hl 5 rfl) ?_
        refine lv_bipush (v := 7) hx hb dX1_mixBlock_103 (by decide) ?_
        refine lv_ishl hx hb dX1_mixBlock_105 ?_
        refine lv_ior hx hb dX1_mixBlock_106 ?_
        refine lv_ixor hx hb dX1_mixBlock_107 ?_
        refine lv_istore (lv' := [(10, .int ((((((rndN (fun q => S.1 5 0 q) (fun q => S.1 4 0 q) j 4).toUInt32 >>> ((6 : Int32).toUInt32 &&& Int32.toUInt32 31)).toInt32) ||| ((rndN (fun q => S.1 5 0 q) (fun q => S.1 4 0 q) j 4) <<< (26 &&& 31))) ^^^ ((((rndN (fun q => S.1 5 0 q) (fun q => S.1 4 0 q) j 4).toUInt32 >>> ((11 : Int32).toUInt32 &&& Int32.toUInt32 31)).toInt32) ||| ((rndN (fun q => S.1 5 0 q) (fun q => S.1 4 0 q) j 4) <<< (21 &&& 31)))) ^^^ ((((rndN (fun q => S.1 5 0 q) (fun q => S.1 4 0 q) j 4).toUInt32 >>> ((25 : Int32).toUInt32 &&& Int32.toUInt32 31)).toInt32) ||| ((rndN (fun q => S.1 5 0 q) (fun q => S.1 4 0 q) j 4) <<< (7 &&& 31))))), (0, .ref (mAdC E 1 0)), (1, .int (rndN (fun q => S.1 5 0 q) (fun q => S.1 4 0 q) j 0)), (2, .int (rndN (fun q => S.1 5 0 q) (fun q => S.1 4 0 q) j 1)), (3, .int (rndN (fun q => S.1 5 0 q) (fun q => S.1 4 0 q) j 2)), (4, .int (rndN (fun q => S.1 5 0 q) (fun q => S.1 4 0 q) j 3)), (5, .int (rndN (fun q => S.1 5 0 q) (fun q => S.1 4 0 q) j 4)), (6, .int (rndN (fun q => S.1 5 0 q) (fun q => S.1 4 0 q) j 5)), (7, .int (rndN (fun q => S.1 5 0 q) (fun q => S.1 4 0 q) j 6)), (8, .int (rndN (fun q => S.1 5 0 q) (fun q => S.1 4 0 q) j 7)), (9, .int (nI j))]) hx hb dX1_mixBlock_108 hl (by decide) rfl (fun ls hl => ?_)
        refine lv_iload hx hb dX1_mixBlock_110 (lv_at hl 9 rfl) ?_
        refine lv_iload hx hb dX1_mixBlock_112 (lv_at hl 0 rfl) ?_
        refine lv_iadd hx hb dX1_mixBlock_114 ?_
        refine lv_iload hx hb dX1_mixBlock_115 (lv_at hl 6 rfl) ?_
        refine lv_iload hx hb dX1_mixBlock_117 (lv_at hl 7 rfl) ?_
        refine lv_iand hx hb dX1_mixBlock_119 ?_
        refine lv_iload hx hb dX1_mixBlock_120 (lv_at hl 6 rfl) ?_
        refine lv_iconst (v := (-1 : Int32)) hx hb dX1_mixBlock_122 (by decide) ?_
        refine lv_ixor hx hb dX1_mixBlock_123 ?_
        refine lv_iload hx hb dX1_mixBlock_124 (lv_at hl 8 rfl) ?_
        refine lv_iand hx hb dX1_mixBlock_126 ?_
        refine lv_ixor hx hb dX1_mixBlock_127 ?_
        refine lv_iadd hx hb dX1_mixBlock_128 ?_
        refine mv_sta Cx hS hZR q_fl_X1_77 dX1_mixBlock_129 ?_
        refine lv_iload hx hb dX1_mixBlock_132 (lv_at hl 10 rfl) ?_
        refine mv_stl Cx hS hTR (by decide) j (rfl) (hj64) dX1_mixBlock_134 ?_
        refine lv_iadd hx hb dX1_mixBlock_135 ?_
        refine lv_aload_n hx hb dX1_mixBlock_136 rfl (lv_at hl 1 rfl) ?_
        refine g_X1_words Cx hG hH q_fl_X1_24 dX1_mixBlock_137 ?_
        refine lv_iload hx hb dX1_mixBlock_140 (lv_at hl 10 rfl) ?_
        refine mv_ial Cx hG hH isC_5 j (rfl) (hj64) dX1_mixBlock_142 ?_
        refine lv_iadd hx hb dX1_mixBlock_143 ?_
        refine lv_istore (lv' := [(11, .int (((((rndN (fun q => S.1 5 0 q) (fun q => S.1 4 0 q) j 7) + ((((((rndN (fun q => S.1 5 0 q) (fun q => S.1 4 0 q) j 4).toUInt32 >>> ((6 : Int32).toUInt32 &&& Int32.toUInt32 31)).toInt32) ||| ((rndN (fun q => S.1 5 0 q) (fun q => S.1 4 0 q) j 4) <<< (26 &&& 31))) ^^^ ((((rndN (fun q => S.1 5 0 q) (fun q => S.1 4 0 q) j 4).toUInt32 >>> ((11 : Int32).toUInt32 &&& Int32.toUInt32 31)).toInt32) ||| ((rndN (fun q => S.1 5 0 q) (fun q => S.1 4 0 q) j 4) <<< (21 &&& 31)))) ^^^ ((((rndN (fun q => S.1 5 0 q) (fun q => S.1 4 0 q) j 4).toUInt32 >>> ((25 : Int32).toUInt32 &&& Int32.toUInt32 31)).toInt32) ||| ((rndN (fun q => S.1 5 0 q) (fun q => S.1 4 0 q) j 4) <<< (7 &&& 31))))) + (((rndN (fun q => S.1 5 0 q) (fun q => S.1 4 0 q) j 4) &&& (rndN (fun q => S.1 5 0 q) (fun q => S.1 4 0 q) j 5)) ^^^ (((rndN (fun q => S.1 5 0 q) (fun q => S.1 4 0 q) j 4) ^^^ (-1 : Int32)) &&& (rndN (fun q => S.1 5 0 q) (fun q => S.1 4 0 q) j 6)))) + (mK j)) + (S.1 5 0 j))), (10, .int ((((((rndN (fun q => S.1 5 0 q) (fun q => S.1 4 0 q) j 4).toUInt32 >>> ((6 : Int32).toUInt32 &&& Int32.toUInt32 31)).toInt32) ||| ((rndN (fun q => S.1 5 0 q) (fun q => S.1 4 0 q) j 4) <<< (26 &&& 31))) ^^^ ((((rndN (fun q => S.1 5 0 q) (fun q => S.1 4 0 q) j 4).toUInt32 >>> ((11 : Int32).toUInt32 &&& Int32.toUInt32 31)).toInt32) ||| ((rndN (fun q => S.1 5 0 q) (fun q => S.1 4 0 q) j 4) <<< (21 &&& 31)))) ^^^ ((((rndN (fun q => S.1 5 0 q) (fun q => S.1 4 0 q) j 4).toUInt32 >>> ((25 : Int32).toUInt32 &&& Int32.toUInt32 31)).toInt32) ||| ((rndN (fun q => S.1 5 0 q) (fun q => S.1 4 0 q) j 4) <<< (7 &&& 31))))), (0, .ref (mAdC E 1 0)), (1, .int (rndN (fun q => S.1 5 0 q) (fun q => S.1 4 0 q) j 0)), (2, .int (rndN (fun q => S.1 5 0 q) (fun q => S.1 4 0 q) j 1)), (3, .int (rndN (fun q => S.1 5 0 q) (fun q => S.1 4 0 q) j 2)), (4, .int (rndN (fun q => S.1 5 0 q) (fun q => S.1 4 0 q) j 3)), (5, .int (rndN (fun q => S.1 5 0 q) (fun q => S.1 4 0 q) j 4)), (6, .int (rndN (fun q => S.1 5 0 q) (fun q => S.1 4 0 q) j 5)), (7, .int (rndN (fun q => S.1 5 0 q) (fun q => S.1 4 0 q) j 6)), (8, .int (rndN (fun q => S.1 5 0 q) (fun q => S.1 4 0 q) j 7)), (9, .int (nI j))]) hx hb dX1_mixBlock_144 hl (by decide) rfl (fun ls hl => ?_)
        refine lv_iload_n hx hb dX1_mixBlock_146 rfl (lv_at hl 3 rfl) ?_
        refine lv_iconst (v := 2) hx hb dX1_mixBlock_147 (by decide) ?_
        refine lv_iushr hx hb dX1_mixBlock_148 rfl ?_
        refine lv_iload_n hx hb dX1_mixBlock_149 rfl (lv_at hl 3 rfl) ?_
        refine lv_bipush (v := 30) hx hb dX1_mixBlock_150 (by decide) ?_
        refine lv_ishl hx hb dX1_mixBlock_152 ?_
        refine lv_ior hx hb dX1_mixBlock_153 ?_
        refine lv_iload_n hx hb dX1_mixBlock_154 rfl (lv_at hl 3 rfl) ?_
        refine lv_bipush (v := 13) hx hb dX1_mixBlock_155 (by decide) ?_
        refine lv_iushr hx hb dX1_mixBlock_157 rfl ?_
        refine lv_iload_n hx hb dX1_mixBlock_158 rfl (lv_at hl 3 rfl) ?_
        refine lv_bipush (v := 19) hx hb dX1_mixBlock_159 (by decide) ?_
        refine lv_ishl hx hb dX1_mixBlock_161 ?_
        refine lv_ior hx hb dX1_mixBlock_162 ?_
        refine lv_ixor hx hb dX1_mixBlock_163 ?_
        refine lv_iload_n hx hb dX1_mixBlock_164 rfl (lv_at hl 3 rfl) ?_
        refine lv_bipush (v := 22) hx hb dX1_mixBlock_165 (by decide) ?_
        refine lv_iushr hx hb dX1_mixBlock_167 rfl ?_
        refine lv_iload_n hx hb dX1_mixBlock_168 rfl (lv_at hl 3 rfl) ?_
        refine lv_bipush (v := 10) hx hb dX1_mixBlock_169 (by decide) ?_
        refine lv_ishl hx hb dX1_mixBlock_171 ?_
        refine lv_ior hx hb dX1_mixBlock_172 ?_
        refine lv_ixor hx hb dX1_mixBlock_173 ?_
        refine lv_istore (lv' := [(12, .int ((((((rndN (fun q => S.1 5 0 q) (fun q => S.1 4 0 q) j 0).toUInt32 >>> ((2 : Int32).toUInt32 &&& Int32.toUInt32 31)).toInt32) ||| ((rndN (fun q => S.1 5 0 q) (fun q => S.1 4 0 q) j 0) <<< (30 &&& 31))) ^^^ ((((rndN (fun q => S.1 5 0 q) (fun q => S.1 4 0 q) j 0).toUInt32 >>> ((13 : Int32).toUInt32 &&& Int32.toUInt32 31)).toInt32) ||| ((rndN (fun q => S.1 5 0 q) (fun q => S.1 4 0 q) j 0) <<< (19 &&& 31)))) ^^^ ((((rndN (fun q => S.1 5 0 q) (fun q => S.1 4 0 q) j 0).toUInt32 >>> ((22 : Int32).toUInt32 &&& Int32.toUInt32 31)).toInt32) ||| ((rndN (fun q => S.1 5 0 q) (fun q => S.1 4 0 q) j 0) <<< (10 &&& 31))))), (11, .int (((((rndN (fun q => S.1 5 0 q) (fun q => S.1 4 0 q) j 7) + ((((((rndN (fun q => S.1 5 0 q) (fun q => S.1 4 0 q) j 4).toUInt32 >>> ((6 : Int32).toUInt32 &&& Int32.toUInt32 31)).toInt32) ||| ((rndN (fun q => S.1 5 0 q) (fun q => S.1 4 0 q) j 4) <<< (26 &&& 31))) ^^^ ((((rndN (fun q => S.1 5 0 q) (fun q => S.1 4 0 q) j 4).toUInt32 >>> ((11 : Int32).toUInt32 &&& Int32.toUInt32 31)).toInt32) ||| ((rndN (fun q => S.1 5 0 q) (fun q => S.1 4 0 q) j 4) <<< (21 &&& 31)))) ^^^ ((((rndN (fun q => S.1 5 0 q) (fun q => S.1 4 0 q) j 4).toUInt32 >>> ((25 : Int32).toUInt32 &&& Int32.toUInt32 31)).toInt32) ||| ((rndN (fun q => S.1 5 0 q) (fun q => S.1 4 0 q) j 4) <<< (7 &&& 31))))) + (((rndN (fun q => S.1 5 0 q) (fun q => S.1 4 0 q) j 4) &&& (rndN (fun q => S.1 5 0 q) (fun q => S.1 4 0 q) j 5)) ^^^ (((rndN (fun q => S.1 5 0 q) (fun q => S.1 4 0 q) j 4) ^^^ (-1 : Int32)) &&& (rndN (fun q => S.1 5 0 q) (fun q => S.1 4 0 q) j 6)))) + (mK j)) + (S.1 5 0 j))), (10, .int ((((((rndN (fun q => S.1 5 0 q) (fun q => S.1 4 0 q) j 4).toUInt32 >>> ((6 : Int32).toUInt32 &&& Int32.toUInt32 31)).toInt32) ||| ((rndN (fun q => S.1 5 0 q) (fun q => S.1 4 0 q) j 4) <<< (26 &&& 31))) ^^^ ((((rndN (fun q => S.1 5 0 q) (fun q => S.1 4 0 q) j 4).toUInt32 >>> ((11 : Int32).toUInt32 &&& Int32.toUInt32 31)).toInt32) ||| ((rndN (fun q => S.1 5 0 q) (fun q => S.1 4 0 q) j 4) <<< (21 &&& 31)))) ^^^ ((((rndN (fun q => S.1 5 0 q) (fun q => S.1 4 0 q) j 4).toUInt32 >>> ((25 : Int32).toUInt32 &&& Int32.toUInt32 31)).toInt32) ||| ((rndN (fun q => S.1 5 0 q) (fun q => S.1 4 0 q) j 4) <<< (7 &&& 31))))), (0, .ref (mAdC E 1 0)), (1, .int (rndN (fun q => S.1 5 0 q) (fun q => S.1 4 0 q) j 0)), (2, .int (rndN (fun q => S.1 5 0 q) (fun q => S.1 4 0 q) j 1)), (3, .int (rndN (fun q => S.1 5 0 q) (fun q => S.1 4 0 q) j 2)), (4, .int (rndN (fun q => S.1 5 0 q) (fun q => S.1 4 0 q) j 3)), (5, .int (rndN (fun q => S.1 5 0 q) (fun q => S.1 4 0 q) j 4)), (6, .int (rndN (fun q => S.1 5 0 q) (fun q => S.1 4 0 q) j 5)), (7, .int (rndN (fun q => S.1 5 0 q) (fun q => S.1 4 0 q) j 6)), (8, .int (rndN (fun q => S.1 5 0 q) (fun q => S.1 4 0 q) j 7)), (9, .int (nI j))]) hx hb dX1_mixBlock_174 hl (by decide) rfl (fun ls hl => ?_)
        refine lv_iload hx hb dX1_mixBlock_176 (lv_at hl 0 rfl) ?_
        refine lv_iload_n hx hb dX1_mixBlock_178 rfl (lv_at hl 4 rfl) ?_
        refine lv_iload_n hx hb dX1_mixBlock_179 rfl (lv_at hl 5 rfl) ?_
        refine lv_iand hx hb dX1_mixBlock_180 ?_
        refine lv_iload_n hx hb dX1_mixBlock_181 rfl (lv_at hl 4 rfl) ?_
        refine lv_iload_n hx hb dX1_mixBlock_182 rfl (lv_at hl 6 rfl) ?_
        refine lv_iand hx hb dX1_mixBlock_183 ?_
        refine lv_ixor hx hb dX1_mixBlock_184 ?_
        refine lv_iload_n hx hb dX1_mixBlock_185 rfl (lv_at hl 5 rfl) ?_
        refine lv_iload_n hx hb dX1_mixBlock_186 rfl (lv_at hl 6 rfl) ?_
        refine lv_iand hx hb dX1_mixBlock_187 ?_
        refine lv_ixor hx hb dX1_mixBlock_188 ?_
        refine lv_iadd hx hb dX1_mixBlock_189 ?_
        refine lv_istore (lv' := [(13, .int (((((((rndN (fun q => S.1 5 0 q) (fun q => S.1 4 0 q) j 0).toUInt32 >>> ((2 : Int32).toUInt32 &&& Int32.toUInt32 31)).toInt32) ||| ((rndN (fun q => S.1 5 0 q) (fun q => S.1 4 0 q) j 0) <<< (30 &&& 31))) ^^^ ((((rndN (fun q => S.1 5 0 q) (fun q => S.1 4 0 q) j 0).toUInt32 >>> ((13 : Int32).toUInt32 &&& Int32.toUInt32 31)).toInt32) ||| ((rndN (fun q => S.1 5 0 q) (fun q => S.1 4 0 q) j 0) <<< (19 &&& 31)))) ^^^ ((((rndN (fun q => S.1 5 0 q) (fun q => S.1 4 0 q) j 0).toUInt32 >>> ((22 : Int32).toUInt32 &&& Int32.toUInt32 31)).toInt32) ||| ((rndN (fun q => S.1 5 0 q) (fun q => S.1 4 0 q) j 0) <<< (10 &&& 31)))) + ((((rndN (fun q => S.1 5 0 q) (fun q => S.1 4 0 q) j 0) &&& (rndN (fun q => S.1 5 0 q) (fun q => S.1 4 0 q) j 1)) ^^^ ((rndN (fun q => S.1 5 0 q) (fun q => S.1 4 0 q) j 0) &&& (rndN (fun q => S.1 5 0 q) (fun q => S.1 4 0 q) j 2))) ^^^ ((rndN (fun q => S.1 5 0 q) (fun q => S.1 4 0 q) j 1) &&& (rndN (fun q => S.1 5 0 q) (fun q => S.1 4 0 q) j 2))))), (12, .int ((((((rndN (fun q => S.1 5 0 q) (fun q => S.1 4 0 q) j 0).toUInt32 >>> ((2 : Int32).toUInt32 &&& Int32.toUInt32 31)).toInt32) ||| ((rndN (fun q => S.1 5 0 q) (fun q => S.1 4 0 q) j 0) <<< (30 &&& 31))) ^^^ ((((rndN (fun q => S.1 5 0 q) (fun q => S.1 4 0 q) j 0).toUInt32 >>> ((13 : Int32).toUInt32 &&& Int32.toUInt32 31)).toInt32) ||| ((rndN (fun q => S.1 5 0 q) (fun q => S.1 4 0 q) j 0) <<< (19 &&& 31)))) ^^^ ((((rndN (fun q => S.1 5 0 q) (fun q => S.1 4 0 q) j 0).toUInt32 >>> ((22 : Int32).toUInt32 &&& Int32.toUInt32 31)).toInt32) ||| ((rndN (fun q => S.1 5 0 q) (fun q => S.1 4 0 q) j 0) <<< (10 &&& 31))))), (11, .int (((((rndN (fun q => S.1 5 0 q) (fun q => S.1 4 0 q) j 7) + ((((((rndN (fun q => S.1 5 0 q) (fun q => S.1 4 0 q) j 4).toUInt32 >>> ((6 : Int32).toUInt32 &&& Int32.toUInt32 31)).toInt32) ||| ((rndN (fun q => S.1 5 0 q) (fun q => S.1 4 0 q) j 4) <<< (26 &&& 31))) ^^^ ((((rndN (fun q => S.1 5 0 q) (fun q => S.1 4 0 q) j 4).toUInt32 >>> ((11 : Int32).toUInt32 &&& Int32.toUInt32 31)).toInt32) ||| ((rndN (fun q => S.1 5 0 q) (fun q => S.1 4 0 q) j 4) <<< (21 &&& 31)))) ^^^ ((((rndN (fun q => S.1 5 0 q) (fun q => S.1 4 0 q) j 4).toUInt32 >>> ((25 : Int32).toUInt32 &&& Int32.toUInt32 31)).toInt32) ||| ((rndN (fun q => S.1 5 0 q) (fun q => S.1 4 0 q) j 4) <<< (7 &&& 31))))) + (((rndN (fun q => S.1 5 0 q) (fun q => S.1 4 0 q) j 4) &&& (rndN (fun q => S.1 5 0 q) (fun q => S.1 4 0 q) j 5)) ^^^ (((rndN (fun q => S.1 5 0 q) (fun q => S.1 4 0 q) j 4) ^^^ (-1 : Int32)) &&& (rndN (fun q => S.1 5 0 q) (fun q => S.1 4 0 q) j 6)))) + (mK j)) + (S.1 5 0 j))), (10, .int ((((((rndN (fun q => S.1 5 0 q) (fun q => S.1 4 0 q) j 4).toUInt32 >>> ((6 : Int32).toUInt32 &&& Int32.toUInt32 31)).toInt32) ||| ((rndN (fun q => S.1 5 0 q) (fun q => S.1 4 0 q) j 4) <<< (26 &&& 31))) ^^^ ((((rndN (fun q => S.1 5 0 q) (fun q => S.1 4 0 q) j 4).toUInt32 >>> ((11 : Int32).toUInt32 &&& Int32.toUInt32 31)).toInt32) ||| ((rndN (fun q => S.1 5 0 q) (fun q => S.1 4 0 q) j 4) <<< (21 &&& 31)))) ^^^ ((((rndN (fun q => S.1 5 0 q) (fun q => S.1 4 0 q) j 4).toUInt32 >>> ((25 : Int32).toUInt32 &&& Int32.toUInt32 31)).toInt32) ||| ((rndN (fun q => S.1 5 0 q) (fun q => S.1 4 0 q) j 4) <<< (7 &&& 31))))), (0, .ref (mAdC E 1 0)), (1, .int (rndN (fun q => S.1 5 0 q) (fun q => S.1 4 0 q) j 0)), (2, .int (rndN (fun q => S.1 5 0 q) (fun q => S.1 4 0 q) j 1)), (3, .int (rndN (fun q => S.1 5 0 q) (fun q => S.1 4 0 q) j 2)), (4, .int (rndN (fun q => S.1 5 0 q) (fun q => S.1 4 0 q) j 3)), (5, .int (rndN (fun q => S.1 5 0 q) (fun q => S.1 4 0 q) j 4)), (6, .int (rndN (fun q => S.1 5 0 q) (fun q => S.1 4 0 q) j 5)), (7, .int (rndN (fun q => S.1 5 0 q) (fun q => S.1 4 0 q) j 6)), (8, .int (rndN (fun q => S.1 5 0 q) (fun q => S.1 4 0 q) j 7)), (9, .int (nI j))]) hx hb dX1_mixBlock_190 hl (by decide) rfl (fun ls hl => ?_)
        refine lv_iload hx hb dX1_mixBlock_192 (lv_at hl 11 rfl) ?_
        refine lv_istore (lv' := [(8, .int (rndN (fun q => S.1 5 0 q) (fun q => S.1 4 0 q) j 6)), (13, .int (((((((rndN (fun q => S.1 5 0 q) (fun q => S.1 4 0 q) j 0).toUInt32 >>> ((2 : Int32).toUInt32 &&& Int32.toUInt32 31)).toInt32) ||| ((rndN (fun q => S.1 5 0 q) (fun q => S.1 4 0 q) j 0) <<< (30 &&& 31))) ^^^ ((((rndN (fun q => S.1 5 0 q) (fun q => S.1 4 0 q) j 0).toUInt32 >>> ((13 : Int32).toUInt32 &&& Int32.toUInt32 31)).toInt32) ||| ((rndN (fun q => S.1 5 0 q) (fun q => S.1 4 0 q) j 0) <<< (19 &&& 31)))) ^^^ ((((rndN (fun q => S.1 5 0 q) (fun q => S.1 4 0 q) j 0).toUInt32 >>> ((22 : Int32).toUInt32 &&& Int32.toUInt32 31)).toInt32) ||| ((rndN (fun q => S.1 5 0 q) (fun q => S.1 4 0 q) j 0) <<< (10 &&& 31)))) + ((((rndN (fun q => S.1 5 0 q) (fun q => S.1 4 0 q) j 0) &&& (rndN (fun q => S.1 5 0 q) (fun q => S.1 4 0 q) j 1)) ^^^ ((rndN (fun q => S.1 5 0 q) (fun q => S.1 4 0 q) j 0) &&& (rndN (fun q => S.1 5 0 q) (fun q => S.1 4 0 q) j 2))) ^^^ ((rndN (fun q => S.1 5 0 q) (fun q => S.1 4 0 q) j 1) &&& (rndN (fun q => S.1 5 0 q) (fun q => S.1 4 0 q) j 2))))), (12, .int ((((((rndN (fun q => S.1 5 0 q) (fun q => S.1 4 0 q) j 0).toUInt32 >>> ((2 : Int32).toUInt32 &&& Int32.toUInt32 31)).toInt32) ||| ((rndN (fun q => S.1 5 0 q) (fun q => S.1 4 0 q) j 0) <<< (30 &&& 31))) ^^^ ((((rndN (fun q => S.1 5 0 q) (fun q => S.1 4 0 q) j 0).toUInt32 >>> ((13 : Int32).toUInt32 &&& Int32.toUInt32 31)).toInt32) ||| ((rndN (fun q => S.1 5 0 q) (fun q => S.1 4 0 q) j 0) <<< (19 &&& 31)))) ^^^ ((((rndN (fun q => S.1 5 0 q) (fun q => S.1 4 0 q) j 0).toUInt32 >>> ((22 : Int32).toUInt32 &&& Int32.toUInt32 31)).toInt32) ||| ((rndN (fun q => S.1 5 0 q) (fun q => S.1 4 0 q) j 0) <<< (10 &&& 31))))), (11, .int (((((rndN (fun q => S.1 5 0 q) (fun q => S.1 4 0 q) j 7) + ((((((rndN (fun q => S.1 5 0 q) (fun q => S.1 4 0 q) j 4).toUInt32 >>> ((6 : Int32).toUInt32 &&& Int32.toUInt32 31)).toInt32) ||| ((rndN (fun q => S.1 5 0 q) (fun q => S.1 4 0 q) j 4) <<< (26 &&& 31))) ^^^ ((((rndN (fun q => S.1 5 0 q) (fun q => S.1 4 0 q) j 4).toUInt32 >>> ((11 : Int32).toUInt32 &&& Int32.toUInt32 31)).toInt32) ||| ((rndN (fun q => S.1 5 0 q) (fun q => S.1 4 0 q) j 4) <<< (21 &&& 31)))) ^^^ ((((rndN (fun q => S.1 5 0 q) (fun q => S.1 4 0 q) j 4).toUInt32 >>> ((25 : Int32).toUInt32 &&& Int32.toUInt32 31)).toInt32) ||| ((rndN (fun q => S.1 5 0 q) (fun q => S.1 4 0 q) j 4) <<< (7 &&& 31))))) + (((rndN (fun q => S.1 5 0 q) (fun q => S.1 4 0 q) j 4) &&& (rndN (fun q => S.1 5 0 q) (fun q => S.1 4 0 q) j 5)) ^^^ (((rndN (fun q => S.1 5 0 q) (fun q => S.1 4 0 q) j 4) ^^^ (-1 : Int32)) &&& (rndN (fun q => S.1 5 0 q) (fun q => S.1 4 0 q) j 6)))) + (mK j)) + (S.1 5 0 j))), (10, .int ((((((rndN (fun q => S.1 5 0 q) (fun q => S.1 4 0 q) j 4).toUInt32 >>> ((6 : Int32).toUInt32 &&& Int32.toUInt32 31)).toInt32) ||| ((rndN (fun q => S.1 5 0 q) (fun q => S.1 4 0 q) j 4) <<< (26 &&& 31))) ^^^ ((((rndN (fun q => S.1 5 0 q) (fun q => S.1 4 0 q) j 4).toUInt32 >>> ((11 : Int32).toUInt32 &&& Int32.toUInt32 31)).toInt32) ||| ((rndN (fun q => S.1 5 0 q) (fun q => S.1 4 0 q) j 4) <<< (21 &&& 31)))) ^^^ ((((rndN (fun q => S.1 5 0 q) (fun q => S.1 4 0 q) j 4).toUInt32 >>> ((25 : Int32).toUInt32 &&& Int32.toUInt32 31)).toInt32) ||| ((rndN (fun q => S.1 5 0 q) (fun q => S.1 4 0 q) j 4) <<< (7 &&& 31))))), (0, .ref (mAdC E 1 0)), (1, .int (rndN (fun q => S.1 5 0 q) (fun q => S.1 4 0 q) j 0)), (2, .int (rndN (fun q => S.1 5 0 q) (fun q => S.1 4 0 q) j 1)), (3, .int (rndN (fun q => S.1 5 0 q) (fun q => S.1 4 0 q) j 2)), (4, .int (rndN (fun q => S.1 5 0 q) (fun q => S.1 4 0 q) j 3)), (5, .int (rndN (fun q => S.1 5 0 q) (fun q => S.1 4 0 q) j 4)), (6, .int (rndN (fun q => S.1 5 0 q) (fun q => S.1 4 0 q) j 5)), (7, .int (rndN (fun q => S.1 5 0 q) (fun q => S.1 4 0 q) j 6)), (9, .int (nI j))]) hx hb dX1_mixBlock_194 hl (by decide) rfl (fun ls hl => ?_)
        refine lv_iload hx hb dX1_mixBlock_196 (lv_at hl 11 rfl) ?_
        refine lv_istore (lv' := [(7, .int (rndN (fun q => S.1 5 0 q) (fun q => S.1 4 0 q) j 5)), (8, .int (rndN (fun q => S.1 5 0 q) (fun q => S.1 4 0 q) j 6)), (13, .int (((((((rndN (fun q => S.1 5 0 q) (fun q => S.1 4 0 q) j 0).toUInt32 >>> ((2 : Int32).toUInt32 &&& Int32.toUInt32 31)).toInt32) ||| ((rndN (fun q => S.1 5 0 q) (fun q => S.1 4 0 q) j 0) <<< (30 &&& 31))) ^^^ ((((rndN (fun q => S.1 5 0 q) (fun q => S.1 4 0 q) j 0).toUInt32 >>> ((13 : Int32).toUInt32 &&& Int32.toUInt32 31)).toInt32) ||| ((rndN (fun q => S.1 5 0 q) (fun q => S.1 4 0 q) j 0) <<< (19 &&& 31)))) ^^^ ((((rndN (fun q => S.1 5 0 q) (fun q => S.1 4 0 q) j 0).toUInt32 >>> ((22 : Int32).toUInt32 &&& Int32.toUInt32 31)).toInt32) ||| ((rndN (fun q => S.1 5 0 q) (fun q => S.1 4 0 q) j 0) <<< (10 &&& 31)))) + ((((rndN (fun q => S.1 5 0 q) (fun q => S.1 4 0 q) j 0) &&& (rndN (fun q => S.1 5 0 q) (fun q => S.1 4 0 q) j 1)) ^^^ ((rndN (fun q => S.1 5 0 q) (fun q => S.1 4 0 q) j 0) &&& (rndN (fun q => S.1 5 0 q) (fun q => S.1 4 0 q) j 2))) ^^^ ((rndN (fun q => S.1 5 0 q) (fun q => S.1 4 0 q) j 1) &&& (rndN (fun q => S.1 5 0 q) (fun q => S.1 4 0 q) j 2))))), (12, .int ((((((rndN (fun q => S.1 5 0 q) (fun q => S.1 4 0 q) j 0).toUInt32 >>> ((2 : Int32).toUInt32 &&& Int32.toUInt32 31)).toInt32) ||| ((rndN (fun q => S.1 5 0 q) (fun q => S.1 4 0 q) j 0) <<< (30 &&& 31))) ^^^ ((((rndN (fun q => S.1 5 0 q) (fun q => S.1 4 0 q) j 0).toUInt32 >>> ((13 : Int32).toUInt32 &&& Int32.toUInt32 31)).toInt32) ||| ((rndN (fun q => S.1 5 0 q) (fun q => S.1 4 0 q) j 0) <<< (19 &&& 31)))) ^^^ ((((rndN (fun q => S.1 5 0 q) (fun q => S.1 4 0 q) j 0).toUInt32 >>> ((22 : Int32).toUInt32 &&& Int32.toUInt32 31)).toInt32) ||| ((rndN (fun q => S.1 5 0 q) (fun q => S.1 4 0 q) j 0) <<< (10 &&& 31))))), (11, .int (((((rndN (fun q => S.1 5 0 q) (fun q => S.1 4 0 q) j 7) + ((((((rndN (fun q => S.1 5 0 q) (fun q => S.1 4 0 q) j 4).toUInt32 >>> ((6 : Int32).toUInt32 &&& Int32.toUInt32 31)).toInt32) ||| ((rndN (fun q => S.1 5 0 q) (fun q => S.1 4 0 q) j 4) <<< (26 &&& 31))) ^^^ ((((rndN (fun q => S.1 5 0 q) (fun q => S.1 4 0 q) j 4).toUInt32 >>> ((11 : Int32).toUInt32 &&& Int32.toUInt32 31)).toInt32) ||| ((rndN (fun q => S.1 5 0 q) (fun q => S.1 4 0 q) j 4) <<< (21 &&& 31)))) ^^^ ((((rndN (fun q => S.1 5 0 q) (fun q => S.1 4 0 q) j 4).toUInt32 >>> ((25 : Int32).toUInt32 &&& Int32.toUInt32 31)).toInt32) ||| ((rndN (fun q => S.1 5 0 q) (fun q => S.1 4 0 q) j 4) <<< (7 &&& 31))))) + (((rndN (fun q => S.1 5 0 q) (fun q => S.1 4 0 q) j 4) &&& (rndN (fun q => S.1 5 0 q) (fun q => S.1 4 0 q) j 5)) ^^^ (((rndN (fun q => S.1 5 0 q) (fun q => S.1 4 0 q) j 4) ^^^ (-1 : Int32)) &&& (rndN (fun q => S.1 5 0 q) (fun q => S.1 4 0 q) j 6)))) + (mK j)) + (S.1 5 0 j))), (10, .int ((((((rndN (fun q => S.1 5 0 q) (fun q => S.1 4 0 q) j 4).toUInt32 >>> ((6 : Int32).toUInt32 &&& Int32.toUInt32 31)).toInt32) ||| ((rndN (fun q => S.1 5 0 q) (fun q => S.1 4 0 q) j 4) <<< (26 &&& 31))) ^^^ ((((rndN (fun q => S.1 5 0 q) (fun q => S.1 4 0 q) j 4).toUInt32 >>> ((11 : Int32).toUInt32 &&& Int32.toUInt32 31)).toInt32) ||| ((rndN (fun q => S.1 5 0 q) (fun q => S.1 4 0 q) j 4) <<< (21 &&& 31)))) ^^^ ((((rndN (fun q => S.1 5 0 q) (fun q => S.1 4 0 q) j 4).toUInt32 >>> ((25 : Int32).toUInt32 &&& Int32.toUInt32 31)).toInt32) ||| ((rndN (fun q => S.1 5 0 q) (fun q => S.1 4 0 q) j 4) <<< (7 &&& 31))))), (0, .ref (mAdC E 1 0)), (1, .int (rndN (fun q => S.1 5 0 q) (fun q => S.1 4 0 q) j 0)), (2, .int (rndN (fun q => S.1 5 0 q) (fun q => S.1 4 0 q) j 1)), (3, .int (rndN (fun q => S.1 5 0 q) (fun q => S.1 4 0 q) j 2)), (4, .int (rndN (fun q => S.1 5 0 q) (fun q => S.1 4 0 q) j 3)), (5, .int (rndN (fun q => S.1 5 0 q) (fun q => S.1 4 0 q) j 4)), (6, .int (rndN (fun q => S.1 5 0 q) (fun q => S.1 4 0 q) j 5)), (9, .int (nI j))]) hx hb dX1_mixBlock_198 hl (by decide) rfl (fun ls hl => ?_)
        refine lv_iload hx hb dX1_mixBlock_200 (lv_at hl 11 rfl) ?_
        refine lv_istore (lv' := [(6, .int (rndN (fun q => S.1 5 0 q) (fun q => S.1 4 0 q) j 4)), (7, .int (rndN (fun q => S.1 5 0 q) (fun q => S.1 4 0 q) j 5)), (8, .int (rndN (fun q => S.1 5 0 q) (fun q => S.1 4 0 q) j 6)), (13, .int (((((((rndN (fun q => S.1 5 0 q) (fun q => S.1 4 0 q) j 0).toUInt32 >>> ((2 : Int32).toUInt32 &&& Int32.toUInt32 31)).toInt32) ||| ((rndN (fun q => S.1 5 0 q) (fun q => S.1 4 0 q) j 0) <<< (30 &&& 31))) ^^^ ((((rndN (fun q => S.1 5 0 q) (fun q => S.1 4 0 q) j 0).toUInt32 >>> ((13 : Int32).toUInt32 &&& Int32.toUInt32 31)).toInt32) ||| ((rndN (fun q => S.1 5 0 q) (fun q => S.1 4 0 q) j 0) <<< (19 &&& 31)))) ^^^ ((((rndN (fun q => S.1 5 0 q) (fun q => S.1 4 0 q) j 0).toUInt32 >>> ((22 : Int32).toUInt32 &&& Int32.toUInt32 31)).toInt32) ||| ((rndN (fun q => S.1 5 0 q) (fun q => S.1 4 0 q) j 0) <<< (10 &&& 31)))) + ((((rndN (fun q => S.1 5 0 q) (fun q => S.1 4 0 q) j 0) &&& (rndN (fun q => S.1 5 0 q) (fun q => S.1 4 0 q) j 1)) ^^^ ((rndN (fun q => S.1 5 0 q) (fun q => S.1 4 0 q) j 0) &&& (rndN (fun q => S.1 5 0 q) (fun q => S.1 4 0 q) j 2))) ^^^ ((rndN (fun q => S.1 5 0 q) (fun q => S.1 4 0 q) j 1) &&& (rndN (fun q => S.1 5 0 q) (fun q => S.1 4 0 q) j 2))))), (12, .int ((((((rndN (fun q => S.1 5 0 q) (fun q => S.1 4 0 q) j 0).toUInt32 >>> ((2 : Int32).toUInt32 &&& Int32.toUInt32 31)).toInt32) ||| ((rndN (fun q => S.1 5 0 q) (fun q => S.1 4 0 q) j 0) <<< (30 &&& 31))) ^^^ ((((rndN (fun q => S.1 5 0 q) (fun q => S.1 4 0 q) j 0).toUInt32 >>> ((13 : Int32).toUInt32 &&& Int32.toUInt32 31)).toInt32) ||| ((rndN (fun q => S.1 5 0 q) (fun q => S.1 4 0 q) j 0) <<< (19 &&& 31)))) ^^^ ((((rndN (fun q => S.1 5 0 q) (fun q => S.1 4 0 q) j 0).toUInt32 >>> ((22 : Int32).toUInt32 &&& Int32.toUInt32 31)).toInt32) ||| ((rndN (fun q => S.1 5 0 q) (fun q => S.1 4 0 q) j 0) <<< (10 &&& 31))))), (11, .int (((((rndN (fun q => S.1 5 0 q) (fun q => S.1 4 0 q) j 7) + ((((((rndN (fun q => S.1 5 0 q) (fun q => S.1 4 0 q) j 4).toUInt32 >>> ((6 : Int32).toUInt32 &&& Int32.toUInt32 31)).toInt32) ||| ((rndN (fun q => S.1 5 0 q) (fun q => S.1 4 0 q) j 4) <<< (26 &&& 31))) ^^^ ((((rndN (fun q => S.1 5 0 q) (fun q => S.1 4 0 q) j 4).toUInt32 >>> ((11 : Int32).toUInt32 &&& Int32.toUInt32 31)).toInt32) ||| ((rndN (fun q => S.1 5 0 q) (fun q => S.1 4 0 q) j 4) <<< (21 &&& 31)))) ^^^ ((((rndN (fun q => S.1 5 0 q) (fun q => S.1 4 0 q) j 4).toUInt32 >>> ((25 : Int32).toUInt32 &&& Int32.toUInt32 31)).toInt32) ||| ((rndN (fun q => S.1 5 0 q) (fun q => S.1 4 0 q) j 4) <<< (7 &&& 31))))) + (((rndN (fun q => S.1 5 0 q) (fun q => S.1 4 0 q) j 4) &&& (rndN (fun q => S.1 5 0 q) (fun q => S.1 4 0 q) j 5)) ^^^ (((rndN (fun q => S.1 5 0 q) (fun q => S.1 4 0 q) j 4) ^^^ (-1 : Int32)) &&& (rndN (fun q => S.1 5 0 q) (fun q => S.1 4 0 q) j 6)))) + (mK j)) + (S.1 5 0 j))), (10, .int ((((((rndN (fun q => S.1 5 0 q) (fun q => S.1 4 0 q) j 4).toUInt32 >>> ((6 : Int32).toUInt32 &&& Int32.toUInt32 31)).toInt32) ||| ((rndN (fun q => S.1 5 0 q) (fun q => S.1 4 0 q) j 4) <<< (26 &&& 31))) ^^^ ((((rndN (fun q => S.1 5 0 q) (fun q => S.1 4 0 q) j 4).toUInt32 >>> ((11 : Int32).toUInt32 &&& Int32.toUInt32 31)).toInt32) ||| ((rndN (fun q => S.1 5 0 q) (fun q => S.1 4 0 q) j 4) <<< (21 &&& 31)))) ^^^ ((((rndN (fun q => S.1 5 0 q) (fun q => S.1 4 0 q) j 4).toUInt32 >>> ((25 : Int32).toUInt32 &&& Int32.toUInt32 31)).toInt32) ||| ((rndN (fun q => S.1 5 0 q) (fun q => S.1 4 0 q) j 4) <<< (7 &&& 31))))), (0, .ref (mAdC E 1 0)), (1, .int (rndN (fun q => S.1 5 0 q) (fun q => S.1 4 0 q) j 0)), (2, .int (rndN (fun q => S.1 5 0 q) (fun q => S.1 4 0 q) j 1)), (3, .int (rndN (fun q => S.1 5 0 q) (fun q => S.1 4 0 q) j 2)), (4, .int (rndN (fun q => S.1 5 0 q) (fun q => S.1 4 0 q) j 3)), (5, .int (rndN (fun q => S.1 5 0 q) (fun q => S.1 4 0 q) j 4)), (9, .int (nI j))]) hx hb dX1_mixBlock_202 hl (by decide) rfl (fun ls hl => ?_)
        refine lv_iload hx hb dX1_mixBlock_204 (lv_at hl 11 rfl) ?_
        refine lv_iload hx hb dX1_mixBlock_206 (lv_at hl 5 rfl) ?_
        refine lv_iadd hx hb dX1_mixBlock_208 ?_
        refine lv_istore (lv' := [(5, .int ((rndN (fun q => S.1 5 0 q) (fun q => S.1 4 0 q) j 3) + (((((rndN (fun q => S.1 5 0 q) (fun q => S.1 4 0 q) j 7) + ((((((rndN (fun q => S.1 5 0 q) (fun q => S.1 4 0 q) j 4).toUInt32 >>> ((6 : Int32).toUInt32 &&& Int32.toUInt32 31)).toInt32) ||| ((rndN (fun q => S.1 5 0 q) (fun q => S.1 4 0 q) j 4) <<< (26 &&& 31))) ^^^ ((((rndN (fun q => S.1 5 0 q) (fun q => S.1 4 0 q) j 4).toUInt32 >>> ((11 : Int32).toUInt32 &&& Int32.toUInt32 31)).toInt32) ||| ((rndN (fun q => S.1 5 0 q) (fun q => S.1 4 0 q) j 4) <<< (21 &&& 31)))) ^^^ ((((rndN (fun q => S.1 5 0 q) (fun q => S.1 4 0 q) j 4).toUInt32 >>> ((25 : Int32).toUInt32 &&& Int32.toUInt32 31)).toInt32) ||| ((rndN (fun q => S.1 5 0 q) (fun q => S.1 4 0 q) j 4) <<< (7 &&& 31))))) + (((rndN (fun q => S.1 5 0 q) (fun q => S.1 4 0 q) j 4) &&& (rndN (fun q => S.1 5 0 q) (fun q => S.1 4 0 q) j 5)) ^^^ (((rndN (fun q => S.1 5 0 q) (fun q => S.1 4 0 q) j 4) ^^^ (-1 : Int32)) &&& (rndN (fun q => S.1 5 0 q) (fun q => S.1 4 0 q) j 6)))) + (mK j)) + (S.1 5 0 j)))), (6, .int (rndN (fun q => S.1 5 0 q) (fun q => S.1 4 0 q) j 4)), (7, .int (rndN (fun q => S.1 5 0 q) (fun q => S.1 4 0 q) j 5)), (8, .int (rndN (fun q => S.1 5 0 q) (fun q => S.1 4 0 q) j 6)), (13, .int (((((((rndN (fun q => S.1 5 0 q) (fun q => S.1 4 0 q) j 0).toUInt32 >>> ((2 : Int32).toUInt32 &&& Int32.toUInt32 31)).toInt32) ||| ((rndN (fun q => S.1 5 0 q) (fun q => S.1 4 0 q) j 0) <<< (30 &&& 31))) ^^^ ((((rndN (fun q => S.1 5 0 q) (fun q => S.1 4 0 q) j 0).toUInt32 >>> ((13 : Int32).toUInt32 &&& Int32.toUInt32 31)).toInt32) ||| ((rndN (fun q => S.1 5 0 q) (fun q => S.1 4 0 q) j 0) <<< (19 &&& 31)))) ^^^ ((((rndN (fun q => S.1 5 0 q) (fun q => S.1 4 0 q) j 0).toUInt32 >>> ((22 : Int32).toUInt32 &&& Int32.toUInt32 31)).toInt32) ||| ((rndN (fun q => S.1 5 0 q) (fun q => S.1 4 0 q) j 0) <<< (10 &&& 31)))) + ((((rndN (fun q => S.1 5 0 q) (fun q => S.1 4 0 q) j 0) &&& (rndN (fun q => S.1 5 0 q) (fun q => S.1 4 0 q) j 1)) ^^^ ((rndN (fun q => S.1 5 0 q) (fun q => S.1 4 0 q) j 0) &&& (rndN (fun q => S.1 5 0 q) (fun q => S.1 4 0 q) j 2))) ^^^ ((rndN (fun q => S.1 5 0 q) (fun q => S.1 4 0 q) j 1) &&& (rndN (fun q => S.1 5 0 q) (fun q => S.1 4 0 q) j 2))))), (12, .int ((((((rndN (fun q => S.1 5 0 q) (fun q => S.1 4 0 q) j 0).toUInt32 >>> ((2 : Int32).toUInt32 &&& Int32.toUInt32 31)).toInt32) ||| ((rndN (fun q => S.1 5 0 q) (fun q => S.1 4 0 q) j 0) <<< (30 &&& 31))) ^^^ ((((rndN (fun q => S.1 5 0 q) (fun q => S.1 4 0 q) j 0).toUInt32 >>> ((13 : Int32).toUInt32 &&& Int32.toUInt32 31)).toInt32) ||| ((rndN (fun q => S.1 5 0 q) (fun q => S.1 4 0 q) j 0) <<< (19 &&& 31)))) ^^^ ((((rndN (fun q => S.1 5 0 q) (fun q => S.1 4 0 q) j 0).toUInt32 >>> ((22 : Int32).toUInt32 &&& Int32.toUInt32 31)).toInt32) ||| ((rndN (fun q => S.1 5 0 q) (fun q => S.1 4 0 q) j 0) <<< (10 &&& 31))))), (11, .int (((((rndN (fun q => S.1 5 0 q) (fun q => S.1 4 0 q) j 7) + ((((((rndN (fun q => S.1 5 0 q) (fun q => S.1 4 0 q) j 4).toUInt32 >>> ((6 : Int32).toUInt32 &&& Int32.toUInt32 31)).toInt32) ||| ((rndN (fun q => S.1 5 0 q) (fun q => S.1 4 0 q) j 4) <<< (26 &&& 31))) ^^^ ((((rndN (fun q => S.1 5 0 q) (fun q => S.1 4 0 q) j 4).toUInt32 >>> ((11 : Int32).toUInt32 &&& Int32.toUInt32 31)).toInt32) ||| ((rndN (fun q => S.1 5 0 q) (fun q => S.1 4 0 q) j 4) <<< (21 &&& 31)))) ^^^ ((((rndN (fun q => S.1 5 0 q) (fun q => S.1 4 0 q) j 4).toUInt32 >>> ((25 : Int32).toUInt32 &&& Int32.toUInt32 31)).toInt32) ||| ((rndN (fun q => S.1 5 0 q) (fun q => S.1 4 0 q) j 4) <<< (7 &&& 31))))) + (((rndN (fun q => S.1 5 0 q) (fun q => S.1 4 0 q) j 4) &&& (rndN (fun q => S.1 5 0 q) (fun q => S.1 4 0 q) j 5)) ^^^ (((rndN (fun q => S.1 5 0 q) (fun q => S.1 4 0 q) j 4) ^^^ (-1 : Int32)) &&& (rndN (fun q => S.1 5 0 q) (fun q => S.1 4 0 q) j 6)))) + (mK j)) + (S.1 5 0 j))), (10, .int ((((((rndN (fun q => S.1 5 0 q) (fun q => S.1 4 0 q) j 4).toUInt32 >>> ((6 : Int32).toUInt32 &&& Int32.toUInt32 31)).toInt32) ||| ((rndN (fun q => S.1 5 0 q) (fun q => S.1 4 0 q) j 4) <<< (26 &&& 31))) ^^^ ((((rndN (fun q => S.1 5 0 q) (fun q => S.1 4 0 q) j 4).toUInt32 >>> ((11 : Int32).toUInt32 &&& Int32.toUInt32 31)).toInt32) ||| ((rndN (fun q => S.1 5 0 q) (fun q => S.1 4 0 q) j 4) <<< (21 &&& 31)))) ^^^ ((((rndN (fun q => S.1 5 0 q) (fun q => S.1 4 0 q) j 4).toUInt32 >>> ((25 : Int32).toUInt32 &&& Int32.toUInt32 31)).toInt32) ||| ((rndN (fun q => S.1 5 0 q) (fun q => S.1 4 0 q) j 4) <<< (7 &&& 31))))), (0, .ref (mAdC E 1 0)), (1, .int (rndN (fun q => S.1 5 0 q) (fun q => S.1 4 0 q) j 0)), (2, .int (rndN (fun q => S.1 5 0 q) (fun q => S.1 4 0 q) j 1)), (3, .int (rndN (fun q => S.1 5 0 q) (fun q => S.1 4 0 q) j 2)), (4, .int (rndN (fun q => S.1 5 0 q) (fun q => S.1 4 0 q) j 3)), (9, .int (nI j))]) hx hb dX1_mixBlock_209 hl (by decide) rfl (fun ls hl => ?_)
        refine lv_iload_n hx hb dX1_mixBlock_211 rfl (lv_at hl 11 rfl) ?_
        refine lv_istore (lv' := [(4, .int (rndN (fun q => S.1 5 0 q) (fun q => S.1 4 0 q) j 2)), (5, .int ((rndN (fun q => S.1 5 0 q) (fun q => S.1 4 0 q) j 3) + (((((rndN (fun q => S.1 5 0 q) (fun q => S.1 4 0 q) j 7) + ((((((rndN (fun q => S.1 5 0 q) (fun q => S.1 4 0 q) j 4).toUInt32 >>> ((6 : Int32).toUInt32 &&& Int32.toUInt32 31)).toInt32) ||| ((rndN (fun q => S.1 5 0 q) (fun q => S.1 4 0 q) j 4) <<< (26 &&& 31))) ^^^ ((((rndN (fun q => S.1 5 0 q) (fun q => S.1 4 0 q) j 4).toUInt32 >>> ((11 : Int32).toUInt32 &&& Int32.toUInt32 31)).toInt32) ||| ((rndN (fun q => S.1 5 0 q) (fun q => S.1 4 0 q) j 4) <<< (21 &&& 31)))) ^^^ ((((rndN (fun q => S.1 5 0 q) (fun q => S.1 4 0 q) j 4).toUInt32 >>> ((25 : Int32).toUInt32 &&& Int32.toUInt32 31)).toInt32) ||| ((rndN (fun q => S.1 5 0 q) (fun q => S.1 4 0 q) j 4) <<< (7 &&& 31))))) + (((rndN (fun q => S.1 5 0 q) (fun q => S.1 4 0 q) j 4) &&& (rndN (fun q => S.1 5 0 q) (fun q => S.1 4 0 q) j 5)) ^^^ (((rndN (fun q => S.1 5 0 q) (fun q => S.1 4 0 q) j 4) ^^^ (-1 : Int32)) &&& (rndN (fun q => S.1 5 0 q) (fun q => S.1 4 0 q) j 6)))) + (mK j)) + (S.1 5 0 j)))), (6, .int (rndN (fun q => S.1 5 0 q) (fun q => S.1 4 0 q) j 4)), (7, .int (rndN (fun q => S.1 5 0 q) (fun q => S.1 4 0 q) j 5)), (8, .int (rndN (fun q => S.1 5 0 q) (fun q => S.1 4 0 q) j 6)), (13, .int (((((((rndN (fun q => S.1 5 0 q) (fun q => S.1 4 0 q) j 0).toUInt32 >>> ((2 : Int32).toUInt32 &&& Int32.toUInt32 31)).toInt32) ||| ((rndN (fun q => S.1 5 0 q) (fun q => S.1 4 0 q) j 0) <<< (30 &&& 31))) ^^^ ((((rndN (fun q => S.1 5 0 q) (fun q => S.1 4 0 q) j 0).toUInt32 >>> ((13 : Int32).toUInt32 &&& Int32.toUInt32 31)).toInt32) ||| ((rndN (fun q => S.1 5 0 q) (fun q => S.1 4 0 q) j 0) <<< (19 &&& 31)))) ^^^ ((((rndN (fun q => S.1 5 0 q) (fun q => S.1 4 0 q) j 0).toUInt32 >>> ((22 : Int32).toUInt32 &&& Int32.toUInt32 31)).toInt32) ||| ((rndN (fun q => S.1 5 0 q) (fun q => S.1 4 0 q) j 0) <<< (10 &&& 31)))) + ((((rndN (fun q => S.1 5 0 q) (fun q => S.1 4 0 q) j 0) &&& (rndN (fun q => S.1 5 0 q) (fun q => S.1 4 0 q) j 1)) ^^^ ((rndN (fun q => S.1 5 0 q) (fun q => S.1 4 0 q) j 0) &&& (rndN (fun q => S.1 5 0 q) (fun q => S.1 4 0 q) j 2))) ^^^ ((rndN (fun q => S.1 5 0 q) (fun q => S.1 4 0 q) j 1) &&& (rndN (fun q => S.1 5 0 q) (fun q => S.1 4 0 q) j 2))))), (12, .int ((((((rndN (fun q => S.1 5 0 q) (fun q => S.1 4 0 q) j 0).toUInt32 >>> ((2 : Int32).toUInt32 &&& Int32.toUInt32 31)).toInt32) ||| ((rndN (fun q => S.1 5 0 q) (fun q => S.1 4 0 q) j 0) <<< (30 &&& 31))) ^^^ ((((rndN (fun q => S.1 5 0 q) (fun q => S.1 4 0 q) j 0).toUInt32 >>> ((13 : Int32).toUInt32 &&& Int32.toUInt32 31)).toInt32) ||| ((rndN (fun q => S.1 5 0 q) (fun q => S.1 4 0 q) j 0) <<< (19 &&& 31)))) ^^^ ((((rndN (fun q => S.1 5 0 q) (fun q => S.1 4 0 q) j 0).toUInt32 >>> ((22 : Int32).toUInt32 &&& Int32.toUInt32 31)).toInt32) ||| ((rndN (fun q => S.1 5 0 q) (fun q => S.1 4 0 q) j 0) <<< (10 &&& 31))))), (11, .int (((((rndN (fun q => S.1 5 0 q) (fun q => S.1 4 0 q) j 7) + ((((((rndN (fun q => S.1 5 0 q) (fun q => S.1 4 0 q) j 4).toUInt32 >>> ((6 : Int32).toUInt32 &&& Int32.toUInt32 31)).toInt32) ||| ((rndN (fun q => S.1 5 0 q) (fun q => S.1 4 0 q) j 4) <<< (26 &&& 31))) ^^^ ((((rndN (fun q => S.1 5 0 q) (fun q => S.1 4 0 q) j 4).toUInt32 >>> ((11 : Int32).toUInt32 &&& Int32.toUInt32 31)).toInt32) ||| ((rndN (fun q => S.1 5 0 q) (fun q => S.1 4 0 q) j 4) <<< (21 &&& 31)))) ^^^ ((((rndN (fun q => S.1 5 0 q) (fun q => S.1 4 0 q) j 4).toUInt32 >>> ((25 : Int32).toUInt32 &&& Int32.toUInt32 31)).toInt32) ||| ((rndN (fun q => S.1 5 0 q) (fun q => S.1 4 0 q) j 4) <<< (7 &&& 31))))) + (((rndN (fun q => S.1 5 0 q) (fun q => S.1 4 0 q) j 4) &&& (rndN (fun q => S.1 5 0 q) (fun q => S.1 4 0 q) j 5)) ^^^ (((rndN (fun q => S.1 5 0 q) (fun q => S.1 4 0 q) j 4) ^^^ (-1 : Int32)) &&& (rndN (fun q => S.1 5 0 q) (fun q => S.1 4 0 q) j 6)))) + (mK j)) + (S.1 5 0 j))), (10, .int ((((((rndN (fun q => S.1 5 0 q) (fun q => S.1 4 0 q) j 4).toUInt32 >>> ((6 : Int32).toUInt32 &&& Int32.toUInt32 31)).toInt32) ||| ((rndN (fun q => S.1 5 0 q) (fun q => S.1 4 0 q) j 4) <<< (26 &&& 31))) ^^^ ((((rndN (fun q => S.1 5 0 q) (fun q => S.1 4 0 q) j 4).toUInt32 >>> ((11 : Int32).toUInt32 &&& Int32.toUInt32 31)).toInt32) ||| ((rndN (fun q => S.1 5 0 q) (fun q => S.1 4 0 q) j 4) <<< (21 &&& 31)))) ^^^ ((((rndN (fun q => S.1 5 0 q) (fun q => S.1 4 0 q) j 4).toUInt32 >>> ((25 : Int32).toUInt32 &&& Int32.toUInt32 31)).toInt32) ||| ((rndN (fun q => S.1 5 0 q) (fun q => S.1 4 0 q) j 4) <<< (7 &&& 31))))), (0, .ref (mAdC E 1 0)), (1, .int (rndN (fun q => S.1 5 0 q) (fun q => S.1 4 0 q) j 0)), (2, .int (rndN (fun q => S.1 5 0 q) (fun q => S.1 4 0 q) j 1)), (3, .int (rndN (fun q => S.1 5 0 q) (fun q => S.1 4 0 q) j 2)), (9, .int (nI j))]) hx hb dX1_mixBlock_212 hl (by decide) rfl (fun ls hl => ?_)
        refine lv_iload_n hx hb dX1_mixBlock_214 rfl (lv_at hl 11 rfl) ?_
        refine lv_istore_n (lv' := [(3, .int (rndN (fun q => S.1 5 0 q) (fun q => S.1 4 0 q) j 1)), (4, .int (rndN (fun q => S.1 5 0 q) (fun q => S.1 4 0 q) j 2)), (5, .int ((rndN (fun q => S.1 5 0 q) (fun q => S.1 4 0 q) j 3) + (((((rndN (fun q => S.1 5 0 q) (fun q => S.1 4 0 q) j 7) + ((((((rndN (fun q => S.1 5 0 q) (fun q => S.1 4 0 q) j 4).toUInt32 >>> ((6 : Int32).toUInt32 &&& Int32.toUInt32 31)).toInt32) ||| ((rndN (fun q => S.1 5 0 q) (fun q => S.1 4 0 q) j 4) <<< (26 &&& 31))) ^^^ ((((rndN (fun q => S.1 5 0 q) (fun q => S.1 4 0 q) j 4).toUInt32 >>> ((11 : Int32).toUInt32 &&& Int32.toUInt32 31)).toInt32) ||| ((rndN (fun q => S.1 5 0 q) (fun q => S.1 4 0 q) j 4) <<< (21 &&& 31)))) ^^^ ((((rndN (fun q => S.1 5 0 q) (fun q => S.1 4 0 q) j 4).toUInt32 >>> ((25 : Int32).toUInt32 &&& Int32.toUInt32 31)).toInt32) ||| ((rndN (fun q => S.1 5 0 q) (fun q => S.1 4 0 q) j 4) <<< (7 &&& 31))))) + (((rndN (fun q => S.1 5 0 q) (fun q => S.1 4 0 q) j 4) &&& (rndN (fun q => S.1 5 0 q) (fun q => S.1 4 0 q) j 5)) ^^^ (((rndN (fun q => S.1 5 0 q) (fun q => S.1 4 0 q) j 4) ^^^ (-1 : Int32)) &&& (rndN (fun q => S.1 5 0 q) (fun q => S.1 4 0 q) j 6)))) + (mK j)) + (S.1 5 0 j)))), (6, .int (rndN (fun q => S.1 5 0 q) (fun q => S.1 4 0 q) j 4)), (7, .int (rndN (fun q => S.1 5 0 q) (fun q => S.1 4 0 q) j 5)), (8, .int (rndN (fun q => S.1 5 0 q) (fun q => S.1 4 0 q) j 6)), (13, .int (((((((rndN (fun q => S.1 5 0 q) (fun q => S.1 4 0 q) j 0).toUInt32 >>> ((2 : Int32).toUInt32 &&& Int32.toUInt32 31)).toInt32) ||| ((rndN (fun q => S.1 5 0 q) (fun q => S.1 4 0 q) j 0) <<< (30 &&& 31))) ^^^ ((((rndN (fun q => S.1 5 0 q) (fun q => S.1 4 0 q) j 0).toUInt32 >>> ((13 : Int32).toUInt32 &&& Int32.toUInt32 31)).toInt32) ||| ((rndN (fun q => S.1 5 0 q) (fun q => S.1 4 0 q) j 0) <<< (19 &&& 31)))) ^^^ ((((rndN (fun q => S.1 5 0 q) (fun q => S.1 4 0 q) j 0).toUInt32 >>> ((22 : Int32).toUInt32 &&& Int32.toUInt32 31)).toInt32) ||| ((rndN (fun q => S.1 5 0 q) (fun q => S.1 4 0 q) j 0) <<< (10 &&& 31)))) + ((((rndN (fun q => S.1 5 0 q) (fun q => S.1 4 0 q) j 0) &&& (rndN (fun q => S.1 5 0 q) (fun q => S.1 4 0 q) j 1)) ^^^ ((rndN (fun q => S.1 5 0 q) (fun q => S.1 4 0 q) j 0) &&& (rndN (fun q => S.1 5 0 q) (fun q => S.1 4 0 q) j 2))) ^^^ ((rndN (fun q => S.1 5 0 q) (fun q => S.1 4 0 q) j 1) &&& (rndN (fun q => S.1 5 0 q) (fun q => S.1 4 0 q) j 2))))), (12, .int ((((((rndN (fun q => S.1 5 0 q) (fun q => S.1 4 0 q) j 0).toUInt32 >>> ((2 : Int32).toUInt32 &&& Int32.toUInt32 31)).toInt32) ||| ((rndN (fun q => S.1 5 0 q) (fun q => S.1 4 0 q) j 0) <<< (30 &&& 31))) ^^^ ((((rndN (fun q => S.1 5 0 q) (fun q => S.1 4 0 q) j 0).toUInt32 >>> ((13 : Int32).toUInt32 &&& Int32.toUInt32 31)).toInt32) ||| ((rndN (fun q => S.1 5 0 q) (fun q => S.1 4 0 q) j 0) <<< (19 &&& 31)))) ^^^ ((((rndN (fun q => S.1 5 0 q) (fun q => S.1 4 0 q) j 0).toUInt32 >>> ((22 : Int32).toUInt32 &&& Int32.toUInt32 31)).toInt32) ||| ((rndN (fun q => S.1 5 0 q) (fun q => S.1 4 0 q) j 0) <<< (10 &&& 31))))), (11, .int (((((rndN (fun q => S.1 5 0 q) (fun q => S.1 4 0 q) j 7) + ((((((rndN (fun q => S.1 5 0 q) (fun q => S.1 4 0 q) j 4).toUInt32 >>> ((6 : Int32).toUInt32 &&& Int32.toUInt32 31)).toInt32) ||| ((rndN (fun q => S.1 5 0 q) (fun q => S.1 4 0 q) j 4) <<< (26 &&& 31))) ^^^ ((((rndN (fun q => S.1 5 0 q) (fun q => S.1 4 0 q) j 4).toUInt32 >>> ((11 : Int32).toUInt32 &&& Int32.toUInt32 31)).toInt32) ||| ((rndN (fun q => S.1 5 0 q) (fun q => S.1 4 0 q) j 4) <<< (21 &&& 31)))) ^^^ ((((rndN (fun q => S.1 5 0 q) (fun q => S.1 4 0 q) j 4).toUInt32 >>> ((25 : Int32).toUInt32 &&& Int32.toUInt32 31)).toInt32) ||| ((rndN (fun q => S.1 5 0 q) (fun q => S.1 4 0 q) j 4) <<< (7 &&& 31))))) + (((rndN (fun q => S.1 5 0 q) (fun q => S.1 4 0 q) j 4) &&& (rndN (fun q => S.1 5 0 q) (fun q => S.1 4 0 q) j 5)) ^^^ (((rndN (fun q => S.1 5 0 q) (fun q => S.1 4 0 q) j 4) ^^^ (-1 : Int32)) &&& (rndN (fun q => S.1 5 0 q) (fun q => S.1 4 0 q) j 6)))) + (mK j)) + (S.1 5 0 j))), (10, .int ((((((rndN (fun q => S.1 5 0 q) (fun q => S.1 4 0 q) j 4).toUInt32 >>> ((6 : Int32).toUInt32 &&& Int32.toUInt32 31)).toInt32) ||| ((rndN (fun q => S.1 5 0 q) (fun q => S.1 4 0 q) j 4) <<< (26 &&& 31))) ^^^ ((((rndN (fun q => S.1 5 0 q) (fun q => S.1 4 0 q) j 4).toUInt32 >>> ((11 : Int32).toUInt32 &&& Int32.toUInt32 31)).toInt32) ||| ((rndN (fun q => S.1 5 0 q) (fun q => S.1 4 0 q) j 4) <<< (21 &&& 31)))) ^^^ ((((rndN (fun q => S.1 5 0 q) (fun q => S.1 4 0 q) j 4).toUInt32 >>> ((25 : Int32).toUInt32 &&& Int32.toUInt32 31)).toInt32) ||| ((rndN (fun q => S.1 5 0 q) (fun q => S.1 4 0 q) j 4) <<< (7 &&& 31))))), (0, .ref (mAdC E 1 0)), (1, .int (rndN (fun q => S.1 5 0 q) (fun q => S.1 4 0 q) j 0)), (2, .int (rndN (fun q => S.1 5 0 q) (fun q => S.1 4 0 q) j 1)), (9, .int (nI j))]) hx hb dX1_mixBlock_215 rfl hl (by decide) rfl (fun ls hl => ?_)
        refine lv_iload_n hx hb dX1_mixBlock_216 rfl (lv_at hl 11 rfl) ?_
        refine lv_istore_n (lv' := [(2, .int (rndN (fun q => S.1 5 0 q) (fun q => S.1 4 0 q) j 0)), (3, .int (rndN (fun q => S.1 5 0 q) (fun q => S.1 4 0 q) j 1)), (4, .int (rndN (fun q => S.1 5 0 q) (fun q => S.1 4 0 q) j 2)), (5, .int ((rndN (fun q => S.1 5 0 q) (fun q => S.1 4 0 q) j 3) + (((((rndN (fun q => S.1 5 0 q) (fun q => S.1 4 0 q) j 7) + ((((((rndN (fun q => S.1 5 0 q) (fun q => S.1 4 0 q) j 4).toUInt32 >>> ((6 : Int32).toUInt32 &&& Int32.toUInt32 31)).toInt32) ||| ((rndN (fun q => S.1 5 0 q) (fun q => S.1 4 0 q) j 4) <<< (26 &&& 31))) ^^^ ((((rndN (fun q => S.1 5 0 q) (fun q => S.1 4 0 q) j 4).toUInt32 >>> ((11 : Int32).toUInt32 &&& Int32.toUInt32 31)).toInt32) ||| ((rndN (fun q => S.1 5 0 q) (fun q => S.1 4 0 q) j 4) <<< (21 &&& 31)))) ^^^ ((((rndN (fun q => S.1 5 0 q) (fun q => S.1 4 0 q) j 4).toUInt32 >>> ((25 : Int32).toUInt32 &&& Int32.toUInt32 31)).toInt32) ||| ((rndN (fun q => S.1 5 0 q) (fun q => S.1 4 0 q) j 4) <<< (7 &&& 31))))) + (((rndN (fun q => S.1 5 0 q) (fun q => S.1 4 0 q) j 4) &&& (rndN (fun q => S.1 5 0 q) (fun q => S.1 4 0 q) j 5)) ^^^ (((rndN (fun q => S.1 5 0 q) (fun q => S.1 4 0 q) j 4) ^^^ (-1 : Int32)) &&& (rndN (fun q => S.1 5 0 q) (fun q => S.1 4 0 q) j 6)))) + (mK j)) + (S.1 5 0 j)))), (6, .int (rndN (fun q => S.1 5 0 q) (fun q => S.1 4 0 q) j 4)), (7, .int (rndN (fun q => S.1 5 0 q) (fun q => S.1 4 0 q) j 5)), (8, .int (rndN (fun q => S.1 5 0 q) (fun q => S.1 4 0 q) j 6)), (13, .int (((((((rndN (fun q => S.1 5 0 q) (fun q => S.1 4 0 q) j 0).toUInt32 >>> ((2 : Int32).toUInt32 &&& Int32.toUInt32 31)).toInt32) ||| ((rndN (fun q => S.1 5 0 q) (fun q => S.1 4 0 q) j 0) <<< (30 &&& 31))) ^^^ ((((rndN (fun q => S.1 5 0 q) (fun q => S.1 4 0 q) j 0).toUInt32 >>> ((13 : Int32).toUInt32 &&& Int32.toUInt32 31)).toInt32) ||| ((rndN (fun q => S.1 5 0 q) (fun q => S.1 4 0 q) j 0) <<< (19 &&& 31)))) ^^^ ((((rndN (fun q => S.1 5 0 q) (fun q => S.1 4 0 q) j 0).toUInt32 >>> ((22 : Int32).toUInt32 &&& Int32.toUInt32 31)).toInt32) ||| ((rndN (fun q => S.1 5 0 q) (fun q => S.1 4 0 q) j 0) <<< (10 &&& 31)))) + ((((rndN (fun q => S.1 5 0 q) (fun q => S.1 4 0 q) j 0) &&& (rndN (fun q => S.1 5 0 q) (fun q => S.1 4 0 q) j 1)) ^^^ ((rndN (fun q => S.1 5 0 q) (fun q => S.1 4 0 q) j 0) &&& (rndN (fun q => S.1 5 0 q) (fun q => S.1 4 0 q) j 2))) ^^^ ((rndN (fun q => S.1 5 0 q) (fun q => S.1 4 0 q) j 1) &&& (rndN (fun q => S.1 5 0 q) (fun q => S.1 4 0 q) j 2))))), (12, .int ((((((rndN (fun q => S.1 5 0 q) (fun q => S.1 4 0 q) j 0).toUInt32 >>> ((2 : Int32).toUInt32 &&& Int32.toUInt32 31)).toInt32) ||| ((rndN (fun q => S.1 5 0 q) (fun q => S.1 4 0 q) j 0) <<< (30 &&& 31))) ^^^ ((((rndN (fun q => S.1 5 0 q) (fun q => S.1 4 0 q) j 0).toUInt32 >>> ((13 : Int32).toUInt32 &&& Int32.toUInt32 31)).toInt32) ||| ((rndN (fun q => S.1 5 0 q) (fun q => S.1 4 0 q) j 0) <<< (19 &&& 31)))) ^^^ ((((rndN (fun q => S.1 5 0 q) (fun q => S.1 4 0 q) j 0).toUInt32 >>> ((22 : Int32).toUInt32 &&& Int32.toUInt32 31)).toInt32) ||| ((rndN (fun q => S.1 5 0 q) (fun q => S.1 4 0 q) j 0) <<< (10 &&& 31))))), (11, .int (((((rndN (fun q => S.1 5 0 q) (fun q => S.1 4 0 q) j 7) + ((((((rndN (fun q => S.1 5 0 q) (fun q => S.1 4 0 q) j 4).toUInt32 >>> ((6 : Int32).toUInt32 &&& Int32.toUInt32 31)).toInt32) ||| ((rndN (fun q => S.1 5 0 q) (fun q => S.1 4 0 q) j 4) <<< (26 &&& 31))) ^^^ ((((rndN (fun q => S.1 5 0 q) (fun q => S.1 4 0 q) j 4).toUInt32 >>> ((11 : Int32).toUInt32 &&& Int32.toUInt32 31)).toInt32) ||| ((rndN (fun q => S.1 5 0 q) (fun q => S.1 4 0 q) j 4) <<< (21 &&& 31)))) ^^^ ((((rndN (fun q => S.1 5 0 q) (fun q => S.1 4 0 q) j 4).toUInt32 >>> ((25 : Int32).toUInt32 &&& Int32.toUInt32 31)).toInt32) ||| ((rndN (fun q => S.1 5 0 q) (fun q => S.1 4 0 q) j 4) <<< (7 &&& 31))))) + (((rndN (fun q => S.1 5 0 q) (fun q => S.1 4 0 q) j 4) &&& (rndN (fun q => S.1 5 0 q) (fun q => S.1 4 0 q) j 5)) ^^^ (((rndN (fun q => S.1 5 0 q) (fun q => S.1 4 0 q) j 4) ^^^ (-1 : Int32)) &&& (rndN (fun q => S.1 5 0 q) (fun q => S.1 4 0 q) j 6)))) + (mK j)) + (S.1 5 0 j))), (10, .int ((((((rndN (fun q => S.1 5 0 q) (fun q => S.1 4 0 q) j 4).toUInt32 >>> ((6 : Int32).toUInt32 &&& Int32.toUInt32 31)).toInt32) ||| ((rndN (fun q => S.1 5 0 q) (fun q => S.1 4 0 q) j 4) <<< (26 &&& 31))) ^^^ ((((rndN (fun q => S.1 5 0 q) (fun q => S.1 4 0 q) j 4).toUInt32 >>> ((11 : Int32).toUInt32 &&& Int32.toUInt32 31)).toInt32) ||| ((rndN (fun q => S.1 5 0 q) (fun q => S.1 4 0 q) j 4) <<< (21 &&& 31)))) ^^^ ((((rndN (fun q => S.1 5 0 q) (fun q => S.1 4 0 q) j 4).toUInt32 >>> ((25 : Int32).toUInt32 &&& Int32.toUInt32 31)).toInt32) ||| ((rndN (fun q => S.1 5 0 q) (fun q => S.1 4 0 q) j 4) <<< (7 &&& 31))))), (0, .ref (mAdC E 1 0)), (1, .int (rndN (fun q => S.1 5 0 q) (fun q => S.1 4 0 q) j 0)), (9, .int (nI j))]) hx hb dX1_mixBlock_217 rfl hl (by decide) rfl (fun ls hl => ?_)
        refine lv_iload hx hb dX1_mixBlock_218 (lv_at hl 9 rfl) ?_
        refine lv_iload hx hb dX1_mixBlock_220 (lv_at hl 7 rfl) ?_
        refine lv_iadd hx hb dX1_mixBlock_222 ?_
        refine lv_istore_n (lv' := [(1, .int ((((((rndN (fun q => S.1 5 0 q) (fun q => S.1 4 0 q) j 7) + ((((((rndN (fun q => S.1 5 0 q) (fun q => S.1 4 0 q) j 4).toUInt32 >>> ((6 : Int32).toUInt32 &&& Int32.toUInt32 31)).toInt32) ||| ((rndN (fun q => S.1 5 0 q) (fun q => S.1 4 0 q) j 4) <<< (26 &&& 31))) ^^^ ((((rndN (fun q => S.1 5 0 q) (fun q => S.1 4 0 q) j 4).toUInt32 >>> ((11 : Int32).toUInt32 &&& Int32.toUInt32 31)).toInt32) ||| ((rndN (fun q => S.1 5 0 q) (fun q => S.1 4 0 q) j 4) <<< (21 &&& 31)))) ^^^ ((((rndN (fun q => S.1 5 0 q) (fun q => S.1 4 0 q) j 4).toUInt32 >>> ((25 : Int32).toUInt32 &&& Int32.toUInt32 31)).toInt32) ||| ((rndN (fun q => S.1 5 0 q) (fun q => S.1 4 0 q) j 4) <<< (7 &&& 31))))) + (((rndN (fun q => S.1 5 0 q) (fun q => S.1 4 0 q) j 4) &&& (rndN (fun q => S.1 5 0 q) (fun q => S.1 4 0 q) j 5)) ^^^ (((rndN (fun q => S.1 5 0 q) (fun q => S.1 4 0 q) j 4) ^^^ (-1 : Int32)) &&& (rndN (fun q => S.1 5 0 q) (fun q => S.1 4 0 q) j 6)))) + (mK j)) + (S.1 5 0 j)) + (((((((rndN (fun q => S.1 5 0 q) (fun q => S.1 4 0 q) j 0).toUInt32 >>> ((2 : Int32).toUInt32 &&& Int32.toUInt32 31)).toInt32) ||| ((rndN (fun q => S.1 5 0 q) (fun q => S.1 4 0 q) j 0) <<< (30 &&& 31))) ^^^ ((((rndN (fun q => S.1 5 0 q) (fun q => S.1 4 0 q) j 0).toUInt32 >>> ((13 : Int32).toUInt32 &&& Int32.toUInt32 31)).toInt32) ||| ((rndN (fun q => S.1 5 0 q) (fun q => S.1 4 0 q) j 0) <<< (19 &&& 31)))) ^^^ ((((rndN (fun q => S.1 5 0 q) (fun q => S.1 4 0 q) j 0).toUInt32 >>> ((22 : Int32).toUInt32 &&& Int32.toUInt32 31)).toInt32) ||| ((rndN (fun q => S.1 5 0 q) (fun q => S.1 4 0 q) j 0) <<< (10 &&& 31)))) + ((((rndN (fun q => S.1 5 0 q) (fun q => S.1 4 0 q) j 0) &&& (rndN (fun q => S.1 5 0 q) (fun q => S.1 4 0 q) j 1)) ^^^ ((rndN (fun q => S.1 5 0 q) (fun q => S.1 4 0 q) j 0) &&& (rndN (fun q => S.1 5 0 q) (fun q => S.1 4 0 q) j 2))) ^^^ ((rndN (fun q => S.1 5 0 q) (fun q => S.1 4 0 q) j 1) &&& (rndN (fun q => S.1 5 0 q) (fun q => S.1 4 0 q) j 2)))))), (2, .int (rndN (fun q => S.1 5 0 q) (fun q => S.1 4 0 q) j 0)), (3, .int (rndN (fun q => S.1 5 0 q) (fun q => S.1 4 0 q) j 1)), (4, .int (rndN (fun q => S.1 5 0 q) (fun q => S.1 4 0 q) j 2)), (5, .int ((rndN (fun q => S.1 5 0 q) (fun q => S.1 4 0 q) j 3) + (((((rndN (fun q => S.1 5 0 q) (fun q => S.1 4 0 q) j 7) + ((((((rndN (fun q => S.1 5 0 q) (fun q => S.1 4 0 q) j 4).toUInt32 >>> ((6 : Int32).toUInt32 &&& Int32.toUInt32 31)).toInt32) ||| ((rndN (fun q => S.1 5 0 q) (fun q => S.1 4 0 q) j 4) <<< (26 &&& 31))) ^^^ ((((rndN (fun q => S.1 5 0 q) (fun q => S.1 4 0 q) j 4).toUInt32 >>> ((11 : Int32).toUInt32 &&& Int32.toUInt32 31)).toInt32) ||| ((rndN (fun q => S.1 5 0 q) (fun q => S.1 4 0 q) j 4) <<< (21 &&& 31)))) ^^^ ((((rndN (fun q => S.1 5 0 q) (fun q => S.1 4 0 q) j 4).toUInt32 >>> ((25 : Int32).toUInt32 &&& Int32.toUInt32 31)).toInt32) ||| ((rndN (fun q => S.1 5 0 q) (fun q => S.1 4 0 q) j 4) <<< (7 &&& 31))))) + (((rndN (fun q => S.1 5 0 q) (fun q => S.1 4 0 q) j 4) &&& (rndN (fun q => S.1 5 0 q) (fun q => S.1 4 0 q) j 5)) ^^^ (((rndN (fun q => S.1 5 0 q) (fun q => S.1 4 0 q) j 4) ^^^ (-1 : Int32)) &&& (rndN (fun q => S.1 5 0 q) (fun q => S.1 4 0 q) j 6)))) + (mK j)) + (S.1 5 0 j)))), (6, .int (rndN (fun q => S.1 5 0 q) (fun q => S.1 4 0 q) j 4)), (7, .int (rndN (fun q => S.1 5 0 q) (fun q => S.1 4 0 q) j 5)), (8, .int (rndN (fun q => S.1 5 0 q) (fun q => S.1 4 0 q) j 6)), (13, .int (((((((rndN (fun q => S.1 5 0 q) (fun q => S.1 4 0 q) j 0).toUInt32 >>> ((2 : Int32).toUInt32 &&& Int32.toUInt32 31)).toInt32) ||| ((rndN (fun q => S.1 5 0 q) (fun q => S.1 4 0 q) j 0) <<< (30 &&& 31))) ^^^ ((((rndN (fun q => S.1 5 0 q) (fun q => S.1 4 0 q) j 0).toUInt32 >>> ((13 : Int32).toUInt32 &&& Int32.toUInt32 31)).toInt32) ||| ((rndN (fun q => S.1 5 0 q) (fun q => S.1 4 0 q) j 0) <<< (19 &&& 31)))) ^^^ ((((rndN (fun q => S.1 5 0 q) (fun q => S.1 4 0 q) j 0).toUInt32 >>> ((22 : Int32).toUInt32 &&& Int32.toUInt32 31)).toInt32) ||| ((rndN (fun q => S.1 5 0 q) (fun q => S.1 4 0 q) j 0) <<< (10 &&& 31)))) + ((((rndN (fun q => S.1 5 0 q) (fun q => S.1 4 0 q) j 0) &&& (rndN (fun q => S.1 5 0 q) (fun q => S.1 4 0 q) j 1)) ^^^ ((rndN (fun q => S.1 5 0 q) (fun q => S.1 4 0 q) j 0) &&& (rndN (fun q => S.1 5 0 q) (fun q => S.1 4 0 q) j 2))) ^^^ ((rndN (fun q => S.1 5 0 q) (fun q => S.1 4 0 q) j 1) &&& (rndN (fun q => S.1 5 0 q) (fun q => S.1 4 0 q) j 2))))), (12, .int ((((((rndN (fun q => S.1 5 0 q) (fun q => S.1 4 0 q) j 0).toUInt32 >>> ((2 : Int32).toUInt32 &&& Int32.toUInt32 31)).toInt32) ||| ((rndN (fun q => S.1 5 0 q) (fun q => S.1 4 0 q) j 0) <<< (30 &&& 31))) ^^^ ((((rndN (fun q => S.1 5 0 q) (fun q => S.1 4 0 q) j 0).toUInt32 >>> ((13 : Int32).toUInt32 &&& Int32.toUInt32 31)).toInt32) ||| ((rndN (fun q => S.1 5 0 q) (fun q => S.1 4 0 q) j 0) <<< (19 &&& 31)))) ^^^ ((((rndN (fun q => S.1 5 0 q) (fun q => S.1 4 0 q) j 0).toUInt32 >>> ((22 : Int32).toUInt32 &&& Int32.toUInt32 31)).toInt32) ||| ((rndN (fun q => S.1 5 0 q) (fun q => S.1 4 0 q) j 0) <<< (10 &&& 31))))), (11, .int (((((rndN (fun q => S.1 5 0 q) (fun q => S.1 4 0 q) j 7) + ((((((rndN (fun q => S.1 5 0 q) (fun q => S.1 4 0 q) j 4).toUInt32 >>> ((6 : Int32).toUInt32 &&& Int32.toUInt32 31)).toInt32) ||| ((rndN (fun q => S.1 5 0 q) (fun q => S.1 4 0 q) j 4) <<< (26 &&& 31))) ^^^ ((((rndN (fun q => S.1 5 0 q) (fun q => S.1 4 0 q) j 4).toUInt32 >>> ((11 : Int32).toUInt32 &&& Int32.toUInt32 31)).toInt32) ||| ((rndN (fun q => S.1 5 0 q) (fun q => S.1 4 0 q) j 4) <<< (21 &&& 31)))) ^^^ ((((rndN (fun q => S.1 5 0 q) (fun q => S.1 4 0 q) j 4).toUInt32 >>> ((25 : Int32).toUInt32 &&& Int32.toUInt32 31)).toInt32) ||| ((rndN (fun q => S.1 5 0 q) (fun q => S.1 4 0 q) j 4) <<< (7 &&& 31))))) + (((rndN (fun q => S.1 5 0 q) (fun q => S.1 4 0 q) j 4) &&& (rndN (fun q => S.1 5 0 q) (fun q => S.1 4 0 q) j 5)) ^^^ (((rndN (fun q => S.1 5 0 q) (fun q => S.1 4 0 q) j 4) ^^^ (-1 : Int32)) &&& (rndN (fun q => S.1 5 0 q) (fun q => S.1 4 0 q) j 6)))) + (mK j)) + (S.1 5 0 j))), (10, .int ((((((rndN (fun q => S.1 5 0 q) (fun q => S.1 4 0 q) j 4).toUInt32 >>> ((6 : Int32).toUInt32 &&& Int32.toUInt32 31)).toInt32) ||| ((rndN (fun q => S.1 5 0 q) (fun q => S.1 4 0 q) j 4) <<< (26 &&& 31))) ^^^ ((((rndN (fun q => S.1 5 0 q) (fun q => S.1 4 0 q) j 4).toUInt32 >>> ((11 : Int32).toUInt32 &&& Int32.toUInt32 31)).toInt32) ||| ((rndN (fun q => S.1 5 0 q) (fun q => S.1 4 0 q) j 4) <<< (21 &&& 31)))) ^^^ ((((rndN (fun q => S.1 5 0 q) (fun q => S.1 4 0 q) j 4).toUInt32 >>> ((25 : Int32).toUInt32 &&& Int32.toUInt32 31)).toInt32) ||| ((rndN (fun q => S.1 5 0 q) (fun q => S.1 4 0 q) j 4) <<< (7 &&& 31))))), (0, .ref (mAdC E 1 0)), (9, .int (nI j))]) hx hb dX1_mixBlock_223 rfl hl (by decide) rfl (fun ls hl => ?_)
        refine lv_iinc (v := nI (j + 1)) (lv' := [(9, .int (nI (j + 1))), (1, .int ((((((rndN (fun q => S.1 5 0 q) (fun q => S.1 4 0 q) j 7) + ((((((rndN (fun q => S.1 5 0 q) (fun q => S.1 4 0 q) j 4).toUInt32 >>> ((6 : Int32).toUInt32 &&& Int32.toUInt32 31)).toInt32) ||| ((rndN (fun q => S.1 5 0 q) (fun q => S.1 4 0 q) j 4) <<< (26 &&& 31))) ^^^ ((((rndN (fun q => S.1 5 0 q) (fun q => S.1 4 0 q) j 4).toUInt32 >>> ((11 : Int32).toUInt32 &&& Int32.toUInt32 31)).toInt32) ||| ((rndN (fun q => S.1 5 0 q) (fun q => S.1 4 0 q) j 4) <<< (21 &&& 31)))) ^^^ ((((rndN (fun q => S.1 5 0 q) (fun q => S.1 4 0 q) j 4).toUInt32 >>> ((25 : Int32).toUInt32 &&& Int32.toUInt32 31)).toInt32) ||| ((rndN (fun q => S.1 5 0 q) (fun q => S.1 4 0 q) j 4) <<< (7 &&& 31))))) + (((rndN (fun q => S.1 5 0 q) (fun q => S.1 4 0 q) j 4) &&& (rndN (fun q => S.1 5 0 q) (fun q => S.1 4 0 q) j 5)) ^^^ (((rndN (fun q => S.1 5 0 q) (fun q => S.1 4 0 q) j 4) ^^^ (-1 : Int32)) &&& (rndN (fun q => S.1 5 0 q) (fun q => S.1 4 0 q) j 6)))) + (mK j)) + (S.1 5 0 j)) + (((((((rndN (fun q => S.1 5 0 q) (fun q => S.1 4 0 q) j 0).toUInt32 >>> ((2 : Int32).toUInt32 &&& Int32.toUInt32 31)).toInt32) ||| ((rndN (fun q => S.1 5 0 q) (fun q => S.1 4 0 q) j 0) <<< (30 &&& 31))) ^^^ ((((rndN (fun q => S.1 5 0 q) (fun q => S.1 4 0 q) j 0).toUInt32 >>> ((13 : Int32).toUInt32 &&& Int32.toUInt32 31)).toInt32) ||| ((rndN (fun q => S.1 5 0 q) (fun q => S.1 4 0 q) j 0) <<< (19 &&& 31)))) ^^^ ((((rndN (fun q => S.1 5 0 q) (fun q => S.1 4 0 q) j 0).toUInt32 >>> ((22 : Int32).toUInt32 &&& Int32.toUInt32 31)).toInt32) ||| ((rndN (fun q => S.1 5 0 q) (fun q => S.1 4 0 q) j 0) <<< (10 &&& 31)))) + ((((rndN (fun q => S.1 5 0 q) (fun q => S.1 4 0 q) j 0) &&& (rndN (fun q => S.1 5 0 q) (fun q => S.1 4 0 q) j 1)) ^^^ ((rndN (fun q => S.1 5 0 q) (fun q => S.1 4 0 q) j 0) &&& (rndN (fun q => S.1 5 0 q) (fun q => S.1 4 0 q) j 2))) ^^^ ((rndN (fun q => S.1 5 0 q) (fun q => S.1 4 0 q) j 1) &&& (rndN (fun q => S.1 5 0 q) (fun q => S.1 4 0 q) j 2)))))), (2, .int (rndN (fun q => S.1 5 0 q) (fun q => S.1 4 0 q) j 0)), (3, .int (rndN (fun q => S.1 5 0 q) (fun q => S.1 4 0 q) j 1)), (4, .int (rndN (fun q => S.1 5 0 q) (fun q => S.1 4 0 q) j 2)), (5, .int ((rndN (fun q => S.1 5 0 q) (fun q => S.1 4 0 q) j 3) + (((((rndN (fun q => S.1 5 0 q) (fun q => S.1 4 0 q) j 7) + ((((((rndN (fun q => S.1 5 0 q) (fun q => S.1 4 0 q) j 4).toUInt32 >>> ((6 : Int32).toUInt32 &&& Int32.toUInt32 31)).toInt32) ||| ((rndN (fun q => S.1 5 0 q) (fun q => S.1 4 0 q) j 4) <<< (26 &&& 31))) ^^^ ((((rndN (fun q => S.1 5 0 q) (fun q => S.1 4 0 q) j 4).toUInt32 >>> ((11 : Int32).toUInt32 &&& Int32.toUInt32 31)).toInt32) ||| ((rndN (fun q => S.1 5 0 q) (fun q => S.1 4 0 q) j 4) <<< (21 &&& 31)))) ^^^ ((((rndN (fun q => S.1 5 0 q) (fun q => S.1 4 0 q) j 4).toUInt32 >>> ((25 : Int32).toUInt32 &&& Int32.toUInt32 31)).toInt32) ||| ((rndN (fun q => S.1 5 0 q) (fun q => S.1 4 0 q) j 4) <<< (7 &&& 31))))) + (((rndN (fun q => S.1 5 0 q) (fun q => S.1 4 0 q) j 4) &&& (rndN (fun q => S.1 5 0 q) (fun q => S.1 4 0 q) j 5)) ^^^ (((rndN (fun q => S.1 5 0 q) (fun q => S.1 4 0 q) j 4) ^^^ (-1 : Int32)) &&& (rndN (fun q => S.1 5 0 q) (fun q => S.1 4 0 q) j 6)))) + (mK j)) + (S.1 5 0 j)))), (6, .int (rndN (fun q => S.1 5 0 q) (fun q => S.1 4 0 q) j 4)), (7, .int (rndN (fun q => S.1 5 0 q) (fun q => S.1 4 0 q) j 5)), (8, .int (rndN (fun q => S.1 5 0 q) (fun q => S.1 4 0 q) j 6)), (13, .int (((((((rndN (fun q => S.1 5 0 q) (fun q => S.1 4 0 q) j 0).toUInt32 >>> ((2 : Int32).toUInt32 &&& Int32.toUInt32 31)).toInt32) ||| ((rndN (fun q => S.1 5 0 q) (fun q => S.1 4 0 q) j 0) <<< (30 &&& 31))) ^^^ ((((rndN (fun q => S.1 5 0 q) (fun q => S.1 4 0 q) j 0).toUInt32 >>> ((13 : Int32).toUInt32 &&& Int32.toUInt32 31)).toInt32) ||| ((rndN (fun q => S.1 5 0 q) (fun q => S.1 4 0 q) j 0) <<< (19 &&& 31)))) ^^^ ((((rndN (fun q => S.1 5 0 q) (fun q => S.1 4 0 q) j 0).toUInt32 >>> ((22 : Int32).toUInt32 &&& Int32.toUInt32 31)).toInt32) ||| ((rndN (fun q => S.1 5 0 q) (fun q => S.1 4 0 q) j 0) <<< (10 &&& 31)))) + ((((rndN (fun q => S.1 5 0 q) (fun q => S.1 4 0 q) j 0) &&& (rndN (fun q => S.1 5 0 q) (fun q => S.1 4 0 q) j 1)) ^^^ ((rndN (fun q => S.1 5 0 q) (fun q => S.1 4 0 q) j 0) &&& (rndN (fun q => S.1 5 0 q) (fun q => S.1 4 0 q) j 2))) ^^^ ((rndN (fun q => S.1 5 0 q) (fun q => S.1 4 0 q) j 1) &&& (rndN (fun q => S.1 5 0 q) (fun q => S.1 4 0 q) j 2))))), (12, .int ((((((rndN (fun q => S.1 5 0 q) (fun q => S.1 4 0 q) j 0).toUInt32 >>> ((2 : Int32).toUInt32 &&& Int32.toUInt32 31)).toInt32) ||| ((rndN (fun q => S.1 5 0 q) (fun q => S.1 4 0 q) j 0) <<< (30 &&& 31))) ^^^ ((((rndN (fun q => S.1 5 0 q) (fun q => S.1 4 0 q) j 0).toUInt32 >>> ((13 : Int32).toUInt32 &&& Int32.toUInt32 31)).toInt32) ||| ((rndN (fun q => S.1 5 0 q) (fun q => S.1 4 0 q) j 0) <<< (19 &&& 31)))) ^^^ ((((rndN (fun q => S.1 5 0 q) (fun q => S.1 4 0 q) j 0).toUInt32 >>> ((22 : Int32).toUInt32 &&& Int32.toUInt32 31)).toInt32) ||| ((rndN (fun q => S.1 5 0 q) (fun q => S.1 4 0 q) j 0) <<< (10 &&& 31))))), (11, .int (((((rndN (fun q => S.1 5 0 q) (fun q => S.1 4 0 q) j 7) + ((((((rndN (fun q => S.1 5 0 q) (fun q => S.1 4 0 q) j 4).toUInt32 >>> ((6 : Int32).toUInt32 &&& Int32.toUInt32 31)).toInt32) ||| ((rndN (fun q => S.1 5 0 q) (fun q => S.1 4 0 q) j 4) <<< (26 &&& 31))) ^^^ ((((rndN (fun q => S.1 5 0 q) (fun q => S.1 4 0 q) j 4).toUInt32 >>> ((11 : Int32).toUInt32 &&& Int32.toUInt32 31)).toInt32) ||| ((rndN (fun q => S.1 5 0 q) (fun q => S.1 4 0 q) j 4) <<< (21 &&& 31)))) ^^^ ((((rndN (fun q => S.1 5 0 q) (fun q => S.1 4 0 q) j 4).toUInt32 >>> ((25 : Int32).toUInt32 &&& Int32.toUInt32 31)).toInt32) ||| ((rndN (fun q => S.1 5 0 q) (fun q => S.1 4 0 q) j 4) <<< (7 &&& 31))))) + (((rndN (fun q => S.1 5 0 q) (fun q => S.1 4 0 q) j 4) &&& (rndN (fun q => S.1 5 0 q) (fun q => S.1 4 0 q) j 5)) ^^^ (((rndN (fun q => S.1 5 0 q) (fun q => S.1 4 0 q) j 4) ^^^ (-1 : Int32)) &&& (rndN (fun q => S.1 5 0 q) (fun q => S.1 4 0 q) j 6)))) + (mK j)) + (S.1 5 0 j))), (10, .int ((((((rndN (fun q => S.1 5 0 q) (fun q => S.1 4 0 q) j 4).toUInt32 >>> ((6 : Int32).toUInt32 &&& Int32.toUInt32 31)).toInt32) ||| ((rndN (fun q => S.1 5 0 q) (fun q => S.1 4 0 q) j 4) <<< (26 &&& 31))) ^^^ ((((rndN (fun q => S.1 5 0 q) (fun q => S.1 4 0 q) j 4).toUInt32 >>> ((11 : Int32).toUInt32 &&& Int32.toUInt32 31)).toInt32) ||| ((rndN (fun q => S.1 5 0 q) (fun q => S.1 4 0 q) j 4) <<< (21 &&& 31)))) ^^^ ((((rndN (fun q => S.1 5 0 q) (fun q => S.1 4 0 q) j 4).toUInt32 >>> ((25 : Int32).toUInt32 &&& Int32.toUInt32 31)).toInt32) ||| ((rndN (fun q => S.1 5 0 q) (fun q => S.1 4 0 q) j 4) <<< (7 &&& 31))))), (0, .ref (mAdC E 1 0))]) hx hb dX1_mixBlock_224 hl (k := 13) rfl (i2_1 j) (by decide) rfl (fun ls hl => ?_)
        refine lv_goto (tgt := 66) hx hb dX1_mixBlock_227 (by decide) ?_
        exact ih (j + 1) S _ _ ls  (by omega) (by omega) (rfl) hH hS (lv_sub hl [13, 1, 2, 3, 4, 5, 6, 7, 8, 0] rfl)
  exact lp (64 - 0 + 1) 0 S _ _ ls  (by omega) (by omega) (rfl) hH hS (lv_sub hl [9, 8, 7, 6, 5, 4, 3, 2, 1, 0] rfl)
