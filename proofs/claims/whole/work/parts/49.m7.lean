/-! ===== the reference: objects, values, the owner, time ===== -/
theorem mkR_cs (S : mSt) (g : Nat → Int8) (a : Nat) : mkR S g a = 0 ∨ mkR S g a < 0 := by
  unfold mkR
  split
  · split
    · exact Or.inl rfl
    · exact Or.inr (by decide)
  · exact Or.inr (by decide)
theorem mkR_ge {S : mSt} {g : Nat → Int8} {a : Nat} (h : 0 ≤ mkR S g a) : mkR S g a = 0 := (mkR_cs S g a).resolve_right (Int32.not_lt.mpr h)
theorem mkR_ne {S : mSt} {g : Nat → Int8} {a : Nat} (h : ¬ 0 ≤ mkR S g a) : ¬ mkR S g a = 0 := fun e => h (by rw [e]; decide)
theorem mbQ_cs (S : mSt) (t i : Nat) (co : Int32) : (mbQ S t i co).1 = 0 ∨ (mbQ S t i co).1 < 0 := by
  unfold mbQ
  split
  · exact Or.inr (show (-7 : Int32) < 0 by decide)
  · split
    · split
      · split
        · exact Or.inl rfl
        · split
          · exact Or.inl rfl
          · exact mkR_cs _ _ _
      · exact Or.inr (show (-7 : Int32) < 0 by decide)
    · exact Or.inr (show (-7 : Int32) < 0 by decide)
theorem mbP_cs (S : mSt) (t : Nat) (x co : Int32) : (mbP S t x co).1 = 0 ∨ (mbP S t x co).1 < 0 := by
  unfold mbP
  split
  · exact mkR_cs _ _ _
  · cases msO S x with
    | none => exact Or.inr (show (-1 : Int32) < 0 by decide)
    | some i => exact mbQ_cs S t i co
theorem mbP_ge {S : mSt} {t : Nat} {x co : Int32} (h : 0 ≤ (mbP S t x co).1) : (mbP S t x co).1 = 0 := (mbP_cs S t x co).resolve_right (Int32.not_lt.mpr h)
theorem mbP_ne {S : mSt} {t : Nat} {x co : Int32} (h : ¬ 0 ≤ (mbP S t x co).1) : ¬ (mbP S t x co).1 = 0 := fun e => h (by rw [e]; decide)
theorem mkS_same (S : mSt) (g : Nat → Int8) (a : Nat) : nSame (fun k j => k = 0 ∧ j = 18) S (mkS S g a) := by
  unfold mkS
  split
  · split
    · exact nSame.rf
    · exact nSame.M ⟨rfl, rfl⟩
  · exact nSame.rf
theorem mbP_same (S : mSt) (t : Nat) (x co : Int32) : nSame (fun k j => (k = 0 ∧ j = 18) ∨ k = 22) S (mbP S t x co).2 := by
  have ha := (mkS_same S (S.2.1 31 0) (32 * t)).wk (X' := fun k j => (k = 0 ∧ j = 18) ∨ k = 22) (fun _ _ h => Or.inl h)
  unfold mbP
  split
  · exact ha
  · cases msO S x with
    | none => exact nSame.rf
    | some i =>
      show nSame _ S (mbQ S t i co).2
      unfold mbQ
      split
      · exact nSame.rf
      · split
        · split
          · split
            · exact nSame.M (Or.inr rfl)
            · split
              · exact ha.tr (nSame.M (Or.inr rfl))
              · exact ha
          · exact nSame.rf
        · exact nSame.rf
theorem th_ge {o : Option Nat} (h : 0 ≤ o.elim (-1 : Int32) (fun i => nI (4 + i))) : ∃ i, o = some i := by
  cases o with
  | none => exact absurd h (by decide)
  | some i => exact ⟨i, rfl⟩
theorem mtO_lt {S : mSt} {x kd : Int32} {i : Nat} (h : mtO S x kd = some i) : i < 8 := (opO_some (by decide) (mtO_some h).1).2.1
theorem th_lt {S : mSt} {x kd : Int32} (h : ¬ 0 ≤ (mtO S x kd).elim (-1 : Int32) (fun i => nI (4 + i))) : mtO S x kd = none := by
  cases e : mtO S x kd with
  | none => rfl
  | some i =>
    rw [e] at h
    have hi := mtO_lt e
    exact absurd (show (0 : Int32) ≤ nI (4 + i) from Int32.not_lt.mp (nI_pos (by omega))) h
def mcP (S : mSt) (i : Nat) (x co : Int32) : Int32 × mSt := if S.1 37 0 (4 + i) = 0 then mbP S (4 + i) x co else (-3, S)
theorem mcP_same (S : mSt) (i : Nat) (x co : Int32) : nSame (fun k j => (k = 0 ∧ j = 18) ∨ k = 22) S (mcP S i x co).2 := by
  unfold mcP
  split
  · exact mbP_same S (4 + i) x co
  · exact nSame.rf
def rsX : Nat → Nat → Prop := fun k j => k = 16 ∨ k = 22 ∨ (k = 30 ∧ j < 4) ∨ k = 37
def mloR (S : mSt) (x : Int32) (n : Nat) : Int32 := if x = nI 0 then S.1 0 0 18 else if x = nI 1 then S.1 0 0 16 else if x = nI 2 then S.1 0 0 17 else if x = nI 3 then S.1 0 0 19 else if x = nI 4 then cntN (fun q => S.1 30 0 (0 + q)) 4 else if x = nI 5 then cntN (fun q => S.1 22 0 (0 + q)) 4 else if x = nI 6 then cntN (fun q => S.1 30 0 (4 + q)) 8 else if x = nI 7 then nI n else -1
theorem mloR_out {S : mSt} {x : Int32} {n : Nat} (h : x < 0 ∨ nI 8 ≤ x) : mloR S x n = -1 := by
  have key : ∀ k, k < 8 → ¬ x = nI k := fun k hk e => by
    subst e
    rcases h with h | h
    · exact nI_pos (by omega) h
    · have := (nI_leI (by decide) (by omega)).mp h
      omega
  unfold mloR
  rw [if_neg (key 0 (by decide)), if_neg (key 1 (by decide)), if_neg (key 2 (by decide)), if_neg (key 3 (by decide)), if_neg (key 4 (by decide)), if_neg (key 5 (by decide)), if_neg (key 6 (by decide)), if_neg (key 7 (by decide))]
set_option maxHeartbeats 4000000 in
set_option maxRecDepth 100000 in
theorem c_X8_flush (l : Launch) (E : mEv) (A : Nat → Prop) (hO : mOwn mLM E A) (S : mSt) (x : Int32) : Met l yX8_flush (Cond.code yX8_flush cX8_flush 2 (some .int) :: mv_ws) (mRm 1 21) (mPc mLM E A S [.ref (mAdM E 0 0), .int x]) (mQ mLM E A (fun S' => S' = (moO S x).elim S (fun i => mM S 30 0 i 0)) (some (.int ((moO S x).elim (-2) (fun _ => 0))))) 0 0 A := by
  refine Met.ofW (cc := cX8_flush) (maxL := 2) (ret := (some .int)) (by decide) rfl ?_
  intro p e s m args below meth c s₁ B hml hv
  obtain ⟨rfl, hG, hH⟩ := hv
  have hx := B.exec
  have hb := B.bytes
  have hr := B.returns
  have hlocks := B.notSynchronized
  have Cx : CallFix p m c cX8_flush 2 s ([.ref (mAdM E 0 0), .int x] : List Value).toArray (Cond.code yX8_flush cX8_flush 2 (some .int) :: mv_ws) RX8 := ⟨hx, hb, hml, findClass_of_methodNamed B.named, atoms_spec (ws := Cond.code yX8_flush cX8_flush 2 (some .int) :: mv_ws) B.pre⟩
  have hS : va_S A s.heap s.heap [] := va_S.rf
  have hl := lv_entry ([.ref (mAdM E 0 0), .int x]) (n := 2) (Nat.le_of_ble_eq_true rfl)
  rw [lg_entry_eq]
  generalize (lg_sl ([.ref (mAdM E 0 0), .int x]) ++ List.replicate (2 - (lg_sl ([.ref (mAdM E 0 0), .int x])).length) Slot.unset).toArray = ls at hl ⊢
  have hl : lv_has ls 2 [(0, .ref (mAdM E 0 0)), (1, .int x)] := hl
  refine lv_aload_n hx hb dX8_flush_0 rfl (lv_at hl 0 rfl) ?_
  refine lv_iload_n hx hb dX8_flush_1 rfl (lv_at hl 1 rfl) ?_
  refine mv_callV (Y := mLM) (C := RX8) (k := 0) (i := 0) (rest := []) Cx hG hH hS (c_X8_isObject l E A hO S x) q_co_X8_isObject q_ml_X8_214 q_im_X8_isObject q_se_X8_isObject q_in_X8 okM_0 rfl rfl hd_X8_isObject ⟨Nat.le_of_ble_eq_true rfl, Nat.le_of_ble_eq_true rfl⟩ rfl hl.1 rfl (Nat.le_of_ble_eq_true rfl) ⟨Nat.le_of_ble_eq_true rfl, Nat.le_of_ble_eq_true rfl⟩ dX8_flush_2 (fun S2 H locs hP2 hH hS => ?_)
  refine W.eq (g2 := F0 m 5 ls [.int (if (moO S x).isSome = true then 1 else 0)]) rfl ?_
  have hH := mv_S hP2 hH
  refine lv_if_ne (tgt := 11) hx hb dX8_flush_5 (by decide) (fun h5 => ?_) (fun h5 => ?_)
  · skip
    obtain ⟨i, hso⟩ := Option.isSome_iff_exists.mp (b1_of h5)
    obtain ⟨hxi, hi, hop⟩ := opO_some (by decide) hso
    have hl : lv_has ls 2 [(0, .ref (mAdM E 0 0)), (1, .int (nI i))] := by rw [← hxi]; exact hl
    refine lv_aload_n hx hb dX8_flush_11 rfl (lv_at hl 0 rfl) ?_
    refine g_X8_there Cx hG hH q_fl_X8_73 dX8_flush_12 ?_
    refine lv_iload_n hx hb dX8_flush_15 rfl (lv_at hl 1 rfl) ?_
    refine lv_iconst (v := 0) hx hb dX8_flush_16 (by decide) ?_
    refine mv_zas Cx hG hO hH hS isM_30 i (Or.inl rfl) (rfl) (by omega) dX8_flush_17 (fun H locs hH hS => ?_)
    refine lv_iconst (v := 0) hx hb dX8_flush_18 (by decide) ?_
    exact mv_reti Cx hr hH hS (by rw [hso]; rfl) (by rw [hso]; rfl) dX8_flush_19 hlocks
  · skip
    have hno : moO S x = none := Option.not_isSome_iff_eq_none.mp (b0_of h5)
    refine lv_bipush (v := (-2 : Int32)) hx hb dX8_flush_8 (by decide) ?_
    exact mv_reti Cx hr hH hS (by rw [hno]; rfl) (by rw [hno]; rfl) dX8_flush_10 hlocks

set_option maxHeartbeats 4000000 in
set_option maxRecDepth 100000 in
theorem c_X8_unseal (l : Launch) (E : mEv) (A : Nat → Prop) (hO : mOwn mLM E A) (S : mSt) (x y : Int32) (hdo : ∀ i, moO S x = some i → ∃ n, n ≤ 128 ∧ S.1 34 0 i = nI n) : Met l yX8_unseal (Cond.code yX8_unseal cX8_unseal 4 (some .int) :: mv_ws) (mRm 3 71) (mPc mLM E A S [.ref (mAdM E 0 0), .int x, .int y]) (mQ mLM E A (fun S' => (moO S x = none → S' = S) ∧ ∀ i, moO S x = some i → ((mbP S i y 1).1 = 0 → (∀ n, S.1 34 0 i = nI n → n ≤ 128 → nHas 3 512 S' (mTk (fun q => S.2.1 33 0 (128 * i + q)) n)) ∧ nSame (nX 3) (mbP S i y 1).2 S') ∧ (¬ (mbP S i y 1).1 = 0 → S' = (mbP S i y 1).2)) (some (.int ((moO S x).elim (-2) (fun i => if (mbP S i y 1).1 = 0 then S.1 34 0 i else (mbP S i y 1).1))))) 0 0 A := by
  refine Met.ofW (cc := cX8_unseal) (maxL := 4) (ret := (some .int)) (by decide) rfl ?_
  intro p e s m args below meth c s₁ B hml hv
  obtain ⟨rfl, hG, hH⟩ := hv
  have hx := B.exec
  have hb := B.bytes
  have hr := B.returns
  have hlocks := B.notSynchronized
  have Cx : CallFix p m c cX8_unseal 4 s ([.ref (mAdM E 0 0), .int x, .int y] : List Value).toArray (Cond.code yX8_unseal cX8_unseal 4 (some .int) :: mv_ws) RX8 := ⟨hx, hb, hml, findClass_of_methodNamed B.named, atoms_spec (ws := Cond.code yX8_unseal cX8_unseal 4 (some .int) :: mv_ws) B.pre⟩
  have hS : va_S A s.heap s.heap [] := va_S.rf
  have hl := lv_entry ([.ref (mAdM E 0 0), .int x, .int y]) (n := 4) (Nat.le_of_ble_eq_true rfl)
  rw [lg_entry_eq]
  generalize (lg_sl ([.ref (mAdM E 0 0), .int x, .int y]) ++ List.replicate (4 - (lg_sl ([.ref (mAdM E 0 0), .int x, .int y])).length) Slot.unset).toArray = ls at hl ⊢
  have hl : lv_has ls 4 [(0, .ref (mAdM E 0 0)), (1, .int x), (2, .int y)] := hl
  refine lv_aload_n hx hb dX8_unseal_0 rfl (lv_at hl 0 rfl) ?_
  refine lv_iload_n hx hb dX8_unseal_1 rfl (lv_at hl 1 rfl) ?_
  refine mv_callV (Y := mLM) (C := RX8) (k := 0) (i := 0) (rest := []) Cx hG hH hS (c_X8_isObject l E A hO S x) q_co_X8_isObject q_ml_X8_214 q_im_X8_isObject q_se_X8_isObject q_in_X8 okM_0 rfl rfl hd_X8_isObject ⟨Nat.le_of_ble_eq_true rfl, Nat.le_of_ble_eq_true rfl⟩ rfl hl.1 rfl (Nat.le_of_ble_eq_true rfl) ⟨Nat.le_of_ble_eq_true rfl, Nat.le_of_ble_eq_true rfl⟩ dX8_unseal_2 (fun S2 H locs hP2 hH hS => ?_)
  refine W.eq (g2 := F0 m 5 ls [.int (if (moO S x).isSome = true then 1 else 0)]) rfl ?_
  have hH := mv_S hP2 hH
  refine lv_if_ne (tgt := 11) hx hb dX8_unseal_5 (by decide) (fun h5 => ?_) (fun h5 => ?_)
  · skip
    obtain ⟨i, hso⟩ := Option.isSome_iff_exists.mp (b1_of h5)
    obtain ⟨hxi, hi, hop⟩ := opO_some (by decide) hso
    have hl : lv_has ls 4 [(0, .ref (mAdM E 0 0)), (1, .int (nI i)), (2, .int y)] := by rw [← hxi]; exact hl
    obtain ⟨n, hn128, hsz⟩ := hdo i hso
    refine lv_aload_n hx hb dX8_unseal_11 rfl (lv_at hl 0 rfl) ?_
    refine lv_iload_n hx hb dX8_unseal_12 rfl (lv_at hl 1 rfl) ?_
    refine lv_iload_n hx hb dX8_unseal_13 rfl (lv_at hl 2 rfl) ?_
    refine lv_iconst (v := 1) hx hb dX8_unseal_14 (by decide) ?_
    refine mv_callV (Y := mLM) (C := RX8) (k := 0) (i := 0) (rest := []) Cx hG hH hS (c_X8_by l E A hO S i (by omega) y 1) q_co_X8_by q_ml_X8_217 q_im_X8_by q_se_X8_by q_in_X8 okM_0 rfl rfl hd_X8_by ⟨Nat.le_of_ble_eq_true rfl, Nat.le_of_ble_eq_true rfl⟩ rfl hl.1 rfl (Nat.le_of_ble_eq_true rfl) ⟨Nat.le_of_ble_eq_true rfl, Nat.le_of_ble_eq_true rfl⟩ dX8_unseal_15 (fun S15 H locs hP15 hH hS => ?_)
    refine W.eq (g2 := F0 m 18 ls [.int ((mbP S i y 1).1)]) rfl ?_
    have hH := mv_S hP15 hH
    refine lv_istore_n (lv' := [(3, .int ((mbP S i y 1).1)), (0, .ref (mAdM E 0 0)), (1, .int (nI i)), (2, .int y)]) hx hb dX8_unseal_18 rfl hl (by decide) rfl (fun ls hl => ?_)
    refine lv_iload_n hx hb dX8_unseal_19 rfl (lv_at hl 0 rfl) ?_
    refine lv_if_ge (tgt := 27) hx hb dX8_unseal_20 (by decide) (fun h20 => ?_) (fun h20 => ?_)
    · skip
      have h0 := mbP_ge h20
      refine lv_aload_n hx hb dX8_unseal_27 rfl (lv_at hl 1 rfl) ?_
      refine lv_iload_n hx hb dX8_unseal_28 rfl (lv_at hl 2 rfl) ?_
      refine mv_callV (Y := mLM) (C := RX8) (k := 0) (i := 0) (rest := []) Cx hG hH hS (c_X8_show l E A hO (mbP S i y 1).2 i n (by omega) hn128 ((mbP_same S i y 1 34 i (by simp)).1.trans hsz)) q_co_X8_show q_ml_X8_221 q_im_X8_show q_se_X8_show q_in_X8 okM_0 rfl rfl hd_X8_show ⟨Nat.le_of_ble_eq_true rfl, Nat.le_of_ble_eq_true rfl⟩ rfl hl.1 rfl (Nat.le_of_ble_eq_true rfl) ⟨Nat.le_of_ble_eq_true rfl, Nat.le_of_ble_eq_true rfl⟩ dX8_unseal_29 (fun S29 H locs hP29 hH hS => ?_)
      refine W.eq (g2 := F0 m 32 ls [.int (nI n)]) rfl ?_
      exact mv_reti Cx hr hH hS (by rw [hso]; exact ((if_pos h0).trans hsz).symm) (⟨fun h => by (have e := hso.symm.trans h; cases e), fun i' h => by (rw [hso] at h; injection h with h; subst h; exact ⟨fun _ => ⟨fun n' e hn' => by (obtain rfl : n = n' := (nI_eq (by omega) (by omega)).mp (hsz.symm.trans e)); (have h := hP29.1); rwa [show mTk (fun q => (mbP S i y 1).2.2.1 33 0 (128 * i + q)) n = mTk (fun q => S.2.1 33 0 (128 * i + q)) n from mTk_congr (fun q hq => (mbP_same S i y 1 33 _ (by simp)).2.1)] at h, hP29.2⟩, fun q => absurd h0 q⟩)⟩) dX8_unseal_32 hlocks
    · skip
      have h0 := mbP_ne h20
      refine lv_iload_n hx hb dX8_unseal_23 rfl (lv_at hl 0 rfl) ?_
      refine lv_goto (tgt := 32) hx hb dX8_unseal_24 (by decide) ?_
      exact mv_reti Cx hr hH hS (by rw [hso]; exact (if_neg h0).symm) (⟨fun h => by (have e := hso.symm.trans h; cases e), fun i' h => by (rw [hso] at h; injection h with h; subst h; exact ⟨fun q => absurd q h0, fun _ => rfl⟩)⟩) dX8_unseal_32 hlocks
  · skip
    have hno : moO S x = none := Option.not_isSome_iff_eq_none.mp (b0_of h5)
    refine lv_bipush (v := (-2 : Int32)) hx hb dX8_unseal_8 (by decide) ?_
    exact mv_reti Cx hr hH hS (by rw [hno]; rfl) (⟨fun _ => rfl, fun i h => by (rw [hno] at h; cases h)⟩) dX8_unseal_10 hlocks

set_option maxHeartbeats 4000000 in
set_option maxRecDepth 100000 in
theorem c_X8_undefine (l : Launch) (E : mEv) (A : Nat → Prop) (hO : mOwn mLM E A) (S : mSt) (x : Int32) : Met l yX8_undefine (Cond.code yX8_undefine cX8_undefine 4 (some .int) :: mv_ws) (mRm 3 66) (mPc mLM E A S [.ref (mAdM E 0 0), .int x]) (mQ mLM E A (fun S' => S' = (mtO S x (-1)).elim S (fun i => if (mkR S (S.2.1 15 0) 0) = 0 then mM S 30 0 (4 + i) 0 else (mkS S (S.2.1 15 0) 0))) (some (.int ((mtO S x (-1)).elim (-2) (fun _ => (mkR S (S.2.1 15 0) 0)))))) 0 0 A := by
  refine Met.ofW (cc := cX8_undefine) (maxL := 4) (ret := (some .int)) (by decide) rfl ?_
  intro p e s m args below meth c s₁ B hml hv
  obtain ⟨rfl, hG, hH⟩ := hv
  have hx := B.exec
  have hb := B.bytes
  have hr := B.returns
  have hlocks := B.notSynchronized
  have Cx : CallFix p m c cX8_undefine 4 s ([.ref (mAdM E 0 0), .int x] : List Value).toArray (Cond.code yX8_undefine cX8_undefine 4 (some .int) :: mv_ws) RX8 := ⟨hx, hb, hml, findClass_of_methodNamed B.named, atoms_spec (ws := Cond.code yX8_undefine cX8_undefine 4 (some .int) :: mv_ws) B.pre⟩
  have hS : va_S A s.heap s.heap [] := va_S.rf
  have hl := lv_entry ([.ref (mAdM E 0 0), .int x]) (n := 4) (Nat.le_of_ble_eq_true rfl)
  rw [lg_entry_eq]
  generalize (lg_sl ([.ref (mAdM E 0 0), .int x]) ++ List.replicate (4 - (lg_sl ([.ref (mAdM E 0 0), .int x])).length) Slot.unset).toArray = ls at hl ⊢
  have hl : lv_has ls 4 [(0, .ref (mAdM E 0 0)), (1, .int x)] := hl
  refine lv_aload_n hx hb dX8_undefine_0 rfl (lv_at hl 0 rfl) ?_
  refine lv_iload_n hx hb dX8_undefine_1 rfl (lv_at hl 1 rfl) ?_
  refine lv_iconst (v := (-1 : Int32)) hx hb dX8_undefine_2 (by decide) ?_
  refine mv_callV (Y := mLM) (C := RX8) (k := 0) (i := 0) (rest := []) Cx hG hH hS (c_X8_thing l E A hO S x (-1)) q_co_X8_thing q_ml_X8_228 q_im_X8_thing q_se_X8_thing q_in_X8 okM_0 rfl rfl hd_X8_thing ⟨Nat.le_of_ble_eq_true rfl, Nat.le_of_ble_eq_true rfl⟩ rfl hl.1 rfl (Nat.le_of_ble_eq_true rfl) ⟨Nat.le_of_ble_eq_true rfl, Nat.le_of_ble_eq_true rfl⟩ dX8_undefine_3 (fun S3 H locs hP3 hH hS => ?_)
  refine W.eq (g2 := F0 m 6 ls [.int ((mtO S x (-1)).elim (-1) (fun i => nI (4 + i)))]) rfl ?_
  have hH := mv_S hP3 hH
  refine lv_istore_n (lv' := [(2, .int ((mtO S x (-1)).elim (-1) (fun i => nI (4 + i)))), (0, .ref (mAdM E 0 0)), (1, .int x)]) hx hb dX8_undefine_6 rfl hl (by decide) rfl (fun ls hl => ?_)
  refine lv_iload_n hx hb dX8_undefine_7 rfl (lv_at hl 0 rfl) ?_
  refine lv_if_ge (tgt := 14) hx hb dX8_undefine_8 (by decide) (fun h8 => ?_) (fun h8 => ?_)
  · skip
    obtain ⟨i, hso⟩ := th_ge h8
    have hi := mtO_lt hso
    have hth : (mtO S x (-1)).elim (-1) (fun i => nI (4 + i)) = nI (4 + i) := by rw [hso]; rfl
    have hl : lv_has ls 4 [(2, .int (nI (4 + i))), (0, .ref (mAdM E 0 0)), (1, .int x)] := by rw [← hth]; exact hl
    refine lv_aload_n hx hb dX8_undefine_14 rfl (lv_at hl 1 rfl) ?_
    refine mv_callV (Y := mLM) (C := RX8) (k := 0) (i := 0) (rest := []) Cx hG hH hS (c_X8_owners l E A hO S) q_co_X8_owners q_ml_X8_225 q_im_X8_owners q_se_X8_owners q_in_X8 okM_0 rfl rfl hd_X8_owners ⟨Nat.le_of_ble_eq_true rfl, Nat.le_of_ble_eq_true rfl⟩ rfl hl.1 rfl (Nat.le_of_ble_eq_true rfl) ⟨Nat.le_of_ble_eq_true rfl, Nat.le_of_ble_eq_true rfl⟩ dX8_undefine_15 (fun S15 H locs hP15 hH hS => ?_)
    refine W.eq (g2 := F0 m 18 ls [.int (mkR S (S.2.1 15 0) 0)]) rfl ?_
    have hH := mv_S hP15 hH
    refine lv_istore_n (lv' := [(3, .int (mkR S (S.2.1 15 0) 0)), (2, .int (nI (4 + i))), (0, .ref (mAdM E 0 0)), (1, .int x)]) hx hb dX8_undefine_18 rfl hl (by decide) rfl (fun ls hl => ?_)
    refine lv_iload_n hx hb dX8_undefine_19 rfl (lv_at hl 0 rfl) ?_
    refine lv_if_ne (tgt := 30) hx hb dX8_undefine_20 (by decide) (fun h20 => ?_) (fun h20 => ?_)
    · skip
      refine lv_iload_n hx hb dX8_undefine_30 rfl (lv_at hl 0 rfl) ?_
      exact mv_reti Cx hr hH hS (by rw [hso]; rfl) (by rw [hso]; exact (if_neg h20).symm) dX8_undefine_31 hlocks
    · skip
      have hH := mv_S (mkS_0 h20) hH
      refine lv_aload_n hx hb dX8_undefine_23 rfl (lv_at hl 2 rfl) ?_
      refine g_X8_there Cx hG hH q_fl_X8_73 dX8_undefine_24 ?_
      refine lv_iload_n hx hb dX8_undefine_27 rfl (lv_at hl 1 rfl) ?_
      refine lv_iconst (v := 0) hx hb dX8_undefine_28 (by decide) ?_
      refine mv_zas Cx hG hO hH hS isM_30 (4 + i) (Or.inl rfl) (rfl) (by omega) dX8_undefine_29 (fun H locs hH hS => ?_)
      refine lv_iload_n hx hb dX8_undefine_30 rfl (lv_at hl 0 rfl) ?_
      exact mv_reti Cx hr hH hS (by rw [hso]; rfl) (by rw [hso]; exact (if_pos h20).symm) dX8_undefine_31 hlocks
  · skip
    have hno := th_lt h8
    refine lv_bipush (v := (-2 : Int32)) hx hb dX8_undefine_11 (by decide) ?_
    exact mv_reti Cx hr hH hS (by rw [hno]; rfl) (by rw [hno]; rfl) dX8_undefine_13 hlocks

set_option maxHeartbeats 4000000 in
set_option maxRecDepth 100000 in
theorem c_X8_read (l : Launch) (E : mEv) (A : Nat → Prop) (hO : mOwn mLM E A) (S : mSt) (x y : Int32) (hdv : ∀ i, mtO S x (-1) = some i → ∃ n, n ≤ 128 ∧ S.1 34 0 (4 + i) = nI n) : Met l yX8_read (Cond.code yX8_read cX8_read 5 (some .int) :: mv_ws) (mRm 3 71) (mPc mLM E A S [.ref (mAdM E 0 0), .int x, .int y]) (mQ mLM E A (fun S' => (mtO S x (-1) = none → S' = S) ∧ ∀ i, mtO S x (-1) = some i → (S.1 36 0 (4 + i) = 0 → S' = S) ∧ (¬ S.1 36 0 (4 + i) = 0 → ((mbP S (4 + i) y 5).1 = 0 → (∀ n, S.1 34 0 (4 + i) = nI n → n ≤ 128 → nHas 3 512 S' (mTk (fun q => S.2.1 33 0 (128 * (4 + i) + q)) n)) ∧ nSame (nX 3) (mbP S (4 + i) y 5).2 S') ∧ (¬ (mbP S (4 + i) y 5).1 = 0 → S' = (mbP S (4 + i) y 5).2))) (some (.int ((mtO S x (-1)).elim (-2) (fun i => if S.1 36 0 (4 + i) = 0 then -3 else if (mbP S (4 + i) y 5).1 = 0 then S.1 34 0 (4 + i) else (mbP S (4 + i) y 5).1))))) 0 0 A := by
  refine Met.ofW (cc := cX8_read) (maxL := 5) (ret := (some .int)) (by decide) rfl ?_
  intro p e s m args below meth c s₁ B hml hv
  obtain ⟨rfl, hG, hH⟩ := hv
  have hx := B.exec
  have hb := B.bytes
  have hr := B.returns
  have hlocks := B.notSynchronized
  have Cx : CallFix p m c cX8_read 5 s ([.ref (mAdM E 0 0), .int x, .int y] : List Value).toArray (Cond.code yX8_read cX8_read 5 (some .int) :: mv_ws) RX8 := ⟨hx, hb, hml, findClass_of_methodNamed B.named, atoms_spec (ws := Cond.code yX8_read cX8_read 5 (some .int) :: mv_ws) B.pre⟩
  have hS : va_S A s.heap s.heap [] := va_S.rf
  have hl := lv_entry ([.ref (mAdM E 0 0), .int x, .int y]) (n := 5) (Nat.le_of_ble_eq_true rfl)
  rw [lg_entry_eq]
  generalize (lg_sl ([.ref (mAdM E 0 0), .int x, .int y]) ++ List.replicate (5 - (lg_sl ([.ref (mAdM E 0 0), .int x, .int y])).length) Slot.unset).toArray = ls at hl ⊢
  have hl : lv_has ls 5 [(0, .ref (mAdM E 0 0)), (1, .int x), (2, .int y)] := hl
  refine lv_aload_n hx hb dX8_read_0 rfl (lv_at hl 0 rfl) ?_
  refine lv_iload_n hx hb dX8_read_1 rfl (lv_at hl 1 rfl) ?_
  refine lv_iconst (v := (-1 : Int32)) hx hb dX8_read_2 (by decide) ?_
  refine mv_callV (Y := mLM) (C := RX8) (k := 0) (i := 0) (rest := []) Cx hG hH hS (c_X8_thing l E A hO S x (-1)) q_co_X8_thing q_ml_X8_228 q_im_X8_thing q_se_X8_thing q_in_X8 okM_0 rfl rfl hd_X8_thing ⟨Nat.le_of_ble_eq_true rfl, Nat.le_of_ble_eq_true rfl⟩ rfl hl.1 rfl (Nat.le_of_ble_eq_true rfl) ⟨Nat.le_of_ble_eq_true rfl, Nat.le_of_ble_eq_true rfl⟩ dX8_read_3 (fun S3 H locs hP3 hH hS => ?_)
  refine W.eq (g2 := F0 m 6 ls [.int ((mtO S x (-1)).elim (-1) (fun i => nI (4 + i)))]) rfl ?_
  have hH := mv_S hP3 hH
  refine lv_istore_n (lv' := [(3, .int ((mtO S x (-1)).elim (-1) (fun i => nI (4 + i)))), (0, .ref (mAdM E 0 0)), (1, .int x), (2, .int y)]) hx hb dX8_read_6 rfl hl (by decide) rfl (fun ls hl => ?_)
  refine lv_iload_n hx hb dX8_read_7 rfl (lv_at hl 0 rfl) ?_
  refine lv_if_ge (tgt := 14) hx hb dX8_read_8 (by decide) (fun h8 => ?_) (fun h8 => ?_)
  · skip
    obtain ⟨i, hso⟩ := th_ge h8
    have hi := mtO_lt hso
    have hth : (mtO S x (-1)).elim (-1) (fun i => nI (4 + i)) = nI (4 + i) := by rw [hso]; rfl
    have hl : lv_has ls 5 [(3, .int (nI (4 + i))), (0, .ref (mAdM E 0 0)), (1, .int x), (2, .int y)] := by rw [← hth]; exact hl
    obtain ⟨n, hn128, hsz⟩ := hdv i hso
    refine lv_aload_n hx hb dX8_read_14 rfl (lv_at hl 1 rfl) ?_
    refine g_X8_written Cx hG hH q_fl_X8_91 dX8_read_15 ?_
    refine lv_iload_n hx hb dX8_read_18 rfl (lv_at hl 0 rfl) ?_
    refine mv_zal Cx hG hH isM_36 (4 + i) (rfl) (by omega) dX8_read_19 ?_
    refine lv_if_ne (tgt := 26) hx hb dX8_read_20 (by decide) (fun h20 => ?_) (fun h20 => ?_)
    · skip
      refine lv_aload_n hx hb dX8_read_26 rfl (lv_at hl 1 rfl) ?_
      refine lv_iload_n hx hb dX8_read_27 rfl (lv_at hl 0 rfl) ?_
      refine lv_iload_n hx hb dX8_read_28 rfl (lv_at hl 3 rfl) ?_
      refine lv_iconst (v := 5) hx hb dX8_read_29 (by decide) ?_
      refine mv_callV (Y := mLM) (C := RX8) (k := 0) (i := 0) (rest := []) Cx hG hH hS (c_X8_by l E A hO S (4 + i) (by omega) y 5) q_co_X8_by q_ml_X8_217 q_im_X8_by q_se_X8_by q_in_X8 okM_0 rfl rfl hd_X8_by ⟨Nat.le_of_ble_eq_true rfl, Nat.le_of_ble_eq_true rfl⟩ rfl hl.1 rfl (Nat.le_of_ble_eq_true rfl) ⟨Nat.le_of_ble_eq_true rfl, Nat.le_of_ble_eq_true rfl⟩ dX8_read_30 (fun S30 H locs hP30 hH hS => ?_)
      refine W.eq (g2 := F0 m 33 ls [.int ((mbP S (4 + i) y 5).1)]) rfl ?_
      have hH := mv_S hP30 hH
      refine lv_istore (lv' := [(4, .int ((mbP S (4 + i) y 5).1)), (3, .int (nI (4 + i))), (0, .ref (mAdM E 0 0)), (1, .int x), (2, .int y)]) hx hb dX8_read_33 hl (by decide) rfl (fun ls hl => ?_)
      refine lv_iload hx hb dX8_read_35 (lv_at hl 0 rfl) ?_
      refine lv_if_ge (tgt := 45) hx hb dX8_read_37 (by decide) (fun h37 => ?_) (fun h37 => ?_)
      · skip
        have h0 := mbP_ge h37
        refine lv_aload_n hx hb dX8_read_45 rfl (lv_at hl 2 rfl) ?_
        refine lv_iload_n hx hb dX8_read_46 rfl (lv_at hl 1 rfl) ?_
        refine mv_callV (Y := mLM) (C := RX8) (k := 0) (i := 0) (rest := []) Cx hG hH hS (c_X8_show l E A hO (mbP S (4 + i) y 5).2 (4 + i) n (by omega) hn128 ((mbP_same S (4 + i) y 5 34 (4 + i) (by simp)).1.trans hsz)) q_co_X8_show q_ml_X8_221 q_im_X8_show q_se_X8_show q_in_X8 okM_0 rfl rfl hd_X8_show ⟨Nat.le_of_ble_eq_true rfl, Nat.le_of_ble_eq_true rfl⟩ rfl hl.1 rfl (Nat.le_of_ble_eq_true rfl) ⟨Nat.le_of_ble_eq_true rfl, Nat.le_of_ble_eq_true rfl⟩ dX8_read_47 (fun S47 H locs hP47 hH hS => ?_)
        refine W.eq (g2 := F0 m 50 ls [.int (nI n)]) rfl ?_
        exact mv_reti Cx hr hH hS (by rw [hso]; exact (((if_neg h20).trans (if_pos h0)).trans hsz).symm) (⟨fun h => by (have e := hso.symm.trans h; cases e), fun i' h => by (rw [hso] at h; injection h with h; subst h; exact ⟨fun q => absurd q h20, fun _ => ⟨fun _ => ⟨fun n' e hn' => by (obtain rfl : n = n' := (nI_eq (by omega) (by omega)).mp (hsz.symm.trans e)); (have h := hP47.1); rwa [show mTk (fun q => (mbP S (4 + i) y 5).2.2.1 33 0 (128 * (4 + i) + q)) n = mTk (fun q => S.2.1 33 0 (128 * (4 + i) + q)) n from mTk_congr (fun q hq => (mbP_same S (4 + i) y 5 33 _ (by simp)).2.1)] at h, hP47.2⟩, fun q => absurd h0 q⟩⟩)⟩) dX8_read_50 hlocks
      · skip
        have h0 := mbP_ne h37
        refine lv_iload hx hb dX8_read_40 (lv_at hl 0 rfl) ?_
        refine lv_goto (tgt := 50) hx hb dX8_read_42 (by decide) ?_
        exact mv_reti Cx hr hH hS (by rw [hso]; exact ((if_neg h20).trans (if_neg h0)).symm) (⟨fun h => by (have e := hso.symm.trans h; cases e), fun i' h => by (rw [hso] at h; injection h with h; subst h; exact ⟨fun q => absurd q h20, fun _ => ⟨fun q => absurd q h0, fun _ => rfl⟩⟩)⟩) dX8_read_50 hlocks
    · skip
      refine lv_bipush (v := (-3 : Int32)) hx hb dX8_read_23 (by decide) ?_
      exact mv_reti Cx hr hH hS (by rw [hso]; exact (if_pos h20).symm) (⟨fun h => by (have e := hso.symm.trans h; cases e), fun i' h => by (rw [hso] at h; injection h with h; subst h; exact ⟨fun _ => rfl, fun q => absurd h20 q⟩)⟩) dX8_read_25 hlocks
  · skip
    have hno := th_lt h8
    refine lv_bipush (v := (-2 : Int32)) hx hb dX8_read_11 (by decide) ?_
    exact mv_reti Cx hr hH hS (by rw [hno]; rfl) (⟨fun _ => rfl, fun i h => by (rw [hno] at h; cases h)⟩) dX8_read_13 hlocks

set_option maxHeartbeats 4000000 in
set_option maxRecDepth 100000 in
theorem c_X8_shut (l : Launch) (E : mEv) (A : Nat → Prop) (hO : mOwn mLM E A) (S : mSt) (x y : Int32) : Met l yX8_shut (Cond.code yX8_shut cX8_shut 5 (some .int) :: mv_ws) (mRm 3 71) (mPc mLM E A S [.ref (mAdM E 0 0), .int x, .int y]) (mQ mLM E A (fun S' => S' = (mtO S x (-1)).elim S (fun i => if (mbP S (4 + i) y 6).1 = 0 then mM (mbP S (4 + i) y 6).2 37 0 (4 + i) 1 else (mbP S (4 + i) y 6).2)) (some (.int ((mtO S x (-1)).elim (-2) (fun i => (mbP S (4 + i) y 6).1))))) 0 0 A := by
  refine Met.ofW (cc := cX8_shut) (maxL := 5) (ret := (some .int)) (by decide) rfl ?_
  intro p e s m args below meth c s₁ B hml hv
  obtain ⟨rfl, hG, hH⟩ := hv
  have hx := B.exec
  have hb := B.bytes
  have hr := B.returns
  have hlocks := B.notSynchronized
  have Cx : CallFix p m c cX8_shut 5 s ([.ref (mAdM E 0 0), .int x, .int y] : List Value).toArray (Cond.code yX8_shut cX8_shut 5 (some .int) :: mv_ws) RX8 := ⟨hx, hb, hml, findClass_of_methodNamed B.named, atoms_spec (ws := Cond.code yX8_shut cX8_shut 5 (some .int) :: mv_ws) B.pre⟩
  have hS : va_S A s.heap s.heap [] := va_S.rf
  have hl := lv_entry ([.ref (mAdM E 0 0), .int x, .int y]) (n := 5) (Nat.le_of_ble_eq_true rfl)
  rw [lg_entry_eq]
  generalize (lg_sl ([.ref (mAdM E 0 0), .int x, .int y]) ++ List.replicate (5 - (lg_sl ([.ref (mAdM E 0 0), .int x, .int y])).length) Slot.unset).toArray = ls at hl ⊢
  have hl : lv_has ls 5 [(0, .ref (mAdM E 0 0)), (1, .int x), (2, .int y)] := hl
  refine lv_aload_n hx hb dX8_shut_0 rfl (lv_at hl 0 rfl) ?_
  refine lv_iload_n hx hb dX8_shut_1 rfl (lv_at hl 1 rfl) ?_
  refine lv_iconst (v := (-1 : Int32)) hx hb dX8_shut_2 (by decide) ?_
  refine mv_callV (Y := mLM) (C := RX8) (k := 0) (i := 0) (rest := []) Cx hG hH hS (c_X8_thing l E A hO S x (-1)) q_co_X8_thing q_ml_X8_228 q_im_X8_thing q_se_X8_thing q_in_X8 okM_0 rfl rfl hd_X8_thing ⟨Nat.le_of_ble_eq_true rfl, Nat.le_of_ble_eq_true rfl⟩ rfl hl.1 rfl (Nat.le_of_ble_eq_true rfl) ⟨Nat.le_of_ble_eq_true rfl, Nat.le_of_ble_eq_true rfl⟩ dX8_shut_3 (fun S3 H locs hP3 hH hS => ?_)
  refine W.eq (g2 := F0 m 6 ls [.int ((mtO S x (-1)).elim (-1) (fun i => nI (4 + i)))]) rfl ?_
  have hH := mv_S hP3 hH
  refine lv_istore_n (lv' := [(3, .int ((mtO S x (-1)).elim (-1) (fun i => nI (4 + i)))), (0, .ref (mAdM E 0 0)), (1, .int x), (2, .int y)]) hx hb dX8_shut_6 rfl hl (by decide) rfl (fun ls hl => ?_)
  refine lv_iload_n hx hb dX8_shut_7 rfl (lv_at hl 0 rfl) ?_
  refine lv_if_ge (tgt := 14) hx hb dX8_shut_8 (by decide) (fun h8 => ?_) (fun h8 => ?_)
  · skip
    obtain ⟨i, hso⟩ := th_ge h8
    have hi := mtO_lt hso
    have hth : (mtO S x (-1)).elim (-1) (fun i => nI (4 + i)) = nI (4 + i) := by rw [hso]; rfl
    have hl : lv_has ls 5 [(3, .int (nI (4 + i))), (0, .ref (mAdM E 0 0)), (1, .int x), (2, .int y)] := by rw [← hth]; exact hl
    refine lv_aload_n hx hb dX8_shut_14 rfl (lv_at hl 1 rfl) ?_
    refine lv_iload_n hx hb dX8_shut_15 rfl (lv_at hl 0 rfl) ?_
    refine lv_iload_n hx hb dX8_shut_16 rfl (lv_at hl 3 rfl) ?_
    refine lv_bipush (v := 6) hx hb dX8_shut_17 (by decide) ?_
    refine mv_callV (Y := mLM) (C := RX8) (k := 0) (i := 0) (rest := []) Cx hG hH hS (c_X8_by l E A hO S (4 + i) (by omega) y 6) q_co_X8_by q_ml_X8_217 q_im_X8_by q_se_X8_by q_in_X8 okM_0 rfl rfl hd_X8_by ⟨Nat.le_of_ble_eq_true rfl, Nat.le_of_ble_eq_true rfl⟩ rfl hl.1 rfl (Nat.le_of_ble_eq_true rfl) ⟨Nat.le_of_ble_eq_true rfl, Nat.le_of_ble_eq_true rfl⟩ dX8_shut_19 (fun S19 H locs hP19 hH hS => ?_)
    refine W.eq (g2 := F0 m 22 ls [.int ((mbP S (4 + i) y 6).1)]) rfl ?_
    have hH := mv_S hP19 hH
    refine lv_istore (lv' := [(4, .int ((mbP S (4 + i) y 6).1)), (3, .int (nI (4 + i))), (0, .ref (mAdM E 0 0)), (1, .int x), (2, .int y)]) hx hb dX8_shut_22 hl (by decide) rfl (fun ls hl => ?_)
    refine lv_iload hx hb dX8_shut_24 (lv_at hl 0 rfl) ?_
    refine lv_if_ne (tgt := 36) hx hb dX8_shut_26 (by decide) (fun h26 => ?_) (fun h26 => ?_)
    · skip
      refine lv_iload hx hb dX8_shut_36 (lv_at hl 0 rfl) ?_
      exact mv_reti Cx hr hH hS (by rw [hso]; rfl) (by rw [hso]; exact (if_neg h26).symm) dX8_shut_38 hlocks
    · skip
      refine lv_aload_n hx hb dX8_shut_29 rfl (lv_at hl 2 rfl) ?_
      refine g_X8_isShut Cx hG hH q_fl_X8_94 dX8_shut_30 ?_
      refine lv_iload_n hx hb dX8_shut_33 rfl (lv_at hl 1 rfl) ?_
      refine lv_iconst (v := 1) hx hb dX8_shut_34 (by decide) ?_
      refine mv_zas Cx hG hO hH hS isM_37 (4 + i) (Or.inr rfl) (rfl) (by omega) dX8_shut_35 (fun H locs hH hS => ?_)
      refine lv_iload hx hb dX8_shut_36 (lv_at hl 0 rfl) ?_
      exact mv_reti Cx hr hH hS (by rw [hso]; rfl) (by rw [hso]; exact (if_pos h26).symm) dX8_shut_38 hlocks
  · skip
    have hno := th_lt h8
    refine lv_bipush (v := (-2 : Int32)) hx hb dX8_shut_11 (by decide) ?_
    exact mv_reti Cx hr hH hS (by rw [hno]; rfl) (by rw [hno]; rfl) dX8_shut_13 hlocks

set_option maxHeartbeats 4000000 in
set_option maxRecDepth 100000 in
theorem c_X8_own (l : Launch) (E : mEv) (A : Nat → Prop) (hO : mOwn mLM E A) (S : mSt) (ts : List Int8) (hts : nHas 1 400 S ts) : Met l yX8_own (Cond.code yX8_own cX8_own 3 (some .int) :: mv_ws) (mRm 3 90) (mPc mLM E A S [.ref (mAdM E 0 0)]) (mQ mLM E A (fun S' => ((mkR (mM S 0 0 1 0) (S.2.1 15 0) 0) = 0 → (∀ j, j < 32 → S'.2.1 15 0 j = shaL ts j) ∧ nSame (fun k j => scM k j ∨ k = 15) (mM S 0 0 1 0) S') ∧ (¬ (mkR (mM S 0 0 1 0) (S.2.1 15 0) 0) = 0 → S' = mkS (mM S 0 0 1 0) (S.2.1 15 0) 0)) (some (.int (mkR (mM S 0 0 1 0) (S.2.1 15 0) 0)))) 0 0 A := by
  refine Met.ofW (cc := cX8_own) (maxL := 3) (ret := (some .int)) (by decide) rfl ?_
  intro p e s m args below meth c s₁ B hml hv
  obtain ⟨rfl, hG, hH⟩ := hv
  have hx := B.exec
  have hb := B.bytes
  have hr := B.returns
  have hlocks := B.notSynchronized
  have Cx : CallFix p m c cX8_own 3 s ([.ref (mAdM E 0 0)] : List Value).toArray (Cond.code yX8_own cX8_own 3 (some .int) :: mv_ws) RX8 := ⟨hx, hb, hml, findClass_of_methodNamed B.named, atoms_spec (ws := Cond.code yX8_own cX8_own 3 (some .int) :: mv_ws) B.pre⟩
  have hS : va_S A s.heap s.heap [] := va_S.rf
  have hlen := hts.2.1
  have hl := lv_entry ([.ref (mAdM E 0 0)]) (n := 3) (Nat.le_of_ble_eq_true rfl)
  rw [lg_entry_eq]
  generalize (lg_sl ([.ref (mAdM E 0 0)]) ++ List.replicate (3 - (lg_sl ([.ref (mAdM E 0 0)])).length) Slot.unset).toArray = ls at hl ⊢
  have hl : lv_has ls 3 [(0, .ref (mAdM E 0 0))] := hl
  refine lv_aload_n hx hb dX8_own_0 rfl (lv_at hl 0 rfl) ?_
  refine g_X8_tapeLength Cx hG hH q_fl_X8_137 dX8_own_1 ?_
  refine mv_eqi (x' := nI ts.length) (hts.1) ?_
  refine lv_istore_n (lv' := [(1, .int (nI ts.length)), (0, .ref (mAdM E 0 0))]) hx hb dX8_own_4 rfl hl (by decide) rfl (fun ls hl => ?_)
  refine lv_aload_n hx hb dX8_own_5 rfl (lv_at hl 1 rfl) ?_
  refine lv_iconst (v := 0) hx hb dX8_own_6 (by decide) ?_
  refine p_X8_tapeLength Cx hG hO hH hS q_fl_X8_137 dX8_own_7 (fun H locs hH hS => ?_)
  refine lv_aload_n hx hb dX8_own_10 rfl (lv_at hl 1 rfl) ?_
  refine mv_callV (Y := mLM) (C := RX8) (k := 0) (i := 0) (rest := []) Cx hG hH hS (c_X8_owners l E A hO (mM S 0 0 1 0)) q_co_X8_owners q_ml_X8_225 q_im_X8_owners q_se_X8_owners q_in_X8 okM_0 rfl rfl hd_X8_owners ⟨Nat.le_of_ble_eq_true rfl, Nat.le_of_ble_eq_true rfl⟩ rfl hl.1 rfl (Nat.le_of_ble_eq_true rfl) ⟨Nat.le_of_ble_eq_true rfl, Nat.le_of_ble_eq_true rfl⟩ dX8_own_11 (fun S11 H locs hP11 hH hS => ?_)
  refine W.eq (g2 := F0 m 14 ls [.int (mkR (mM S 0 0 1 0) (S.2.1 15 0) 0)]) rfl ?_
  have hH := mv_S hP11 hH
  refine lv_istore_n (lv' := [(2, .int (mkR (mM S 0 0 1 0) (S.2.1 15 0) 0)), (1, .int (nI ts.length)), (0, .ref (mAdM E 0 0))]) hx hb dX8_own_14 rfl hl (by decide) rfl (fun ls hl => ?_)
  refine lv_iload_n hx hb dX8_own_15 rfl (lv_at hl 0 rfl) ?_
  refine lv_if_ge (tgt := 21) hx hb dX8_own_16 (by decide) (fun h16 => ?_) (fun h16 => ?_)
  · skip
    have h0 := mkR_ge h16
    have hH := mv_S (mkS_0 h0) hH
    refine lv_aload_n hx hb dX8_own_21 rfl (lv_at hl 2 rfl) ?_
    refine lv_iconst (v := 0) hx hb dX8_own_22 (by decide) ?_
    refine p_X8_rowCount Cx hG hO hH hS q_fl_X8_100 dX8_own_23 (fun H locs hH hS => ?_)
    refine lv_aload_n hx hb dX8_own_26 rfl (lv_at hl 2 rfl) ?_
    refine lv_aload_n hx hb dX8_own_27 rfl (lv_at hl 2 rfl) ?_
    refine g_X8_tape Cx hG hH q_fl_X8_9 dX8_own_28 ?_
    refine lv_iconst (v := 0) hx hb dX8_own_31 (by decide) ?_
    refine mv_eqi (x' := nI 0) (rfl) ?_
    refine lv_iload_n hx hb dX8_own_32 rfl (lv_at hl 1 rfl) ?_
    refine mv_callV (Y := mLM) (C := RX8) (k := 0) (i := 0) (rest := []) Cx hG hH hS (c_X8_add_ l E A hO (mM (mM S 0 0 1 0) 0 0 5 0) 1 400 isM_1 (by decide) 0 ts.length (by omega) [] nHas.nil (by simp; omega)) q_co_X8_add_ q_ml_X8_134 q_im_X8_add_ q_se_X8_add_ q_in_X8 okM_0 rfl rfl hd_X8_add_ ⟨Nat.le_of_ble_eq_true rfl, Nat.le_of_ble_eq_true rfl⟩ rfl hl.1 rfl (Nat.le_of_ble_eq_true rfl) ⟨Nat.le_of_ble_eq_true rfl, Nat.le_of_ble_eq_true rfl⟩ dX8_own_33 (fun S33 H locs hP33 hH hS => ?_)
    refine W.eq (g2 := F0 m 36 ls []) rfl ?_
    have hr5 : nHas 5 1024 S33 ts := by have h := hP33.1; rw [List.nil_append] at h; rwa [show mTk (fun q => (mM (mM S 0 0 1 0) 0 0 5 0).2.1 1 0 (0 + q)) ts.length = ts from hts.list] at h
    refine lv_aload_n hx hb dX8_own_36 rfl (lv_at hl 2 rfl) ?_
    refine lv_aload_n hx hb dX8_own_37 rfl (lv_at hl 2 rfl) ?_
    refine g_X8_owner Cx hG hH q_fl_X8_41 dX8_own_38 ?_
    refine lv_iconst (v := 0) hx hb dX8_own_41 (by decide) ?_
    refine mv_eqi (x' := nI 0) (rfl) ?_
    refine mv_callV (Y := mLM) (C := RX8) (k := 0) (i := 0) (rest := []) Cx hG hH hS (c_X8_hashTo l E A hO S33 15 32 isM_15 (by decide) 0 (by decide) ts hr5 (by omega)) q_co_X8_hashTo q_ml_X8_111 q_im_X8_hashTo q_se_X8_hashTo q_in_X8 okM_0 rfl rfl hd_X8_hashTo ⟨Nat.le_of_ble_eq_true rfl, Nat.le_of_ble_eq_true rfl⟩ rfl hl.1 rfl (Nat.le_of_ble_eq_true rfl) ⟨Nat.le_of_ble_eq_true rfl, Nat.le_of_ble_eq_true rfl⟩ dX8_own_42 (fun S42 H locs hP42 hH hS => ?_)
    refine W.eq (g2 := F0 m 45 ls []) rfl ?_
    refine lv_iconst (v := 0) hx hb dX8_own_45 (by decide) ?_
    exact mv_reti Cx hr hH hS (h0.symm) (⟨fun _ => ⟨fun j hj => by have h := hP42.1 j hj; rwa [Nat.zero_add] at h, ((nSame.M (by simp [scM, nX, hX, seM])).tr (hP33.2.wk (fun k j h => by simp only [scM, nX, hX, seM] at h ⊢; omega))).tr (hP42.2.wk (fun k j h => by simp only [scM, nX, hX, seM] at h ⊢; omega))⟩, fun q => absurd h0 q⟩) dX8_own_46 hlocks
  · skip
    have h0 := mkR_ne h16
    refine lv_iload_n hx hb dX8_own_19 rfl (lv_at hl 0 rfl) ?_
    exact mv_reti Cx hr hH hS (rfl) (⟨fun q => absurd q h0, fun _ => rfl⟩) dX8_own_20 hlocks

set_option maxHeartbeats 4000000 in
set_option maxRecDepth 100000 in
theorem c_X8_unlock (l : Launch) (E : mEv) (A : Nat → Prop) (hO : mOwn mLM E A) (S : mSt)  : Met l yX8_unlock (Cond.code yX8_unlock cX8_unlock 1 (some .int) :: mv_ws) (mRm 1 24) (mPc mLM E A S [.ref (mAdM E 0 0)]) (mQ mLM E A (fun S' => S' = if mEq (S.2.1 14 0) (S.2.1 15 0) 0 = true then mM S 0 0 18 0 else mM S 0 0 18 (S.1 0 0 18 + 1)) (some (.int (if mEq (S.2.1 14 0) (S.2.1 15 0) 0 = true then 0 else -4)))) 0 0 A := by
  refine Met.ofW (cc := cX8_unlock) (maxL := 1) (ret := (some .int)) (by decide) rfl ?_
  intro p e s m args below meth c s₁ B hml hv
  obtain ⟨rfl, hG, hH⟩ := hv
  have hx := B.exec
  have hb := B.bytes
  have hr := B.returns
  have hlocks := B.notSynchronized
  have Cx : CallFix p m c cX8_unlock 1 s ([.ref (mAdM E 0 0)] : List Value).toArray (Cond.code yX8_unlock cX8_unlock 1 (some .int) :: mv_ws) RX8 := ⟨hx, hb, hml, findClass_of_methodNamed B.named, atoms_spec (ws := Cond.code yX8_unlock cX8_unlock 1 (some .int) :: mv_ws) B.pre⟩
  have hS : va_S A s.heap s.heap [] := va_S.rf
  have hl := lv_entry ([.ref (mAdM E 0 0)]) (n := 1) (Nat.le_of_ble_eq_true rfl)
  rw [lg_entry_eq]
  generalize (lg_sl ([.ref (mAdM E 0 0)]) ++ List.replicate (1 - (lg_sl ([.ref (mAdM E 0 0)])).length) Slot.unset).toArray = ls at hl ⊢
  have hl : lv_has ls 1 [(0, .ref (mAdM E 0 0))] := hl
  refine lv_aload_n hx hb dX8_unlock_0 rfl (lv_at hl 0 rfl) ?_
  refine g_X8_keyNow Cx hG hH q_fl_X8_38 dX8_unlock_1 ?_
  refine lv_iconst (v := 0) hx hb dX8_unlock_4 (by decide) ?_
  refine mv_eqi (x' := nI 0) (rfl) ?_
  refine lv_aload_n hx hb dX8_unlock_5 rfl (lv_at hl 0 rfl) ?_
  refine g_X8_owner Cx hG hH q_fl_X8_41 dX8_unlock_6 ?_
  refine lv_iconst (v := 0) hx hb dX8_unlock_9 (by decide) ?_
  refine mv_eqi (x' := nI 0) (rfl) ?_
  refine mv_callS (Y := mLM) (rest := []) Cx hG hH hS (c_X8_same l E A hO S 14 32 isM_14 0 (by decide) 15 32 isM_15 0 (by decide)) q_co_X8_same q_ml_X8_189 q_st_X8_same q_in_X8 hd_X8_same ⟨Nat.le_of_ble_eq_true rfl, Nat.le_of_ble_eq_true rfl⟩ rfl hl.1 rfl (Nat.le_of_ble_eq_true rfl) ⟨Nat.le_of_ble_eq_true rfl, Nat.le_of_ble_eq_true rfl⟩ dX8_unlock_10 (fun S10 H locs hP10 hH hS => ?_)
  refine W.eq (g2 := F0 m 13 ls [.int (if nEq (S.2.1 14 0) (S.2.1 15 0) 0 0 = true then 1 else 0)]) rfl ?_
  have hH := mv_S hP10 hH
  refine lv_if_ne (tgt := 29) hx hb dX8_unlock_13 (by decide) (fun h13 => ?_) (fun h13 => ?_)
  · skip
    have heq : mEq (S.2.1 14 0) (S.2.1 15 0) 0 = true := by have := b1_of h13; rwa [nEq_0] at this
    refine lv_aload_n hx hb dX8_unlock_29 rfl (lv_at hl 0 rfl) ?_
    refine lv_iconst (v := 0) hx hb dX8_unlock_30 (by decide) ?_
    refine p_X8_failures Cx hG hO hH hS q_fl_X8_193 dX8_unlock_31 (fun H locs hH hS => ?_)
    refine lv_iconst (v := 0) hx hb dX8_unlock_34 (by decide) ?_
    exact mv_reti Cx hr hH hS ((if_pos heq).symm) ((if_pos heq).symm) dX8_unlock_35 hlocks
  · skip
    have hne : ¬ mEq (S.2.1 14 0) (S.2.1 15 0) 0 = true := by have := b0_of h13; rwa [nEq_0] at this
    refine lv_aload_n hx hb dX8_unlock_16 rfl (lv_at hl 0 rfl) ?_
    refine lv_dup hx hb dX8_unlock_17 rfl ?_
    refine g_X8_failures Cx hG hH q_fl_X8_193 dX8_unlock_18 ?_
    refine lv_iconst (v := 1) hx hb dX8_unlock_21 (by decide) ?_
    refine lv_iadd hx hb dX8_unlock_22 ?_
    refine p_X8_failures Cx hG hO hH hS q_fl_X8_193 dX8_unlock_23 (fun H locs hH hS => ?_)
    refine lv_bipush (v := (-4 : Int32)) hx hb dX8_unlock_26 (by decide) ?_
    exact mv_reti Cx hr hH hS ((if_neg hne).symm) ((if_neg hne).symm) dX8_unlock_28 hlocks

set_option maxHeartbeats 4000000 in
set_option maxRecDepth 100000 in
theorem c_X8_clear (l : Launch) (E : mEv) (A : Nat → Prop) (hO : mOwn mLM E A) (S : mSt)  : Met l yX8_clear (Cond.code yX8_clear cX8_clear 3 (some .int) :: mv_ws) (mRm 3 90) (mPc mLM E A S [.ref (mAdM E 0 0)]) (mQ mLM E A (fun S' => ((mkR S (S.2.1 15 0) 0) = 0 → (∀ j, j < 32 → S'.2.1 13 0 j = shaL (mTk (S.2.1 13 0) 32) j) ∧ (∀ q, q < 12 → S'.1 30 0 q = 0) ∧ (∀ j, j < 32 → S'.2.1 15 0 j = shaL [] j) ∧ nSame (fun k j => scM k j ∨ k = 13 ∨ k = 30 ∨ k = 15) S S') ∧ (¬ (mkR S (S.2.1 15 0) 0) = 0 → S' = (mkS S (S.2.1 15 0) 0))) (some (.int (mkR S (S.2.1 15 0) 0)))) 0 0 A := by
  refine Met.ofW (cc := cX8_clear) (maxL := 3) (ret := (some .int)) (by decide) rfl ?_
  intro p e s m args below meth c s₁ B hml hv
  obtain ⟨rfl, hG, hH⟩ := hv
  have hx := B.exec
  have hb := B.bytes
  have hr := B.returns
  have hlocks := B.notSynchronized
  have Cx : CallFix p m c cX8_clear 3 s ([.ref (mAdM E 0 0)] : List Value).toArray (Cond.code yX8_clear cX8_clear 3 (some .int) :: mv_ws) RX8 := ⟨hx, hb, hml, findClass_of_methodNamed B.named, atoms_spec (ws := Cond.code yX8_clear cX8_clear 3 (some .int) :: mv_ws) B.pre⟩
  have hS : va_S A s.heap s.heap [] := va_S.rf
  have hl := lv_entry ([.ref (mAdM E 0 0)]) (n := 3) (Nat.le_of_ble_eq_true rfl)
  rw [lg_entry_eq]
  generalize (lg_sl ([.ref (mAdM E 0 0)]) ++ List.replicate (3 - (lg_sl ([.ref (mAdM E 0 0)])).length) Slot.unset).toArray = ls at hl ⊢
  have hl : lv_has ls 3 [(0, .ref (mAdM E 0 0))] := hl
  refine lv_aload_n hx hb dX8_clear_0 rfl (lv_at hl 0 rfl) ?_
  refine mv_callV (Y := mLM) (C := RX8) (k := 0) (i := 0) (rest := []) Cx hG hH hS (c_X8_owners l E A hO S) q_co_X8_owners q_ml_X8_225 q_im_X8_owners q_se_X8_owners q_in_X8 okM_0 rfl rfl hd_X8_owners ⟨Nat.le_of_ble_eq_true rfl, Nat.le_of_ble_eq_true rfl⟩ rfl hl.1 rfl (Nat.le_of_ble_eq_true rfl) ⟨Nat.le_of_ble_eq_true rfl, Nat.le_of_ble_eq_true rfl⟩ dX8_clear_1 (fun S1 H locs hP1 hH hS => ?_)
  refine W.eq (g2 := F0 m 4 ls [.int (mkR S (S.2.1 15 0) 0)]) rfl ?_
  have hH := mv_S hP1 hH
  refine lv_istore_n (lv' := [(1, .int (mkR S (S.2.1 15 0) 0)), (0, .ref (mAdM E 0 0))]) hx hb dX8_clear_4 rfl hl (by decide) rfl (fun ls hl => ?_)
  refine lv_iload_n hx hb dX8_clear_5 rfl (lv_at hl 0 rfl) ?_
  refine lv_if_ge (tgt := 11) hx hb dX8_clear_6 (by decide) (fun h6 => ?_) (fun h6 => ?_)
  · skip
    have h0 := mkR_ge h6
    have hH := mv_S (mkS_0 h0) hH
    refine lv_aload_n hx hb dX8_clear_11 rfl (lv_at hl 1 rfl) ?_
    refine lv_iconst (v := 0) hx hb dX8_clear_12 (by decide) ?_
    refine p_X8_rowCount Cx hG hO hH hS q_fl_X8_100 dX8_clear_13 (fun H locs hH hS => ?_)
    refine lv_aload_n hx hb dX8_clear_16 rfl (lv_at hl 1 rfl) ?_
    refine lv_aload_n hx hb dX8_clear_17 rfl (lv_at hl 1 rfl) ?_
    refine g_X8_seed Cx hG hH q_fl_X8_35 dX8_clear_18 ?_
    refine lv_iconst (v := 0) hx hb dX8_clear_21 (by decide) ?_
    refine mv_eqi (x' := nI 0) (rfl) ?_
    refine lv_bipush (v := 32) hx hb dX8_clear_22 (by decide) ?_
    refine mv_eqi (x' := nI 32) (rfl) ?_
    refine mv_callV (Y := mLM) (C := RX8) (k := 0) (i := 0) (rest := []) Cx hG hH hS (c_X8_add_ l E A hO (mM S 0 0 5 0) 13 32 isM_13 (by decide) 0 32 (by decide) [] nHas.nil (by simp)) q_co_X8_add_ q_ml_X8_134 q_im_X8_add_ q_se_X8_add_ q_in_X8 okM_0 rfl rfl hd_X8_add_ ⟨Nat.le_of_ble_eq_true rfl, Nat.le_of_ble_eq_true rfl⟩ rfl hl.1 rfl (Nat.le_of_ble_eq_true rfl) ⟨Nat.le_of_ble_eq_true rfl, Nat.le_of_ble_eq_true rfl⟩ dX8_clear_24 (fun S24 H locs hP24 hH hS => ?_)
    refine W.eq (g2 := F0 m 27 ls []) rfl ?_
    have hr5 : nHas 5 1024 S24 (mTk (S.2.1 13 0) 32) := by have h := hP24.1; rw [List.nil_append] at h; rwa [show mTk (fun q => (mM S 0 0 5 0).2.1 13 0 (0 + q)) 32 = mTk (S.2.1 13 0) 32 from mTk_congr (fun q hq => by rw [Nat.zero_add]; rfl)] at h
    refine lv_aload_n hx hb dX8_clear_27 rfl (lv_at hl 1 rfl) ?_
    refine lv_aload_n hx hb dX8_clear_28 rfl (lv_at hl 1 rfl) ?_
    refine g_X8_seed Cx hG hH q_fl_X8_35 dX8_clear_29 ?_
    refine lv_iconst (v := 0) hx hb dX8_clear_32 (by decide) ?_
    refine mv_eqi (x' := nI 0) (rfl) ?_
    refine mv_callV (Y := mLM) (C := RX8) (k := 0) (i := 0) (rest := []) Cx hG hH hS (c_X8_hashTo l E A hO S24 13 32 isM_13 (by decide) 0 (by decide) _ hr5 (by rw [mTk_len]; decide)) q_co_X8_hashTo q_ml_X8_111 q_im_X8_hashTo q_se_X8_hashTo q_in_X8 okM_0 rfl rfl hd_X8_hashTo ⟨Nat.le_of_ble_eq_true rfl, Nat.le_of_ble_eq_true rfl⟩ rfl hl.1 rfl (Nat.le_of_ble_eq_true rfl) ⟨Nat.le_of_ble_eq_true rfl, Nat.le_of_ble_eq_true rfl⟩ dX8_clear_33 (fun S33 H locs hP33 hH hS => ?_)
    refine W.eq (g2 := F0 m 36 ls []) rfl ?_
    have hs33 : nSame (fun k j => scM k j ∨ k = 13 ∨ k = 30 ∨ k = 15) S S33 := ((nSame.M (by simp [scM, nX, hX, seM])).tr (hP24.2.wk (fun k j h => by simp only [scM, nX, hX, seM] at h ⊢; omega))).tr (hP33.2.wk (fun k j h => by simp only [scM, nX, hX, seM] at h ⊢; omega))
    have hsd : ∀ j, j < 32 → S33.2.1 13 0 j = shaL (mTk (S.2.1 13 0) 32) j := fun j hj => by have h := hP33.1 j hj; rwa [Nat.zero_add] at h
    refine lv_iconst (v := 0) hx hb dX8_clear_36 (by decide) ?_
    refine mv_eqi (x' := nI 0) (rfl) ?_
    refine lv_istore_n (lv' := [(2, .int (nI 0)), (1, .int (mkR S (S.2.1 15 0) 0)), (0, .ref (mAdM E 0 0))]) hx hb dX8_clear_37 rfl hl (by decide) rfl (fun ls hl => ?_)
    have lp : ∀ (fu j : Nat) (S1 : mSt) (H : Heap) (locs : List Loc) (ls : Array Slot) , 12 - j < fu → j ≤ 12 → ((∀ q, q < j → S1.1 30 0 q = 0) ∧ nSame (fun k _ => k = 30) S33 S1) → mHold mLM E S1 H → va_S A s.heap H locs → lv_has ls 3 [(0, .ref (mAdM E 0 0)), (2, .int (nI j))] → W p l e (headSpec (Cond.code yX8_clear cX8_clear 3 (some .int) :: mv_ws) (mRm 3 90)).room s m ([.ref (mAdM E 0 0)] : List Value).toArray below meth c H locs 0 0 (MQ below (mQ mLM E A (fun S' => ((mkR S (S.2.1 15 0) 0) = 0 → (∀ j, j < 32 → S'.2.1 13 0 j = shaL (mTk (S.2.1 13 0) 32) j) ∧ (∀ q, q < 12 → S'.1 30 0 q = 0) ∧ (∀ j, j < 32 → S'.2.1 15 0 j = shaL [] j) ∧ nSame (fun k j => scM k j ∨ k = 13 ∨ k = 30 ∨ k = 15) S S') ∧ (¬ (mkR S (S.2.1 15 0) 0) = 0 → S' = (mkS S (S.2.1 15 0) 0))) (some (.int (mkR S (S.2.1 15 0) 0)))) ([.ref (mAdM E 0 0)] : List Value).toArray s 0 0 A) (F0 m 38 ls []) := by
      intro fu
      induction fu with
      | zero => intro j S1 H locs ls  hn hj hinv hH hS hl; omega
      | succ fu ih =>
        intro j S1 H locs ls  hn hj hinv hH hS hl
        refine lv_iload_n hx hb dX8_clear_38 rfl (lv_at hl 1 rfl) ?_
        refine lv_bipush (v := 12) hx hb dX8_clear_39 (by decide) ?_
        refine lv_icmp_ge (tgt := 57) hx hb dX8_clear_41 (by decide) (fun h41 => ?_) (fun h41 => ?_)
        · skip
          have hj12 : j = 12 := by have := ge_of (a := 12) (by decide) (by omega) h41; omega
          rw [hj12] at hinv
          refine lv_aload_n hx hb dX8_clear_57 rfl (lv_at hl 0 rfl) ?_
          refine lv_iconst (v := 0) hx hb dX8_clear_58 (by decide) ?_
          refine p_X8_rowCount Cx hG hO hH hS q_fl_X8_100 dX8_clear_59 (fun H locs hH hS => ?_)
          refine lv_aload_n hx hb dX8_clear_62 rfl (lv_at hl 0 rfl) ?_
          refine lv_aload_n hx hb dX8_clear_63 rfl (lv_at hl 0 rfl) ?_
          refine g_X8_owner Cx hG hH q_fl_X8_41 dX8_clear_64 ?_
          refine lv_iconst (v := 0) hx hb dX8_clear_67 (by decide) ?_
          refine mv_eqi (x' := nI 0) (rfl) ?_
          refine mv_callV (Y := mLM) (C := RX8) (k := 0) (i := 0) (rest := []) Cx hG hH hS (c_X8_hashTo l E A hO (mM S1 0 0 5 0) 15 32 isM_15 (by decide) 0 (by decide) [] nHas.nil (by decide)) q_co_X8_hashTo q_ml_X8_111 q_im_X8_hashTo q_se_X8_hashTo q_in_X8 okM_0 rfl rfl hd_X8_hashTo ⟨Nat.le_of_ble_eq_true rfl, Nat.le_of_ble_eq_true rfl⟩ rfl hl.1 rfl (Nat.le_of_ble_eq_true rfl) ⟨Nat.le_of_ble_eq_true rfl, Nat.le_of_ble_eq_true rfl⟩ dX8_clear_68 (fun S68 H locs hP68 hH hS => ?_)
          refine W.eq (g2 := F0 m 71 ls []) rfl ?_
          refine lv_iconst (v := 0) hx hb dX8_clear_71 (by decide) ?_
          exact mv_reti Cx hr hH hS (h0.symm) (⟨fun _ => ⟨fun j hj => (hP68.2 13 j (by simp only [scM, nX, hX, seM]; omega)).2.1.trans ((hinv.2 13 j (by omega)).2.1.trans (hsd j hj)), fun q hq => (hP68.2 30 q (by simp only [scM, nX, hX, seM]; omega)).1.trans ((show m3 S1.1 0 0 5 0 30 0 q = _ from m3_n _ _ (by omega)).trans (hinv.1 q hq)), fun j hj => by have h := hP68.1 j hj; rwa [Nat.zero_add] at h, ((hs33.tr (hinv.2.wk (fun k j h => Or.inr (Or.inr (Or.inl h))))).tr (nSame.M (by simp [scM, nX, hX, seM]))).tr (hP68.2.wk (fun k j h => by simp only [scM, nX, hX, seM] at h ⊢; omega))⟩, fun q => absurd h0 q⟩) dX8_clear_72 hlocks
        · skip
          have hj12 : j < 12 := lt_of (a := 12) (by decide) (by omega) h41
          refine lv_aload_n hx hb dX8_clear_44 rfl (lv_at hl 0 rfl) ?_
          refine g_X8_there Cx hG hH q_fl_X8_73 dX8_clear_45 ?_
          refine lv_iload_n hx hb dX8_clear_48 rfl (lv_at hl 1 rfl) ?_
          refine lv_iconst (v := 0) hx hb dX8_clear_49 (by decide) ?_
          refine mv_zas Cx hG hO hH hS isM_30 j (Or.inl rfl) (rfl) (by omega) dX8_clear_50 (fun H locs hH hS => ?_)
          refine lv_iinc (v := nI (j + 1)) (lv' := [(2, .int (nI (j + 1))), (0, .ref (mAdM E 0 0))]) hx hb dX8_clear_51 hl (k := 1) rfl (i2_1 j) (by decide) rfl (fun ls hl => ?_)
          refine lv_goto (tgt := 38) hx hb dX8_clear_54 (by decide) ?_
          exact ih (j + 1) (mM S1 30 0 j 0) _ _ ls  (by omega) (by omega) (⟨fun q hq => by by_cases e : q = j; (subst e; simp [mM, m3]); (exact (show m3 S1.1 30 0 j 0 30 0 q = _ from m3_n _ _ (by omega)).trans (hinv.1 q (by omega))), hinv.2.tr (nSame.M (X := fun k _ => k = 30) rfl)⟩) hH hS (lv_sub hl [1, 0] rfl)
    exact lp (12 - 0 + 1) 0 S33 _ _ ls  (by omega) (by omega) (⟨fun q h => absurd h (Nat.not_lt_zero _), nSame.rf⟩) hH hS (lv_sub hl [2, 0] rfl)
  · skip
    have h0 := mkR_ne h6
    refine lv_iload_n hx hb dX8_clear_9 rfl (lv_at hl 0 rfl) ?_
    exact mv_reti Cx hr hH hS (rfl) (⟨fun q => absurd q h0, fun _ => rfl⟩) dX8_clear_10 hlocks

set_option maxHeartbeats 4000000 in
set_option maxRecDepth 100000 in
theorem c_X8_tick (l : Launch) (E : mEv) (A : Nat → Prop) (hO : mOwn mLM E A) (S : mSt) (x : Int32) : Met l yX8_tick (Cond.code yX8_tick cX8_tick 3 (some .int) :: mv_ws) (mRm 0 0) (mPc mLM E A S [.ref (mAdM E 0 0), .int x]) (mQ mLM E A (fun S' => S' = if (¬ x < 0 ∧ ¬ 100000 < x ∧ S.1 0 0 16 ≤ 2000000000 - x) then mM (mM S 0 0 16 (S.1 0 0 16 + x)) 0 0 18 (if ((S.1 0 0 16 + x) / 100 - S.1 0 0 16 / 100) < S.1 0 0 18 then S.1 0 0 18 - ((S.1 0 0 16 + x) / 100 - S.1 0 0 16 / 100) else 0) else S) (some (.int (if (¬ x < 0 ∧ ¬ 100000 < x ∧ S.1 0 0 16 ≤ 2000000000 - x) then S.1 0 0 16 + x else -1)))) 0 0 A := by
  refine Met.ofW (cc := cX8_tick) (maxL := 3) (ret := (some .int)) (by decide) rfl ?_
  intro p e s m args below meth c s₁ B hml hv
  obtain ⟨rfl, hG, hH⟩ := hv
  have hx := B.exec
  have hb := B.bytes
  have hr := B.returns
  have hlocks := B.notSynchronized
  have Cx : CallFix p m c cX8_tick 3 s ([.ref (mAdM E 0 0), .int x] : List Value).toArray (Cond.code yX8_tick cX8_tick 3 (some .int) :: mv_ws) RX8 := ⟨hx, hb, hml, findClass_of_methodNamed B.named, atoms_spec (ws := Cond.code yX8_tick cX8_tick 3 (some .int) :: mv_ws) B.pre⟩
  have hS : va_S A s.heap s.heap [] := va_S.rf
  have hl := lv_entry ([.ref (mAdM E 0 0), .int x]) (n := 3) (Nat.le_of_ble_eq_true rfl)
  rw [lg_entry_eq]
  generalize (lg_sl ([.ref (mAdM E 0 0), .int x]) ++ List.replicate (3 - (lg_sl ([.ref (mAdM E 0 0), .int x])).length) Slot.unset).toArray = ls at hl ⊢
  have hl : lv_has ls 3 [(0, .ref (mAdM E 0 0)), (1, .int x)] := hl
  refine lv_iload_n hx hb dX8_tick_0 rfl (lv_at hl 1 rfl) ?_
  refine lv_if_lt (tgt := 21) hx hb dX8_tick_1 (by decide) (fun h1 => ?_) (fun h1 => ?_)
  · skip
    refine lv_iconst (v := (-1 : Int32)) hx hb dX8_tick_21 (by decide) ?_
    exact mv_reti Cx hr hH hS ((if_neg (fun q => q.1 h1)).symm) ((if_neg (fun q => q.1 h1)).symm) dX8_tick_22 hlocks
  · skip
    refine lv_iload_n hx hb dX8_tick_4 rfl (lv_at hl 1 rfl) ?_
    refine lv_ldc hx hb Cx.2.2.2.1 (Cx.2.2.2.2 _ (List.mem_cons_of_mem _ q_k_X8_240)) dX8_tick_5 ?_
    refine lv_icmp_gt (tgt := 21) hx hb dX8_tick_7 (by decide) (fun h7 => ?_) (fun h7 => ?_)
    · skip
      refine lv_iconst (v := (-1 : Int32)) hx hb dX8_tick_21 (by decide) ?_
      exact mv_reti Cx hr hH hS ((if_neg (fun q => q.2.1 h7)).symm) ((if_neg (fun q => q.2.1 h7)).symm) dX8_tick_22 hlocks
    · skip
      refine lv_aload_n hx hb dX8_tick_10 rfl (lv_at hl 0 rfl) ?_
      refine g_X8_clock Cx hG hH q_fl_X8_163 dX8_tick_11 ?_
      refine lv_ldc hx hb Cx.2.2.2.1 (Cx.2.2.2.2 _ (List.mem_cons_of_mem _ q_k_X8_241)) dX8_tick_14 ?_
      refine lv_iload_n hx hb dX8_tick_16 rfl (lv_at hl 1 rfl) ?_
      refine lv_isub hx hb dX8_tick_17 ?_
      refine lv_icmp_le (tgt := 23) hx hb dX8_tick_18 (by decide) (fun h18 => ?_) (fun h18 => ?_)
      · skip
        have hck : (¬ x < 0 ∧ ¬ 100000 < x ∧ S.1 0 0 16 ≤ 2000000000 - x) := ⟨h1, h7, h18⟩
        refine lv_aload_n hx hb dX8_tick_23 rfl (lv_at hl 0 rfl) ?_
        refine g_X8_clock Cx hG hH q_fl_X8_163 dX8_tick_24 ?_
        refine lv_iload_n hx hb dX8_tick_27 rfl (lv_at hl 1 rfl) ?_
        refine lv_iadd hx hb dX8_tick_28 ?_
        refine lv_bipush (v := 100) hx hb dX8_tick_29 (by decide) ?_
        refine lv_idiv hx hb dX8_tick_31 (by decide) ?_
        refine lv_aload_n hx hb dX8_tick_32 rfl (lv_at hl 0 rfl) ?_
        refine g_X8_clock Cx hG hH q_fl_X8_163 dX8_tick_33 ?_
        refine lv_bipush (v := 100) hx hb dX8_tick_36 (by decide) ?_
        refine lv_idiv hx hb dX8_tick_38 (by decide) ?_
        refine lv_isub hx hb dX8_tick_39 ?_
        refine lv_istore_n (lv' := [(2, .int ((((S.1 0 0 16) + x) / 100) - ((S.1 0 0 16) / 100))), (0, .ref (mAdM E 0 0)), (1, .int x)]) hx hb dX8_tick_40 rfl hl (by decide) rfl (fun ls hl => ?_)
        refine lv_aload_n hx hb dX8_tick_41 rfl (lv_at hl 1 rfl) ?_
        refine lv_dup hx hb dX8_tick_42 rfl ?_
        refine g_X8_clock Cx hG hH q_fl_X8_163 dX8_tick_43 ?_
        refine lv_iload_n hx hb dX8_tick_46 rfl (lv_at hl 2 rfl) ?_
        refine lv_iadd hx hb dX8_tick_47 ?_
        refine p_X8_clock Cx hG hO hH hS q_fl_X8_163 dX8_tick_48 (fun H locs hH hS => ?_)
        refine lv_aload_n hx hb dX8_tick_51 rfl (lv_at hl 1 rfl) ?_
        refine lv_aload_n hx hb dX8_tick_52 rfl (lv_at hl 1 rfl) ?_
        refine g_X8_failures Cx hG hH q_fl_X8_193 dX8_tick_53 ?_
        refine mv_eqi (x' := S.1 0 0 18) (by simp [mM, m3]) ?_
        refine lv_iload_n hx hb dX8_tick_56 rfl (lv_at hl 0 rfl) ?_
        refine lv_icmp_le (tgt := 69) hx hb dX8_tick_57 (by decide) (fun h57 => ?_) (fun h57 => ?_)
        · skip
          refine lv_iconst (v := 0) hx hb dX8_tick_69 (by decide) ?_
          refine p_X8_failures Cx hG hO hH hS q_fl_X8_193 dX8_tick_70 (fun H locs hH hS => ?_)
          refine lv_aload_n hx hb dX8_tick_73 rfl (lv_at hl 1 rfl) ?_
          refine g_X8_clock Cx hG hH q_fl_X8_163 dX8_tick_74 ?_
          refine mv_eqi (x' := S.1 0 0 16 + x) (by simp [mM, m3]) ?_
          exact mv_reti Cx hr hH hS ((if_pos hck).symm) (by rw [if_pos hck, if_neg (Int32.not_lt.mpr h57)]) dX8_tick_77 hlocks
        · skip
          refine lv_aload_n hx hb dX8_tick_60 rfl (lv_at hl 1 rfl) ?_
          refine g_X8_failures Cx hG hH q_fl_X8_193 dX8_tick_61 ?_
          refine mv_eqi (x' := S.1 0 0 18) (by simp [mM, m3]) ?_
          refine lv_iload_n hx hb dX8_tick_64 rfl (lv_at hl 0 rfl) ?_
          refine lv_isub hx hb dX8_tick_65 ?_
          refine lv_goto (tgt := 70) hx hb dX8_tick_66 (by decide) ?_
          refine p_X8_failures Cx hG hO hH hS q_fl_X8_193 dX8_tick_70 (fun H locs hH hS => ?_)
          refine lv_aload_n hx hb dX8_tick_73 rfl (lv_at hl 1 rfl) ?_
          refine g_X8_clock Cx hG hH q_fl_X8_163 dX8_tick_74 ?_
          refine mv_eqi (x' := S.1 0 0 16 + x) (by simp [mM, m3]) ?_
          exact mv_reti Cx hr hH hS ((if_pos hck).symm) (by rw [if_pos hck, if_pos (Int32.not_le.mp h57)]) dX8_tick_77 hlocks
      · skip
        refine lv_iconst (v := (-1 : Int32)) hx hb dX8_tick_21 (by decide) ?_
        exact mv_reti Cx hr hH hS ((if_neg (fun q => h18 q.2.2)).symm) ((if_neg (fun q => h18 q.2.2)).symm) dX8_tick_22 hlocks

set_option maxHeartbeats 4000000 in
set_option maxRecDepth 100000 in
theorem c_X8_restart (l : Launch) (E : mEv) (A : Nat → Prop) (hO : mOwn mLM E A) (S : mSt)  : Met l yX8_restart (Cond.code yX8_restart cX8_restart 2 (some .int) :: mv_ws) (mRm 0 0) (mPc mLM E A S [.ref (mAdM E 0 0)]) (mQ mLM E A (fun S' => (∀ q, q < 256 → S'.2.1 16 0 q = (0 : Int32).toInt8) ∧ (∀ q, q < 4 → S'.1 22 0 q = 0) ∧ (∀ q, q < 4 → S'.1 30 0 q = 0) ∧ (∀ q, q < 8 → S'.1 37 0 (4 + q) = 0) ∧ nSame rsX (mM S 0 0 17 (S.1 0 0 17 + 1)) S') (some (.int (S.1 0 0 17 + 1)))) 0 0 A := by
  refine Met.ofW (cc := cX8_restart) (maxL := 2) (ret := (some .int)) (by decide) rfl ?_
  intro p e s m args below meth c s₁ B hml hv
  obtain ⟨rfl, hG, hH⟩ := hv
  have hx := B.exec
  have hb := B.bytes
  have hr := B.returns
  have hlocks := B.notSynchronized
  have Cx : CallFix p m c cX8_restart 2 s ([.ref (mAdM E 0 0)] : List Value).toArray (Cond.code yX8_restart cX8_restart 2 (some .int) :: mv_ws) RX8 := ⟨hx, hb, hml, findClass_of_methodNamed B.named, atoms_spec (ws := Cond.code yX8_restart cX8_restart 2 (some .int) :: mv_ws) B.pre⟩
  have hS : va_S A s.heap s.heap [] := va_S.rf
  have hl := lv_entry ([.ref (mAdM E 0 0)]) (n := 2) (Nat.le_of_ble_eq_true rfl)
  rw [lg_entry_eq]
  generalize (lg_sl ([.ref (mAdM E 0 0)]) ++ List.replicate (2 - (lg_sl ([.ref (mAdM E 0 0)])).length) Slot.unset).toArray = ls at hl ⊢
  have hl : lv_has ls 2 [(0, .ref (mAdM E 0 0))] := hl
  refine lv_aload_n hx hb dX8_restart_0 rfl (lv_at hl 0 rfl) ?_
  refine lv_dup hx hb dX8_restart_1 rfl ?_
  refine g_X8_restarts Cx hG hH q_fl_X8_169 dX8_restart_2 ?_
  refine lv_iconst (v := 1) hx hb dX8_restart_5 (by decide) ?_
  refine lv_iadd hx hb dX8_restart_6 ?_
  refine p_X8_restarts Cx hG hO hH hS q_fl_X8_169 dX8_restart_7 (fun H locs hH hS => ?_)
  refine lv_iconst (v := 0) hx hb dX8_restart_10 (by decide) ?_
  refine mv_eqi (x' := nI 0) (rfl) ?_
  refine lv_istore_n (lv' := [(1, .int (nI 0)), (0, .ref (mAdM E 0 0))]) hx hb dX8_restart_11 rfl hl (by decide) rfl (fun ls hl => ?_)
  have lp : ∀ (fu j : Nat) (S1 : mSt) (H : Heap) (locs : List Loc) (ls : Array Slot) , 256 - j < fu → j ≤ 256 → ((∀ q, q < j → S1.2.1 16 0 q = (0 : Int32).toInt8) ∧ nSame rsX (mM S 0 0 17 (S.1 0 0 17 + 1)) S1) → mHold mLM E S1 H → va_S A s.heap H locs → lv_has ls 2 [(0, .ref (mAdM E 0 0)), (1, .int (nI j))] → W p l e (headSpec (Cond.code yX8_restart cX8_restart 2 (some .int) :: mv_ws) (mRm 0 0)).room s m ([.ref (mAdM E 0 0)] : List Value).toArray below meth c H locs 0 0 (MQ below (mQ mLM E A (fun S' => (∀ q, q < 256 → S'.2.1 16 0 q = (0 : Int32).toInt8) ∧ (∀ q, q < 4 → S'.1 22 0 q = 0) ∧ (∀ q, q < 4 → S'.1 30 0 q = 0) ∧ (∀ q, q < 8 → S'.1 37 0 (4 + q) = 0) ∧ nSame rsX (mM S 0 0 17 (S.1 0 0 17 + 1)) S') (some (.int (S.1 0 0 17 + 1)))) ([.ref (mAdM E 0 0)] : List Value).toArray s 0 0 A) (F0 m 12 ls []) := by
    intro fu
    induction fu with
    | zero => intro j S1 H locs ls  hn hj hinv hH hS hl; omega
    | succ fu ih =>
      intro j S1 H locs ls  hn hj hinv hH hS hl
      refine lv_iload_n hx hb dX8_restart_12 rfl (lv_at hl 1 rfl) ?_
      refine lv_aload_n hx hb dX8_restart_13 rfl (lv_at hl 0 rfl) ?_
      refine g_X8_register Cx hG hH q_fl_X8_44 dX8_restart_14 ?_
      refine mv_blen Cx hG hH isM_16 dX8_restart_17 ?_
      refine lv_icmp_ge (tgt := 34) hx hb dX8_restart_18 (by decide) (fun h18 => ?_) (fun h18 => ?_)
      · skip
        have hje : j = 256 := by have := ge_of (a := 256) (by decide) (by omega) h18; omega
        rw [hje] at hinv
        refine lv_iconst (v := 0) hx hb dX8_restart_34 (by decide) ?_
        refine mv_eqi (x' := nI 0) (rfl) ?_
        refine lv_istore_n (lv' := [(1, .int (nI 0)), (0, .ref (mAdM E 0 0))]) hx hb dX8_restart_35 rfl hl (by decide) rfl (fun ls hl => ?_)
        have lp2 : ∀ (fu t : Nat) (S2 : mSt) (H : Heap) (locs : List Loc) (ls : Array Slot) , 4 - t < fu → t ≤ 4 → ((∀ q, q < 256 → S2.2.1 16 0 q = (0 : Int32).toInt8) ∧ (∀ q, q < t → S2.1 22 0 q = 0) ∧ nSame rsX (mM S 0 0 17 (S.1 0 0 17 + 1)) S2) → mHold mLM E S2 H → va_S A s.heap H locs → lv_has ls 2 [(0, .ref (mAdM E 0 0)), (1, .int (nI t))] → W p l e (headSpec (Cond.code yX8_restart cX8_restart 2 (some .int) :: mv_ws) (mRm 0 0)).room s m ([.ref (mAdM E 0 0)] : List Value).toArray below meth c H locs 0 0 (MQ below (mQ mLM E A (fun S' => (∀ q, q < 256 → S'.2.1 16 0 q = (0 : Int32).toInt8) ∧ (∀ q, q < 4 → S'.1 22 0 q = 0) ∧ (∀ q, q < 4 → S'.1 30 0 q = 0) ∧ (∀ q, q < 8 → S'.1 37 0 (4 + q) = 0) ∧ nSame rsX (mM S 0 0 17 (S.1 0 0 17 + 1)) S') (some (.int (S.1 0 0 17 + 1)))) ([.ref (mAdM E 0 0)] : List Value).toArray s 0 0 A) (F0 m 36 ls []) := by
          intro fu
          induction fu with
          | zero => intro t S2 H locs ls  hn2 ht hin2 hH hS hl; omega
          | succ fu ih2 =>
            intro t S2 H locs ls  hn2 ht hin2 hH hS hl
            refine lv_iload_n hx hb dX8_restart_36 rfl (lv_at hl 1 rfl) ?_
            refine lv_iconst (v := 4) hx hb dX8_restart_37 (by decide) ?_
            refine lv_icmp_ge (tgt := 54) hx hb dX8_restart_38 (by decide) (fun h38 => ?_) (fun h38 => ?_)
            · skip
              have hte : t = 4 := by have := ge_of (a := 4) (by decide) (by omega) h38; omega
              rw [hte] at hin2
              refine lv_iconst (v := 0) hx hb dX8_restart_54 (by decide) ?_
              refine mv_eqi (x' := nI 0) (rfl) ?_
              refine lv_istore_n (lv' := [(1, .int (nI 0)), (0, .ref (mAdM E 0 0))]) hx hb dX8_restart_55 rfl hl (by decide) rfl (fun ls hl => ?_)
              have lp3 : ∀ (fu u : Nat) (S3 : mSt) (H : Heap) (locs : List Loc) (ls : Array Slot) , 4 - u < fu → u ≤ 4 → ((∀ q, q < 256 → S3.2.1 16 0 q = (0 : Int32).toInt8) ∧ (∀ q, q < 4 → S3.1 22 0 q = 0) ∧ (∀ q, q < u → S3.1 30 0 q = 0) ∧ nSame rsX (mM S 0 0 17 (S.1 0 0 17 + 1)) S3) → mHold mLM E S3 H → va_S A s.heap H locs → lv_has ls 2 [(0, .ref (mAdM E 0 0)), (1, .int (nI u))] → W p l e (headSpec (Cond.code yX8_restart cX8_restart 2 (some .int) :: mv_ws) (mRm 0 0)).room s m ([.ref (mAdM E 0 0)] : List Value).toArray below meth c H locs 0 0 (MQ below (mQ mLM E A (fun S' => (∀ q, q < 256 → S'.2.1 16 0 q = (0 : Int32).toInt8) ∧ (∀ q, q < 4 → S'.1 22 0 q = 0) ∧ (∀ q, q < 4 → S'.1 30 0 q = 0) ∧ (∀ q, q < 8 → S'.1 37 0 (4 + q) = 0) ∧ nSame rsX (mM S 0 0 17 (S.1 0 0 17 + 1)) S') (some (.int (S.1 0 0 17 + 1)))) ([.ref (mAdM E 0 0)] : List Value).toArray s 0 0 A) (F0 m 56 ls []) := by
                intro fu
                induction fu with
                | zero => intro u S3 H locs ls  hn3 hu hin3 hH hS hl; omega
                | succ fu ih3 =>
                  intro u S3 H locs ls  hn3 hu hin3 hH hS hl
                  refine lv_iload_n hx hb dX8_restart_56 rfl (lv_at hl 1 rfl) ?_
                  refine lv_iconst (v := 4) hx hb dX8_restart_57 (by decide) ?_
                  refine lv_icmp_ge (tgt := 74) hx hb dX8_restart_58 (by decide) (fun h58 => ?_) (fun h58 => ?_)
                  · skip
                    have hue : u = 4 := by have := ge_of (a := 4) (by decide) (by omega) h58; omega
                    rw [hue] at hin3
                    refine lv_iconst (v := 4) hx hb dX8_restart_74 (by decide) ?_
                    refine mv_eqi (x' := nI (4 + 0)) (rfl) ?_
                    refine lv_istore_n (lv' := [(1, .int (nI (4 + 0))), (0, .ref (mAdM E 0 0))]) hx hb dX8_restart_75 rfl hl (by decide) rfl (fun ls hl => ?_)
                    have lp4 : ∀ (fu v : Nat) (S4 : mSt) (H : Heap) (locs : List Loc) (ls : Array Slot) , 8 - v < fu → v ≤ 8 → ((∀ q, q < 256 → S4.2.1 16 0 q = (0 : Int32).toInt8) ∧ (∀ q, q < 4 → S4.1 22 0 q = 0) ∧ (∀ q, q < 4 → S4.1 30 0 q = 0) ∧ (∀ q, q < v → S4.1 37 0 (4 + q) = 0) ∧ nSame rsX (mM S 0 0 17 (S.1 0 0 17 + 1)) S4) → mHold mLM E S4 H → va_S A s.heap H locs → lv_has ls 2 [(0, .ref (mAdM E 0 0)), (1, .int (nI (4 + v)))] → W p l e (headSpec (Cond.code yX8_restart cX8_restart 2 (some .int) :: mv_ws) (mRm 0 0)).room s m ([.ref (mAdM E 0 0)] : List Value).toArray below meth c H locs 0 0 (MQ below (mQ mLM E A (fun S' => (∀ q, q < 256 → S'.2.1 16 0 q = (0 : Int32).toInt8) ∧ (∀ q, q < 4 → S'.1 22 0 q = 0) ∧ (∀ q, q < 4 → S'.1 30 0 q = 0) ∧ (∀ q, q < 8 → S'.1 37 0 (4 + q) = 0) ∧ nSame rsX (mM S 0 0 17 (S.1 0 0 17 + 1)) S') (some (.int (S.1 0 0 17 + 1)))) ([.ref (mAdM E 0 0)] : List Value).toArray s 0 0 A) (F0 m 76 ls []) := by
                      intro fu
                      induction fu with
                      | zero => intro v S4 H locs ls  hn4 hv4 hin4 hH hS hl; omega
                      | succ fu ih4 =>
                        intro v S4 H locs ls  hn4 hv4 hin4 hH hS hl
                        refine lv_iload_n hx hb dX8_restart_76 rfl (lv_at hl 1 rfl) ?_
                        refine lv_bipush (v := 12) hx hb dX8_restart_77 (by decide) ?_
                        refine lv_icmp_ge (tgt := 95) hx hb dX8_restart_79 (by decide) (fun h79 => ?_) (fun h79 => ?_)
                        · skip
                          have hve : v = 8 := by have := ge_of (a := 12) (by decide) (by omega) h79; omega
                          rw [hve] at hin4
                          refine lv_aload_n hx hb dX8_restart_95 rfl (lv_at hl 0 rfl) ?_
                          refine g_X8_restarts Cx hG hH q_fl_X8_169 dX8_restart_96 ?_
                          refine mv_eqi (x' := S.1 0 0 17 + 1) ((hin4.2.2.2.2 0 17 (by simp [rsX])).1.trans (by simp [mM, m3])) ?_
                          exact mv_reti Cx hr hH hS (rfl) (hin4) dX8_restart_99 hlocks
                        · skip
                          have hve : v < 8 := by have := lt_of (a := 12) (by decide) (by omega) h79; omega
                          refine lv_aload_n hx hb dX8_restart_82 rfl (lv_at hl 0 rfl) ?_
                          refine g_X8_isShut Cx hG hH q_fl_X8_94 dX8_restart_83 ?_
                          refine lv_iload_n hx hb dX8_restart_86 rfl (lv_at hl 1 rfl) ?_
                          refine lv_iconst (v := 0) hx hb dX8_restart_87 (by decide) ?_
                          refine mv_zas Cx hG hO hH hS isM_37 (4 + v) (Or.inl rfl) (rfl) (by omega) dX8_restart_88 (fun H locs hH hS => ?_)
                          refine lv_iinc (v := nI (4 + (v + 1))) (lv' := [(1, .int (nI (4 + (v + 1)))), (0, .ref (mAdM E 0 0))]) hx hb dX8_restart_89 hl (k := 1) rfl (i2_1 (4 + v)) (by decide) rfl (fun ls hl => ?_)
                          refine lv_goto (tgt := 76) hx hb dX8_restart_92 (by decide) ?_
                          exact ih4 (v + 1) (mM S4 37 0 (4 + v) 0) _ _ ls  (by omega) (by omega) (⟨hin4.1, fun q hq => (show m3 S4.1 37 0 (4 + v) 0 22 0 q = _ from m3_n _ _ (by omega)).trans (hin4.2.1 q hq), fun q hq => (show m3 S4.1 37 0 (4 + v) 0 30 0 q = _ from m3_n _ _ (by omega)).trans (hin4.2.2.1 q hq), fun q hq => by by_cases e : q = v; (subst e; simp [mM, m3]); (exact (show m3 S4.1 37 0 (4 + v) 0 37 0 (4 + q) = _ from m3_n _ _ (by omega)).trans (hin4.2.2.2.1 q (by omega))), hin4.2.2.2.2.tr (nSame.M (X := rsX) (by simp [rsX]))⟩) hH hS (lv_sub hl [1, 0] rfl)
                    exact lp4 (8 - 0 + 1) 0 S3 _ _ ls  (by omega) (by omega) (⟨hin3.1, hin3.2.1, hin3.2.2.1, fun q h => absurd h (Nat.not_lt_zero _), hin3.2.2.2⟩) hH hS (lv_sub hl [1, 0] rfl)
                  · skip
                    have hue : u < 4 := lt_of (a := 4) (by decide) (by omega) h58
                    refine lv_aload_n hx hb dX8_restart_61 rfl (lv_at hl 0 rfl) ?_
                    refine g_X8_there Cx hG hH q_fl_X8_73 dX8_restart_62 ?_
                    refine lv_iload_n hx hb dX8_restart_65 rfl (lv_at hl 1 rfl) ?_
                    refine lv_iconst (v := 0) hx hb dX8_restart_66 (by decide) ?_
                    refine mv_zas Cx hG hO hH hS isM_30 u (Or.inl rfl) (rfl) (by omega) dX8_restart_67 (fun H locs hH hS => ?_)
                    refine lv_iinc (v := nI (u + 1)) (lv' := [(1, .int (nI (u + 1))), (0, .ref (mAdM E 0 0))]) hx hb dX8_restart_68 hl (k := 1) rfl (i2_1 u) (by decide) rfl (fun ls hl => ?_)
                    refine lv_goto (tgt := 56) hx hb dX8_restart_71 (by decide) ?_
                    exact ih3 (u + 1) (mM S3 30 0 u 0) _ _ ls  (by omega) (by omega) (⟨hin3.1, fun q hq => (show m3 S3.1 30 0 u 0 22 0 q = _ from m3_n _ _ (by omega)).trans (hin3.2.1 q hq), fun q hq => by by_cases e : q = u; (subst e; simp [mM, m3]); (exact (show m3 S3.1 30 0 u 0 30 0 q = _ from m3_n _ _ (by omega)).trans (hin3.2.2.1 q (by omega))), hin3.2.2.2.tr (nSame.M (X := rsX) (Or.inr (Or.inr (Or.inl ⟨rfl, hue⟩))))⟩) hH hS (lv_sub hl [1, 0] rfl)
              exact lp3 (4 - 0 + 1) 0 S2 _ _ ls  (by omega) (by omega) (⟨hin2.1, hin2.2.1, fun q h => absurd h (Nat.not_lt_zero _), hin2.2.2⟩) hH hS (lv_sub hl [1, 0] rfl)
            · skip
              have hte : t < 4 := lt_of (a := 4) (by decide) (by omega) h38
              refine lv_aload_n hx hb dX8_restart_41 rfl (lv_at hl 0 rfl) ?_
              refine g_X8_open Cx hG hH q_fl_X8_47 dX8_restart_42 ?_
              refine lv_iload_n hx hb dX8_restart_45 rfl (lv_at hl 1 rfl) ?_
              refine lv_iconst (v := 0) hx hb dX8_restart_46 (by decide) ?_
              refine mv_zas Cx hG hO hH hS isM_22 t (Or.inl rfl) (rfl) (by omega) dX8_restart_47 (fun H locs hH hS => ?_)
              refine lv_iinc (v := nI (t + 1)) (lv' := [(1, .int (nI (t + 1))), (0, .ref (mAdM E 0 0))]) hx hb dX8_restart_48 hl (k := 1) rfl (i2_1 t) (by decide) rfl (fun ls hl => ?_)
              refine lv_goto (tgt := 36) hx hb dX8_restart_51 (by decide) ?_
              exact ih2 (t + 1) (mM S2 22 0 t 0) _ _ ls  (by omega) (by omega) (⟨hin2.1, fun q hq => by by_cases e : q = t; (subst e; simp [mM, m3]); (exact (show m3 S2.1 22 0 t 0 22 0 q = _ from m3_n _ _ (by omega)).trans (hin2.2.1 q (by omega))), hin2.2.2.tr (nSame.M (X := rsX) (by simp [rsX]))⟩) hH hS (lv_sub hl [1, 0] rfl)
        exact lp2 (4 - 0 + 1) 0 S1 _ _ ls  (by omega) (by omega) (⟨hinv.1, fun q h => absurd h (Nat.not_lt_zero _), hinv.2⟩) hH hS (lv_sub hl [1, 0] rfl)
      · skip
        have hje : j < 256 := lt_of (a := 256) (by decide) (by omega) h18
        refine lv_aload_n hx hb dX8_restart_21 rfl (lv_at hl 0 rfl) ?_
        refine g_X8_register Cx hG hH q_fl_X8_44 dX8_restart_22 ?_
        refine lv_iload_n hx hb dX8_restart_25 rfl (lv_at hl 1 rfl) ?_
        refine lv_iconst (v := 0) hx hb dX8_restart_26 (by decide) ?_
        refine mv_bas Cx hG hO hH hS isM_16 j (rfl) (by omega) dX8_restart_27 (fun H locs hH hS => ?_)
        refine lv_iinc (v := nI (j + 1)) (lv' := [(1, .int (nI (j + 1))), (0, .ref (mAdM E 0 0))]) hx hb dX8_restart_28 hl (k := 1) rfl (i2_1 j) (by decide) rfl (fun ls hl => ?_)
        refine lv_goto (tgt := 12) hx hb dX8_restart_31 (by decide) ?_
        exact ih (j + 1) (mB S1 16 0 j (0 : Int32).toInt8) _ _ ls  (by omega) (by omega) (⟨fun q hq => by by_cases e : q = j; (subst e; simp [mB, m3]); (exact (show m3 S1.2.1 16 0 j _ 16 0 q = _ from m3_n _ _ (by omega)).trans (hinv.1 q (by omega))), hinv.2.tr (nSame.B (X := rsX) (by simp [rsX]))⟩) hH hS (lv_sub hl [1, 0] rfl)
  exact lp (256 - 0 + 1) 0 (mM S 0 0 17 ((S.1 0 0 17) + 1)) _ _ ls  (by omega) (by omega) (⟨fun q h => absurd h (Nat.not_lt_zero _), nSame.rf⟩) hH hS (lv_sub hl [1, 0] rfl)

set_option maxHeartbeats 4000000 in
set_option maxRecDepth 100000 in
theorem c_X8_look (l : Launch) (E : mEv) (A : Nat → Prop) (hO : mOwn mLM E A) (S : mSt) (x : Int32) (ts : List Int8) (hts : nHas 1 400 S ts) : Met l yX8_look (Cond.code yX8_look cX8_look 2 (some .int) :: mv_ws) (mRm 1 24) (mPc mLM E A S [.ref (mAdM E 0 0), .int x]) (mQ mLM E A (fun S' => S' = S) (some (.int (mloR S x ts.length)))) 0 0 A := by
  refine Met.ofW (cc := cX8_look) (maxL := 2) (ret := (some .int)) (by decide) rfl ?_
  intro p e s m args below meth c s₁ B hml hv
  obtain ⟨rfl, hG, hH⟩ := hv
  have hx := B.exec
  have hb := B.bytes
  have hr := B.returns
  have hlocks := B.notSynchronized
  have Cx : CallFix p m c cX8_look 2 s ([.ref (mAdM E 0 0), .int x] : List Value).toArray (Cond.code yX8_look cX8_look 2 (some .int) :: mv_ws) RX8 := ⟨hx, hb, hml, findClass_of_methodNamed B.named, atoms_spec (ws := Cond.code yX8_look cX8_look 2 (some .int) :: mv_ws) B.pre⟩
  have hS : va_S A s.heap s.heap [] := va_S.rf
  have hl := lv_entry ([.ref (mAdM E 0 0), .int x]) (n := 2) (Nat.le_of_ble_eq_true rfl)
  rw [lg_entry_eq]
  generalize (lg_sl ([.ref (mAdM E 0 0), .int x]) ++ List.replicate (2 - (lg_sl ([.ref (mAdM E 0 0), .int x])).length) Slot.unset).toArray = ls at hl ⊢
  have hl : lv_has ls 2 [(0, .ref (mAdM E 0 0)), (1, .int x)] := hl
  refine lv_iload_n hx hb dX8_look_0 rfl (lv_at hl 1 rfl) ?_
  rcases pk_ix x (n := 8) (by decide) with hsw | hsw | ⟨jsw, hjsw, esw⟩
  · skip
    have hswo : x.toInt < 0 ∨ 7 < x.toInt := Or.inl (by have h := Int32.lt_iff_toInt_lt.mp hsw; rwa [Int32.toInt_zero] at h)
    refine lv_tableOut (tgt := 104) hx hb dX8_look_1 hswo (by decide) ?_
    refine lv_iconst (v := (-1 : Int32)) hx hb dX8_look_104 (by decide) ?_
    exact mv_reti Cx hr hH hS ((mloR_out (Or.inl hsw)).symm) (rfl) dX8_look_105 hlocks
  · skip
    have hswo : x.toInt < 0 ∨ 7 < x.toInt := Or.inr (by have h := Int32.le_iff_toInt_le.mp hsw; rw [nI_toInt (by decide)] at h; omega)
    refine lv_tableOut (tgt := 104) hx hb dX8_look_1 hswo (by decide) ?_
    refine lv_iconst (v := (-1 : Int32)) hx hb dX8_look_104 (by decide) ?_
    exact mv_reti Cx hr hH hS ((mloR_out (Or.inr hsw)).symm) (rfl) dX8_look_105 hlocks
  · skip
    rcases (show jsw = 0 ∨ jsw = 1 ∨ jsw = 2 ∨ jsw = 3 ∨ jsw = 4 ∨ jsw = 5 ∨ jsw = 6 ∨ jsw = 7 by omega) with rfl | rfl | rfl | rfl | rfl | rfl | rfl | rfl
    · skip
      refine lv_tableIn (off := 47) (tgt := 48) hx hb dX8_look_1 (by rw [esw]; decide) (by rw [esw]; decide) (by rw [esw]; decide) (by decide) ?_
      refine lv_aload_n hx hb dX8_look_48 rfl (lv_at hl 0 rfl) ?_
      refine g_X8_failures Cx hG hH q_fl_X8_193 dX8_look_49 ?_
      exact mv_reti Cx hr hH hS (by rw [mloR, if_pos esw]) (rfl) dX8_look_52 hlocks
    · skip
      refine lv_tableIn (off := 52) (tgt := 53) hx hb dX8_look_1 (by rw [esw]; decide) (by rw [esw]; decide) (by rw [esw]; decide) (by decide) ?_
      refine lv_aload_n hx hb dX8_look_53 rfl (lv_at hl 0 rfl) ?_
      refine g_X8_clock Cx hG hH q_fl_X8_163 dX8_look_54 ?_
      exact mv_reti Cx hr hH hS (by rw [mloR, if_neg (by rw [esw]; decide), if_pos esw]) (rfl) dX8_look_57 hlocks
    · skip
      refine lv_tableIn (off := 57) (tgt := 58) hx hb dX8_look_1 (by rw [esw]; decide) (by rw [esw]; decide) (by rw [esw]; decide) (by decide) ?_
      refine lv_aload_n hx hb dX8_look_58 rfl (lv_at hl 0 rfl) ?_
      refine g_X8_restarts Cx hG hH q_fl_X8_169 dX8_look_59 ?_
      exact mv_reti Cx hr hH hS (by rw [mloR, if_neg (by rw [esw]; decide), if_neg (by rw [esw]; decide), if_pos esw]) (rfl) dX8_look_62 hlocks
    · skip
      refine lv_tableIn (off := 62) (tgt := 63) hx hb dX8_look_1 (by rw [esw]; decide) (by rw [esw]; decide) (by rw [esw]; decide) (by decide) ?_
      refine lv_aload_n hx hb dX8_look_63 rfl (lv_at hl 0 rfl) ?_
      refine g_X8_blobs Cx hG hH q_fl_X8_203 dX8_look_64 ?_
      exact mv_reti Cx hr hH hS (by rw [mloR, if_neg (by rw [esw]; decide), if_neg (by rw [esw]; decide), if_neg (by rw [esw]; decide), if_pos esw]) (rfl) dX8_look_67 hlocks
    · skip
      refine lv_tableIn (off := 67) (tgt := 68) hx hb dX8_look_1 (by rw [esw]; decide) (by rw [esw]; decide) (by rw [esw]; decide) (by decide) ?_
      refine lv_aload_n hx hb dX8_look_68 rfl (lv_at hl 0 rfl) ?_
      refine g_X8_there Cx hG hH q_fl_X8_73 dX8_look_69 ?_
      refine lv_iconst (v := 0) hx hb dX8_look_72 (by decide) ?_
      refine mv_eqi (x' := nI 0) (rfl) ?_
      refine lv_iconst (v := 4) hx hb dX8_look_73 (by decide) ?_
      refine mv_eqi (x' := nI (0 + 4)) (rfl) ?_
      refine mv_callS (Y := mLM) (rest := []) Cx hG hH hS (c_X8_many l E A hO S 30 12 isM_30 0 4 (by decide)) q_co_X8_many q_ml_X8_242 q_st_X8_many q_in_X8 hd_X8_many ⟨Nat.le_of_ble_eq_true rfl, Nat.le_of_ble_eq_true rfl⟩ rfl hl.1 rfl (Nat.le_of_ble_eq_true rfl) ⟨Nat.le_of_ble_eq_true rfl, Nat.le_of_ble_eq_true rfl⟩ dX8_look_74 (fun S74 H locs hP74 hH hS => ?_)
      refine W.eq (g2 := F0 m 77 ls [.int (cntN (fun q => S.1 30 0 (0 + q)) 4)]) rfl ?_
      have hH := mv_S hP74 hH
      exact mv_reti Cx hr hH hS (by rw [mloR, if_neg (by rw [esw]; decide), if_neg (by rw [esw]; decide), if_neg (by rw [esw]; decide), if_neg (by rw [esw]; decide), if_pos esw]) (rfl) dX8_look_77 hlocks
    · skip
      refine lv_tableIn (off := 77) (tgt := 78) hx hb dX8_look_1 (by rw [esw]; decide) (by rw [esw]; decide) (by rw [esw]; decide) (by decide) ?_
      refine lv_aload_n hx hb dX8_look_78 rfl (lv_at hl 0 rfl) ?_
      refine g_X8_open Cx hG hH q_fl_X8_47 dX8_look_79 ?_
      refine lv_iconst (v := 0) hx hb dX8_look_82 (by decide) ?_
      refine mv_eqi (x' := nI 0) (rfl) ?_
      refine lv_iconst (v := 4) hx hb dX8_look_83 (by decide) ?_
      refine mv_eqi (x' := nI (0 + 4)) (rfl) ?_
      refine mv_callS (Y := mLM) (rest := []) Cx hG hH hS (c_X8_many l E A hO S 22 4 isM_22 0 4 (by decide)) q_co_X8_many q_ml_X8_242 q_st_X8_many q_in_X8 hd_X8_many ⟨Nat.le_of_ble_eq_true rfl, Nat.le_of_ble_eq_true rfl⟩ rfl hl.1 rfl (Nat.le_of_ble_eq_true rfl) ⟨Nat.le_of_ble_eq_true rfl, Nat.le_of_ble_eq_true rfl⟩ dX8_look_84 (fun S84 H locs hP84 hH hS => ?_)
      refine W.eq (g2 := F0 m 87 ls [.int (cntN (fun q => S.1 22 0 (0 + q)) 4)]) rfl ?_
      have hH := mv_S hP84 hH
      exact mv_reti Cx hr hH hS (by rw [mloR, if_neg (by rw [esw]; decide), if_neg (by rw [esw]; decide), if_neg (by rw [esw]; decide), if_neg (by rw [esw]; decide), if_neg (by rw [esw]; decide), if_pos esw]) (rfl) dX8_look_87 hlocks
    · skip
      refine lv_tableIn (off := 87) (tgt := 88) hx hb dX8_look_1 (by rw [esw]; decide) (by rw [esw]; decide) (by rw [esw]; decide) (by decide) ?_
      refine lv_aload_n hx hb dX8_look_88 rfl (lv_at hl 0 rfl) ?_
      refine g_X8_there Cx hG hH q_fl_X8_73 dX8_look_89 ?_
      refine lv_iconst (v := 4) hx hb dX8_look_92 (by decide) ?_
      refine mv_eqi (x' := nI 4) (rfl) ?_
      refine lv_bipush (v := 12) hx hb dX8_look_93 (by decide) ?_
      refine mv_eqi (x' := nI (4 + 8)) (rfl) ?_
      refine mv_callS (Y := mLM) (rest := []) Cx hG hH hS (c_X8_many l E A hO S 30 12 isM_30 4 8 (by decide)) q_co_X8_many q_ml_X8_242 q_st_X8_many q_in_X8 hd_X8_many ⟨Nat.le_of_ble_eq_true rfl, Nat.le_of_ble_eq_true rfl⟩ rfl hl.1 rfl (Nat.le_of_ble_eq_true rfl) ⟨Nat.le_of_ble_eq_true rfl, Nat.le_of_ble_eq_true rfl⟩ dX8_look_95 (fun S95 H locs hP95 hH hS => ?_)
      refine W.eq (g2 := F0 m 98 ls [.int (cntN (fun q => S.1 30 0 (4 + q)) 8)]) rfl ?_
      have hH := mv_S hP95 hH
      exact mv_reti Cx hr hH hS (by rw [mloR, if_neg (by rw [esw]; decide), if_neg (by rw [esw]; decide), if_neg (by rw [esw]; decide), if_neg (by rw [esw]; decide), if_neg (by rw [esw]; decide), if_neg (by rw [esw]; decide), if_pos esw]) (rfl) dX8_look_98 hlocks
    · skip
      refine lv_tableIn (off := 98) (tgt := 99) hx hb dX8_look_1 (by rw [esw]; decide) (by rw [esw]; decide) (by rw [esw]; decide) (by decide) ?_
      refine lv_aload_n hx hb dX8_look_99 rfl (lv_at hl 0 rfl) ?_
      refine g_X8_tapeLength Cx hG hH q_fl_X8_137 dX8_look_100 ?_
      refine mv_eqi (x' := nI ts.length) (hts.1) ?_
      exact mv_reti Cx hr hH hS (by rw [mloR, if_neg (by rw [esw]; decide), if_neg (by rw [esw]; decide), if_neg (by rw [esw]; decide), if_neg (by rw [esw]; decide), if_neg (by rw [esw]; decide), if_neg (by rw [esw]; decide), if_neg (by rw [esw]; decide), if_pos esw]) (rfl) dX8_look_103 hlocks
