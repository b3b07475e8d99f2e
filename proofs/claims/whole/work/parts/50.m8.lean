/-! ===== the reference: values that are written, counted, chained, defined ===== -/
def lcm (x y : Int64) : Int32 := if y < x then 1 else if x = y then 0 else -1
theorem lcm_le {x y : Int64} (h : lcm x y ≤ 0) : ¬ y < x := fun q => by rw [lcm, if_pos q] at h; exact absurd h (by decide)
theorem lcm_gt {x y : Int64} (h : ¬ lcm x y ≤ 0) : y < x := Classical.byContradiction (fun q => h (by
  rw [lcm, if_neg q]
  split
  · decide
  · decide))
section MLC
variable {p : Program} {l : Launch} {e : Env} {R : Room} {s : State} {m : MethodId} {args : Array Value} {below : List Frame} {meth : Method} {c : Code} {H : Heap} {locs : List Loc} {cells slots : Nat} {Q : State → Prop}
variable {cc : ByteArray} {pc : Nat} {ls : Array Slot} {rest : List Value}
theorem mv_lcmp (hexec : p.tables.exec = Jvm.exec) (hb : c.code = cc) {x y : Int64} (hdg : decode cc pc = .ok (.lcmp, 1)) (k : W p l e R s m args below meth c H locs cells slots Q (F0 m (pc + 1) ls (.int (lcm x y) :: rest))) : W p l e R s m args below meth c H locs cells slots Q (F0 m pc ls (.long y :: .long x :: rest)) := by
  intro T hT X
  obtain ⟨t, a, b⟩ := k T hT X
  refine ⟨t, ?_, b⟩
  by_cases h1 : y < x
  · rw [show lcm x y = 1 from if_pos h1] at a
    have h1' : x > y := h1
    jvm_step X.here [X.here.top, hexec, hb, hdg, h1, h1']
    exact a
  · have h1' : ¬ x > y := h1
    by_cases h2 : x = y
    · rw [show lcm x y = 0 from (if_neg h1).trans (if_pos h2)] at a
      jvm_step X.here [X.here.top, hexec, hb, hdg, h1, h1', h2]
      exact a
    · rw [show lcm x y = -1 from (if_neg h1).trans (if_neg h2)] at a
      jvm_step X.here [X.here.top, hexec, hb, hdg, h1, h1', h2]
      exact a
end MLC
def lx8 (f : Nat → Int8) : Nat → Int64
  | 0 => 0
  | n + 1 => (lx8 f n <<< ((8 : Int32).toInt64 &&& 63)) ||| ((f n).toInt32 &&& 255).toInt64
def mcN (W : mSt) (i : Nat) : Int64 := (if W.1 36 0 (4 + i) = 0 then W.2.2 0 0 20 else lx8 (fun q => W.2.1 33 0 (128 * (4 + i) + q)) 8) + 1
def by8 (n : Int64) (q : Nat) : Int8 := (n >>> ((nI (56 - 8 * q)).toInt64 &&& 63)).toInt32.toInt8
theorem s56 {u : Nat} (h : u < 8) : (56 : Int32) - nI (8 * u) = nI (56 - 8 * u) := by
  rcases (show u = 0 ∨ u = 1 ∨ u = 2 ∨ u = 3 ∨ u = 4 ∨ u = 5 ∨ u = 6 ∨ u = 7 by omega) with rfl | rfl | rfl | rfl | rfl | rfl | rfl | rfl <;> rfl
theorem sub_le {x : Int32} {a b : Nat} (ha : a ≤ 1000) (hb : b ≤ 1000) (h0 : ¬ x < 0) (h : x ≤ nI a - nI b) : ∃ n : Nat, x = nI n ∧ n + b ≤ a := by
  obtain ⟨n, hn, e⟩ := nI_of h0
  refine ⟨n, e, ?_⟩
  subst e
  have h1 := Int32.le_iff_toInt_le.mp h
  rw [Int32.toInt_sub, nI_toInt (by omega), nI_toInt (by omega), nI_toInt (by omega)] at h1
  simp only [Int.bmod] at h1
  split at h1
  · omega
  · omega
theorem m3_s {α : Type} (f : Nat → Nat → Nat → α) (k i j : Nat) (v : α) : m3 f k i j v k i j = v := if_pos ⟨rfl, rfl, rfl⟩
theorem mTk_succ (f : Nat → Int8) (n : Nat) : mTk f (n + 1) = mTk f n ++ [f n] := by simp [mTk, List.range_succ]
theorem nEq_sw {f g : Nat → Int8} {a b : Nat} : nEq f g a b = true ↔ mEq (fun q => g (b + q)) f a = true := by
  unfold nEq
  rw [mEq_iff, mEq_iff]
  exact ⟨fun h j hj => (h j hj).symm, fun h j hj => (h j hj).symm⟩
def mpF (S : mSt) (z : Int32) (j : Nat) : Int8 := if z < 0 then (0 : Int32).toInt8 else S.2.1 23 0 (32 * z.toNatClampNeg + j)
theorem mpF_m {S : mSt} {j : Nat} : mpF S (-1) j = (0 : Int32).toInt8 := if_pos (by decide)
theorem mpF_s {S : mSt} {i j : Nat} (hi : i < 4) : mpF S (nI i) j = S.2.1 23 0 (32 * i + j) := by
  unfold mpF
  rw [if_neg (nI_pos (by omega)), nI_clamp (by omega)]
set_option maxHeartbeats 4000000 in
set_option maxRecDepth 100000 in
theorem c_X8_chain (l : Launch) (E : mEv) (A : Nat → Prop) (hO : mOwn mLM E A) (S : mSt) (x y : Int32) (ts : List Int8) (hts : nHas 1 400 S ts) : Met l yX8_chain (Cond.code yX8_chain cX8_chain 6 (some .int) :: mv_ws) (mRm 3 90) (mPc mLM E A S [.ref (mAdM E 0 0), .int x, .int y]) (mQ mLM E A (fun S' => (mtO (mM S 0 0 1 0) x 2 = none → S' = (mM S 0 0 1 0)) ∧ ∀ i, mtO (mM S 0 0 1 0) x 2 = some i → ((mcP (mM S 0 0 1 0) i y 4).1 = 0 → (∀ j, j < 32 → S'.2.1 33 0 (128 * (4 + i) + j) = shaL (mTk (fun q => S.2.1 33 0 (128 * (4 + i) + q)) 32 ++ ts) j) ∧ S'.1 36 0 (4 + i) = 1 ∧ nSame (fun k j => scM k j ∨ (k = 33 ∧ 128 * (4 + i) ≤ j ∧ j < 128 * (4 + i) + 32) ∨ (k = 36 ∧ j = 4 + i)) (mcP (mM S 0 0 1 0) i y 4).2 S') ∧ (¬ (mcP (mM S 0 0 1 0) i y 4).1 = 0 → S' = (mcP (mM S 0 0 1 0) i y 4).2)) (some (.int ((mtO (mM S 0 0 1 0) x 2).elim (-2) (fun i => (mcP (mM S 0 0 1 0) i y 4).1))))) 0 0 A := by
  refine Met.ofW (cc := cX8_chain) (maxL := 6) (ret := (some .int)) (by decide) rfl ?_
  intro p e s m args below meth c s₁ B hml hv
  obtain ⟨rfl, hG, hH⟩ := hv
  have hx := B.exec
  have hb := B.bytes
  have hr := B.returns
  have hlocks := B.notSynchronized
  have Cx : CallFix p m c cX8_chain 6 s ([.ref (mAdM E 0 0), .int x, .int y] : List Value).toArray (Cond.code yX8_chain cX8_chain 6 (some .int) :: mv_ws) RX8 := ⟨hx, hb, hml, findClass_of_methodNamed B.named, atoms_spec (ws := Cond.code yX8_chain cX8_chain 6 (some .int) :: mv_ws) B.pre⟩
  have hS : va_S A s.heap s.heap [] := va_S.rf
  have hlen := hts.2.1
  have hl := lv_entry ([.ref (mAdM E 0 0), .int x, .int y]) (n := 6) (Nat.le_of_ble_eq_true rfl)
  rw [lg_entry_eq]
  generalize (lg_sl ([.ref (mAdM E 0 0), .int x, .int y]) ++ List.replicate (6 - (lg_sl ([.ref (mAdM E 0 0), .int x, .int y])).length) Slot.unset).toArray = ls at hl ⊢
  have hl : lv_has ls 6 [(0, .ref (mAdM E 0 0)), (1, .int x), (2, .int y)] := hl
  refine lv_aload_n hx hb dX8_chain_0 rfl (lv_at hl 0 rfl) ?_
  refine g_X8_tapeLength Cx hG hH q_fl_X8_137 dX8_chain_1 ?_
  refine mv_eqi (x' := nI ts.length) (hts.1) ?_
  refine lv_istore_n (lv' := [(3, .int (nI ts.length)), (0, .ref (mAdM E 0 0)), (1, .int x), (2, .int y)]) hx hb dX8_chain_4 rfl hl (by decide) rfl (fun ls hl => ?_)
  refine lv_aload_n hx hb dX8_chain_5 rfl (lv_at hl 1 rfl) ?_
  refine lv_iconst (v := 0) hx hb dX8_chain_6 (by decide) ?_
  refine p_X8_tapeLength Cx hG hO hH hS q_fl_X8_137 dX8_chain_7 (fun H locs hH hS => ?_)
  refine lv_aload_n hx hb dX8_chain_10 rfl (lv_at hl 1 rfl) ?_
  refine lv_iload_n hx hb dX8_chain_11 rfl (lv_at hl 2 rfl) ?_
  refine lv_iconst (v := 2) hx hb dX8_chain_12 (by decide) ?_
  refine mv_callV (Y := mLM) (C := RX8) (k := 0) (i := 0) (rest := []) Cx hG hH hS (c_X8_thing l E A hO (mM S 0 0 1 0) x 2) q_co_X8_thing q_ml_X8_228 q_im_X8_thing q_se_X8_thing q_in_X8 okM_0 rfl rfl hd_X8_thing ⟨Nat.le_of_ble_eq_true rfl, Nat.le_of_ble_eq_true rfl⟩ rfl hl.1 rfl (Nat.le_of_ble_eq_true rfl) ⟨Nat.le_of_ble_eq_true rfl, Nat.le_of_ble_eq_true rfl⟩ dX8_chain_13 (fun S13 H locs hP13 hH hS => ?_)
  refine W.eq (g2 := F0 m 16 ls [.int ((mtO (mM S 0 0 1 0) x 2).elim (-1) (fun i => nI (4 + i)))]) rfl ?_
  have hH := mv_S hP13 hH
  refine lv_istore (lv' := [(4, .int ((mtO (mM S 0 0 1 0) x 2).elim (-1) (fun i => nI (4 + i)))), (3, .int (nI ts.length)), (0, .ref (mAdM E 0 0)), (1, .int x), (2, .int y)]) hx hb dX8_chain_16 hl (by decide) rfl (fun ls hl => ?_)
  refine lv_iload hx hb dX8_chain_18 (lv_at hl 0 rfl) ?_
  refine lv_if_ge (tgt := 26) hx hb dX8_chain_20 (by decide) (fun h20 => ?_) (fun h20 => ?_)
  · skip
    obtain ⟨i, hso⟩ := th_ge h20
    have hi := mtO_lt hso
    have hth : (mtO (mM S 0 0 1 0) x 2).elim (-1) (fun i => nI (4 + i)) = nI (4 + i) := by rw [hso]; rfl
    have hl : lv_has ls 6 [(4, .int (nI (4 + i))), (3, .int (nI ts.length)), (0, .ref (mAdM E 0 0)), (1, .int x), (2, .int y)] := by rw [← hth]; exact hl
    refine lv_aload_n hx hb dX8_chain_26 rfl (lv_at hl 2 rfl) ?_
    refine g_X8_isShut Cx hG hH q_fl_X8_94 dX8_chain_27 ?_
    refine lv_iload hx hb dX8_chain_30 (lv_at hl 0 rfl) ?_
    refine mv_zal Cx hG hH isM_37 (4 + i) (rfl) (by omega) dX8_chain_32 ?_
    refine lv_if_eq (tgt := 39) hx hb dX8_chain_33 (by decide) (fun h33 => ?_) (fun h33 => ?_)
    · skip
      have hmc : (mcP (mM S 0 0 1 0) i y 4) = (mbP (mM S 0 0 1 0) (4 + i) y 4) := if_pos h33
      refine lv_aload_n hx hb dX8_chain_39 rfl (lv_at hl 2 rfl) ?_
      refine lv_iload hx hb dX8_chain_40 (lv_at hl 0 rfl) ?_
      refine lv_iload_n hx hb dX8_chain_42 rfl (lv_at hl 4 rfl) ?_
      refine lv_iconst (v := 4) hx hb dX8_chain_43 (by decide) ?_
      refine mv_callV (Y := mLM) (C := RX8) (k := 0) (i := 0) (rest := []) Cx hG hH hS (c_X8_by l E A hO (mM S 0 0 1 0) (4 + i) (by omega) y 4) q_co_X8_by q_ml_X8_217 q_im_X8_by q_se_X8_by q_in_X8 okM_0 rfl rfl hd_X8_by ⟨Nat.le_of_ble_eq_true rfl, Nat.le_of_ble_eq_true rfl⟩ rfl hl.1 rfl (Nat.le_of_ble_eq_true rfl) ⟨Nat.le_of_ble_eq_true rfl, Nat.le_of_ble_eq_true rfl⟩ dX8_chain_44 (fun S44 H locs hP44 hH hS => ?_)
      refine W.eq (g2 := F0 m 47 ls [.int ((mbP (mM S 0 0 1 0) (4 + i) y 4).1)]) rfl ?_
      have hH := mv_S hP44 hH
      refine lv_istore (lv' := [(5, .int ((mbP (mM S 0 0 1 0) (4 + i) y 4).1)), (4, .int (nI (4 + i))), (3, .int (nI ts.length)), (0, .ref (mAdM E 0 0)), (1, .int x), (2, .int y)]) hx hb dX8_chain_47 hl (by decide) rfl (fun ls hl => ?_)
      refine lv_iload hx hb dX8_chain_49 (lv_at hl 0 rfl) ?_
      refine lv_if_ge (tgt := 57) hx hb dX8_chain_51 (by decide) (fun h51 => ?_) (fun h51 => ?_)
      · skip
        have h0 := mbP_ge h51
        refine lv_aload_n hx hb dX8_chain_57 rfl (lv_at hl 3 rfl) ?_
        refine lv_iconst (v := 0) hx hb dX8_chain_58 (by decide) ?_
        refine p_X8_rowCount Cx hG hO hH hS q_fl_X8_100 dX8_chain_59 (fun H locs hH hS => ?_)
        refine lv_aload_n hx hb dX8_chain_62 rfl (lv_at hl 3 rfl) ?_
        refine lv_aload_n hx hb dX8_chain_63 rfl (lv_at hl 3 rfl) ?_
        refine g_X8_data Cx hG hH q_fl_X8_82 dX8_chain_64 ?_
        refine lv_sipush (v := 128) hx hb dX8_chain_67 (by decide) ?_
        refine lv_iload hx hb dX8_chain_70 (lv_at hl 1 rfl) ?_
        refine lv_imul hx hb dX8_chain_72 ?_
        refine mv_eqi (x' := nI (128 * (4 + i))) (pk_mul 128 (4 + i)) ?_
        refine lv_bipush (v := 32) hx hb dX8_chain_73 (by decide) ?_
        refine mv_eqi (x' := nI 32) (rfl) ?_
        refine mv_callV (Y := mLM) (C := RX8) (k := 0) (i := 0) (rest := []) Cx hG hH hS (c_X8_add_ l E A hO (mM ((mbP (mM S 0 0 1 0) (4 + i) y 4).2) 0 0 5 0) 33 1536 isM_33 (by decide) (128 * (4 + i)) 32 (by omega) [] nHas.nil (by simp)) q_co_X8_add_ q_ml_X8_134 q_im_X8_add_ q_se_X8_add_ q_in_X8 okM_0 rfl rfl hd_X8_add_ ⟨Nat.le_of_ble_eq_true rfl, Nat.le_of_ble_eq_true rfl⟩ rfl hl.1 rfl (Nat.le_of_ble_eq_true rfl) ⟨Nat.le_of_ble_eq_true rfl, Nat.le_of_ble_eq_true rfl⟩ dX8_chain_75 (fun S75 H locs hP75 hH hS => ?_)
        refine W.eq (g2 := F0 m 78 ls []) rfl ?_
        refine lv_aload_n hx hb dX8_chain_78 rfl (lv_at hl 3 rfl) ?_
        refine lv_aload_n hx hb dX8_chain_79 rfl (lv_at hl 3 rfl) ?_
        refine g_X8_tape Cx hG hH q_fl_X8_9 dX8_chain_80 ?_
        refine lv_iconst (v := 0) hx hb dX8_chain_83 (by decide) ?_
        refine mv_eqi (x' := nI 0) (rfl) ?_
        refine lv_iload_n hx hb dX8_chain_84 rfl (lv_at hl 2 rfl) ?_
        refine mv_callV (Y := mLM) (C := RX8) (k := 0) (i := 0) (rest := []) Cx hG hH hS (c_X8_add_ l E A hO S75 1 400 isM_1 (by decide) 0 ts.length (by omega) _ hP75.1 (by simp [mTk_len]; omega)) q_co_X8_add_ q_ml_X8_134 q_im_X8_add_ q_se_X8_add_ q_in_X8 okM_0 rfl rfl hd_X8_add_ ⟨Nat.le_of_ble_eq_true rfl, Nat.le_of_ble_eq_true rfl⟩ rfl hl.1 rfl (Nat.le_of_ble_eq_true rfl) ⟨Nat.le_of_ble_eq_true rfl, Nat.le_of_ble_eq_true rfl⟩ dX8_chain_85 (fun S85 H locs hP85 hH hS => ?_)
        refine W.eq (g2 := F0 m 88 ls []) rfl ?_
        have hr5 : nHas 5 1024 S85 (mTk (fun q => S.2.1 33 0 (128 * (4 + i) + q)) 32 ++ ts) := by have h := hP85.1; rw [List.nil_append] at h; rwa [show mTk (fun q => (mM ((mbP (mM S 0 0 1 0) (4 + i) y 4).2) 0 0 5 0).2.1 33 0 (128 * (4 + i) + q)) 32 = mTk (fun q => S.2.1 33 0 (128 * (4 + i) + q)) 32 from mTk_congr (fun q hq => (mbP_same (mM S 0 0 1 0) (4 + i) y 4 33 _ (by simp)).2.1), show mTk (fun q => S75.2.1 1 0 (0 + q)) ts.length = ts from mTk_list (fun j hj => by rw [Nat.zero_add]; exact (hP75.2 1 j (by simp only [scM, nX, hX, seM]; omega)).2.1.trans ((mbP_same (mM S 0 0 1 0) (4 + i) y 4 1 j (by simp)).2.1.trans (hts.2.2 j hj)))] at h
        refine lv_aload_n hx hb dX8_chain_88 rfl (lv_at hl 3 rfl) ?_
        refine lv_aload_n hx hb dX8_chain_89 rfl (lv_at hl 3 rfl) ?_
        refine g_X8_data Cx hG hH q_fl_X8_82 dX8_chain_90 ?_
        refine lv_sipush (v := 128) hx hb dX8_chain_93 (by decide) ?_
        refine lv_iload hx hb dX8_chain_96 (lv_at hl 1 rfl) ?_
        refine lv_imul hx hb dX8_chain_98 ?_
        refine mv_eqi (x' := nI (128 * (4 + i))) (pk_mul 128 (4 + i)) ?_
        refine mv_callV (Y := mLM) (C := RX8) (k := 0) (i := 0) (rest := []) Cx hG hH hS (c_X8_hashTo l E A hO S85 33 1536 isM_33 (by decide) (128 * (4 + i)) (by omega) _ hr5 (by simp [mTk_len]; omega)) q_co_X8_hashTo q_ml_X8_111 q_im_X8_hashTo q_se_X8_hashTo q_in_X8 okM_0 rfl rfl hd_X8_hashTo ⟨Nat.le_of_ble_eq_true rfl, Nat.le_of_ble_eq_true rfl⟩ rfl hl.1 rfl (Nat.le_of_ble_eq_true rfl) ⟨Nat.le_of_ble_eq_true rfl, Nat.le_of_ble_eq_true rfl⟩ dX8_chain_99 (fun S99 H locs hP99 hH hS => ?_)
        refine W.eq (g2 := F0 m 102 ls []) rfl ?_
        refine lv_aload_n hx hb dX8_chain_102 rfl (lv_at hl 3 rfl) ?_
        refine g_X8_written Cx hG hH q_fl_X8_91 dX8_chain_103 ?_
        refine lv_iload hx hb dX8_chain_106 (lv_at hl 1 rfl) ?_
        refine lv_iconst (v := 1) hx hb dX8_chain_108 (by decide) ?_
        refine mv_zas Cx hG hO hH hS isM_36 (4 + i) (Or.inr rfl) (rfl) (by omega) dX8_chain_109 (fun H locs hH hS => ?_)
        refine lv_iconst (v := 0) hx hb dX8_chain_110 (by decide) ?_
        exact mv_reti Cx hr hH hS (by rw [hso]; show _ = (mcP (mM S 0 0 1 0) i y 4).1; rw [hmc]; exact h0.symm) (⟨fun h => by (have e := hso.symm.trans h; cases e), fun i' h => by (rw [hso] at h; injection h with h; subst h; exact by rw [hmc]; exact ⟨fun _ => ⟨hP99.1, by simp [mM, m3], ((((nSame.M (by simp [scM, nX, hX, seM])).tr (hP75.2.wk (fun k j h => by simp only [scM, nX, hX, seM] at h ⊢; omega))).tr (hP85.2.wk (fun k j h => by simp only [scM, nX, hX, seM] at h ⊢; omega))).tr (hP99.2.wk (fun k j h => by simp only [scM, nX, hX, seM] at h ⊢; omega))).tr (nSame.M (Or.inr (Or.inr ⟨rfl, rfl⟩)))⟩, fun q => absurd h0 q⟩)⟩) dX8_chain_111 hlocks
      · skip
        have h0 := mbP_ne h51
        refine lv_iload hx hb dX8_chain_54 (lv_at hl 0 rfl) ?_
        exact mv_reti Cx hr hH hS (by rw [hso]; show _ = (mcP (mM S 0 0 1 0) i y 4).1; rw [hmc]) (⟨fun h => by (have e := hso.symm.trans h; cases e), fun i' h => by (rw [hso] at h; injection h with h; subst h; exact by rw [hmc]; exact ⟨fun q => absurd q h0, fun _ => rfl⟩)⟩) dX8_chain_56 hlocks
    · skip
      have hmc : (mcP (mM S 0 0 1 0) i y 4) = (-3, (mM S 0 0 1 0)) := if_neg h33
      refine lv_bipush (v := (-3 : Int32)) hx hb dX8_chain_36 (by decide) ?_
      exact mv_reti Cx hr hH hS (by rw [hso]; show _ = (mcP (mM S 0 0 1 0) i y 4).1; rw [hmc]) (⟨fun h => by (have e := hso.symm.trans h; cases e), fun i' h => by (rw [hso] at h; injection h with h; subst h; exact by rw [hmc]; exact ⟨fun q => absurd q (show ¬ (-3 : Int32) = 0 by decide), fun _ => rfl⟩)⟩) dX8_chain_38 hlocks
  · skip
    have hno := th_lt h20
    refine lv_bipush (v := (-2 : Int32)) hx hb dX8_chain_23 (by decide) ?_
    exact mv_reti Cx hr hH hS (by rw [hno]; rfl) (⟨fun _ => rfl, fun i h => by (rw [hno] at h; cases h)⟩) dX8_chain_25 hlocks

set_option maxHeartbeats 4000000 in
set_option maxRecDepth 100000 in
theorem c_X8_count (l : Launch) (E : mEv) (A : Nat → Prop) (hO : mOwn mLM E A) (S : mSt) (x y : Int32) : Met l yX8_count (Cond.code yX8_count cX8_count 8 (some .int) :: mv_ws) (mRm 3 71) (mPc mLM E A S [.ref (mAdM E 0 0), .int x, .int y]) (mQ mLM E A (fun S' => (mtO S x 1 = none → S' = S) ∧ ∀ i, mtO S x 1 = some i → ((mcP S i y 3).1 = 0 → (∀ q, q < 8 → S'.2.1 33 0 (128 * (4 + i) + q) = by8 (mcN (mcP S i y 3).2 i) q) ∧ S'.2.2 0 0 20 = (if (mcP S i y 3).2.2.2 0 0 20 < (mcN (mcP S i y 3).2 i) then (mcN (mcP S i y 3).2 i) else (mcP S i y 3).2.2.2 0 0 20) ∧ S'.1 36 0 (4 + i) = 1 ∧ nSame (fun k j => (k = 33 ∧ 128 * (4 + i) ≤ j ∧ j < 128 * (4 + i) + 8) ∨ (k = 0 ∧ j = 20) ∨ (k = 36 ∧ j = 4 + i)) (mcP S i y 3).2 S') ∧ (¬ (mcP S i y 3).1 = 0 → S' = (mcP S i y 3).2)) (some (.int ((mtO S x 1).elim (-2) (fun i => if (mcP S i y 3).1 = 0 then ((mcN (mcP S i y 3).2 i) &&& 2147483647).toInt32 else (mcP S i y 3).1))))) 0 0 A := by
  refine Met.ofW (cc := cX8_count) (maxL := 8) (ret := (some .int)) (by decide) rfl ?_
  intro p e s m args below meth c s₁ B hml hv
  obtain ⟨rfl, hG, hH⟩ := hv
  have hx := B.exec
  have hb := B.bytes
  have hr := B.returns
  have hlocks := B.notSynchronized
  have Cx : CallFix p m c cX8_count 8 s ([.ref (mAdM E 0 0), .int x, .int y] : List Value).toArray (Cond.code yX8_count cX8_count 8 (some .int) :: mv_ws) RX8 := ⟨hx, hb, hml, findClass_of_methodNamed B.named, atoms_spec (ws := Cond.code yX8_count cX8_count 8 (some .int) :: mv_ws) B.pre⟩
  have hS : va_S A s.heap s.heap [] := va_S.rf
  have hl := lv_entry ([.ref (mAdM E 0 0), .int x, .int y]) (n := 8) (Nat.le_of_ble_eq_true rfl)
  rw [lg_entry_eq]
  generalize (lg_sl ([.ref (mAdM E 0 0), .int x, .int y]) ++ List.replicate (8 - (lg_sl ([.ref (mAdM E 0 0), .int x, .int y])).length) Slot.unset).toArray = ls at hl ⊢
  have hl : lv_has ls 8 [(0, .ref (mAdM E 0 0)), (1, .int x), (2, .int y)] := hl
  refine lv_aload_n hx hb dX8_count_0 rfl (lv_at hl 0 rfl) ?_
  refine lv_iload_n hx hb dX8_count_1 rfl (lv_at hl 1 rfl) ?_
  refine lv_iconst (v := 1) hx hb dX8_count_2 (by decide) ?_
  refine mv_callV (Y := mLM) (C := RX8) (k := 0) (i := 0) (rest := []) Cx hG hH hS (c_X8_thing l E A hO S x 1) q_co_X8_thing q_ml_X8_228 q_im_X8_thing q_se_X8_thing q_in_X8 okM_0 rfl rfl hd_X8_thing ⟨Nat.le_of_ble_eq_true rfl, Nat.le_of_ble_eq_true rfl⟩ rfl hl.1 rfl (Nat.le_of_ble_eq_true rfl) ⟨Nat.le_of_ble_eq_true rfl, Nat.le_of_ble_eq_true rfl⟩ dX8_count_3 (fun S3 H locs hP3 hH hS => ?_)
  refine W.eq (g2 := F0 m 6 ls [.int ((mtO S x 1).elim (-1) (fun i => nI (4 + i)))]) rfl ?_
  have hH := mv_S hP3 hH
  refine lv_istore_n (lv' := [(3, .int ((mtO S x 1).elim (-1) (fun i => nI (4 + i)))), (0, .ref (mAdM E 0 0)), (1, .int x), (2, .int y)]) hx hb dX8_count_6 rfl hl (by decide) rfl (fun ls hl => ?_)
  refine lv_iload_n hx hb dX8_count_7 rfl (lv_at hl 0 rfl) ?_
  refine lv_if_ge (tgt := 14) hx hb dX8_count_8 (by decide) (fun h8 => ?_) (fun h8 => ?_)
  · skip
    obtain ⟨i, hso⟩ := th_ge h8
    have hi := mtO_lt hso
    have hth : (mtO S x 1).elim (-1) (fun i => nI (4 + i)) = nI (4 + i) := by rw [hso]; rfl
    have hl : lv_has ls 8 [(3, .int (nI (4 + i))), (0, .ref (mAdM E 0 0)), (1, .int x), (2, .int y)] := by rw [← hth]; exact hl
    refine lv_aload_n hx hb dX8_count_14 rfl (lv_at hl 1 rfl) ?_
    refine g_X8_isShut Cx hG hH q_fl_X8_94 dX8_count_15 ?_
    refine lv_iload_n hx hb dX8_count_18 rfl (lv_at hl 0 rfl) ?_
    refine mv_zal Cx hG hH isM_37 (4 + i) (rfl) (by omega) dX8_count_19 ?_
    refine lv_if_eq (tgt := 26) hx hb dX8_count_20 (by decide) (fun h20 => ?_) (fun h20 => ?_)
    · skip
      have hmc : (mcP S i y 3) = (mbP S (4 + i) y 3) := if_pos h20
      refine lv_aload_n hx hb dX8_count_26 rfl (lv_at hl 1 rfl) ?_
      refine lv_iload_n hx hb dX8_count_27 rfl (lv_at hl 0 rfl) ?_
      refine lv_iload_n hx hb dX8_count_28 rfl (lv_at hl 3 rfl) ?_
      refine lv_iconst (v := 3) hx hb dX8_count_29 (by decide) ?_
      refine mv_callV (Y := mLM) (C := RX8) (k := 0) (i := 0) (rest := []) Cx hG hH hS (c_X8_by l E A hO S (4 + i) (by omega) y 3) q_co_X8_by q_ml_X8_217 q_im_X8_by q_se_X8_by q_in_X8 okM_0 rfl rfl hd_X8_by ⟨Nat.le_of_ble_eq_true rfl, Nat.le_of_ble_eq_true rfl⟩ rfl hl.1 rfl (Nat.le_of_ble_eq_true rfl) ⟨Nat.le_of_ble_eq_true rfl, Nat.le_of_ble_eq_true rfl⟩ dX8_count_30 (fun S30 H locs hP30 hH hS => ?_)
      refine W.eq (g2 := F0 m 33 ls [.int ((mbP S (4 + i) y 3).1)]) rfl ?_
      have hH := mv_S hP30 hH
      refine lv_istore (lv' := [(4, .int ((mbP S (4 + i) y 3).1)), (3, .int (nI (4 + i))), (0, .ref (mAdM E 0 0)), (1, .int x), (2, .int y)]) hx hb dX8_count_33 hl (by decide) rfl (fun ls hl => ?_)
      refine lv_iload hx hb dX8_count_35 (lv_at hl 0 rfl) ?_
      refine lv_if_ge (tgt := 43) hx hb dX8_count_37 (by decide) (fun h37 => ?_) (fun h37 => ?_)
      · skip
        have h0 := mbP_ge h37
        refine lv_lconst (v := 0) hx hb dX8_count_43 (by decide) ?_
        refine lv_lstore (lv' := [(5, .long 0), (4, .int ((mbP S (4 + i) y 3).1)), (3, .int (nI (4 + i))), (0, .ref (mAdM E 0 0)), (1, .int x), (2, .int y)]) hx hb dX8_count_44 hl (by decide) rfl (fun ls hl => ?_)
        refine lv_iconst (v := 0) hx hb dX8_count_46 (by decide) ?_
        refine mv_eqi (x' := nI 0) (rfl) ?_
        refine lv_istore (lv' := [(7, .int (nI 0)), (5, .long 0), (4, .int ((mbP S (4 + i) y 3).1)), (3, .int (nI (4 + i))), (0, .ref (mAdM E 0 0)), (1, .int x), (2, .int y)]) hx hb dX8_count_47 hl (by decide) rfl (fun ls hl => ?_)
        have lp : ∀ (fu j : Nat) (S1 : mSt) (H : Heap) (locs : List Loc) (ls : Array Slot) , 8 - j < fu → j ≤ 8 → (S1 = ((mbP S (4 + i) y 3).2)) → mHold mLM E S1 H → va_S A s.heap H locs → lv_has ls 8 [(0, .ref (mAdM E 0 0)), (3, .int (nI (4 + i))), (5, .long (lx8 (fun q => ((mbP S (4 + i) y 3).2).2.1 33 0 (128 * (4 + i) + q)) j)), (7, .int (nI j))] → W p l e (headSpec (Cond.code yX8_count cX8_count 8 (some .int) :: mv_ws) (mRm 3 71)).room s m ([.ref (mAdM E 0 0), .int x, .int y] : List Value).toArray below meth c H locs 0 0 (MQ below (mQ mLM E A (fun S' => (mtO S x 1 = none → S' = S) ∧ ∀ i, mtO S x 1 = some i → ((mcP S i y 3).1 = 0 → (∀ q, q < 8 → S'.2.1 33 0 (128 * (4 + i) + q) = by8 (mcN (mcP S i y 3).2 i) q) ∧ S'.2.2 0 0 20 = (if (mcP S i y 3).2.2.2 0 0 20 < (mcN (mcP S i y 3).2 i) then (mcN (mcP S i y 3).2 i) else (mcP S i y 3).2.2.2 0 0 20) ∧ S'.1 36 0 (4 + i) = 1 ∧ nSame (fun k j => (k = 33 ∧ 128 * (4 + i) ≤ j ∧ j < 128 * (4 + i) + 8) ∨ (k = 0 ∧ j = 20) ∨ (k = 36 ∧ j = 4 + i)) (mcP S i y 3).2 S') ∧ (¬ (mcP S i y 3).1 = 0 → S' = (mcP S i y 3).2)) (some (.int ((mtO S x 1).elim (-2) (fun i => if (mcP S i y 3).1 = 0 then ((mcN (mcP S i y 3).2 i) &&& 2147483647).toInt32 else (mcP S i y 3).1))))) ([.ref (mAdM E 0 0), .int x, .int y] : List Value).toArray s 0 0 A) (F0 m 49 ls []) := by
          intro fu
          induction fu with
          | zero => intro j S1 H locs ls  hn hj hinv hH hS hl; omega
          | succ fu ih =>
            intro j S1 H locs ls  hn hj hinv hH hS hl
            have hH := mv_S hinv hH
            refine lv_iload hx hb dX8_count_49 (lv_at hl 3 rfl) ?_
            refine lv_bipush (v := 8) hx hb dX8_count_51 (by decide) ?_
            refine lv_icmp_ge (tgt := 88) hx hb dX8_count_53 (by decide) (fun h53 => ?_) (fun h53 => ?_)
            · skip
              have hje : j = 8 := by have := ge_of (a := 8) (b := j) (by omega) (by omega) h53; omega
              refine lv_aload_n hx hb dX8_count_88 rfl (lv_at hl 0 rfl) ?_
              refine g_X8_written Cx hG hH q_fl_X8_91 dX8_count_89 ?_
              refine lv_iload_n hx hb dX8_count_92 rfl (lv_at hl 1 rfl) ?_
              refine mv_zal Cx hG hH isM_36 (4 + i) (rfl) (by omega) dX8_count_93 ?_
              refine lv_if_eq (tgt := 102) hx hb dX8_count_94 (by decide) (fun h94 => ?_) (fun h94 => ?_)
              · skip
                refine lv_aload_n hx hb dX8_count_102 rfl (lv_at hl 0 rfl) ?_
                refine g_X8_greatest Cx hG hH q_fl_X8_232 dX8_count_103 ?_
                refine lv_lconst (v := 1) hx hb dX8_count_106 (by decide) ?_
                refine lv_ladd hx hb dX8_count_107 ?_
                refine mv_eql (x' := mcN ((mbP S (4 + i) y 3).2) i) (by unfold mcN; rw [if_pos h94]) ?_
                refine lv_lstore (lv' := [(5, .long (mcN ((mbP S (4 + i) y 3).2) i)), (0, .ref (mAdM E 0 0)), (3, .int (nI (4 + i))), (7, .int (nI j))]) hx hb dX8_count_108 hl (by decide) rfl (fun ls hl => ?_)
                refine lv_lload hx hb dX8_count_110 (lv_at hl 0 rfl) ?_
                refine lv_aload_n hx hb dX8_count_112 rfl (lv_at hl 1 rfl) ?_
                refine g_X8_greatest Cx hG hH q_fl_X8_232 dX8_count_113 ?_
                refine mv_lcmp hx hb dX8_count_116 ?_
                refine lv_if_le (tgt := 126) hx hb dX8_count_117 (by decide) (fun h117 => ?_) (fun h117 => ?_)
                · skip
                  have hgr := lcm_le h117
                  refine lv_aload_n hx hb dX8_count_126 rfl (lv_at hl 1 rfl) ?_
                  refine g_X8_written Cx hG hH q_fl_X8_91 dX8_count_127 ?_
                  refine lv_iload_n hx hb dX8_count_130 rfl (lv_at hl 2 rfl) ?_
                  refine lv_iconst (v := 1) hx hb dX8_count_131 (by decide) ?_
                  refine mv_zas Cx hG hO hH hS isM_36 (4 + i) (Or.inr rfl) (rfl) (by omega) dX8_count_132 (fun H locs hH hS => ?_)
                  refine lv_iconst (v := 0) hx hb dX8_count_133 (by decide) ?_
                  refine mv_eqi (x' := nI 0) (rfl) ?_
                  refine lv_istore (lv' := [(7, .int (nI 0)), (5, .long (mcN ((mbP S (4 + i) y 3).2) i)), (0, .ref (mAdM E 0 0)), (3, .int (nI (4 + i)))]) hx hb dX8_count_134 hl (by decide) rfl (fun ls hl => ?_)
                  have lp2 : ∀ (fu u : Nat) (S2 : mSt) (H : Heap) (locs : List Loc) (ls : Array Slot) , 8 - u < fu → u ≤ 8 → ((∀ q, q < u → S2.2.1 33 0 (128 * (4 + i) + q) = by8 (mcN ((mbP S (4 + i) y 3).2) i) q) ∧ nSame (fun k j => k = 33 ∧ 128 * (4 + i) ≤ j ∧ j < 128 * (4 + i) + 8) (mM ((mbP S (4 + i) y 3).2) 36 0 (4 + i) 1) S2) → mHold mLM E S2 H → va_S A s.heap H locs → lv_has ls 8 [(0, .ref (mAdM E 0 0)), (3, .int (nI (4 + i))), (5, .long (mcN ((mbP S (4 + i) y 3).2) i)), (7, .int (nI u))] → W p l e (headSpec (Cond.code yX8_count cX8_count 8 (some .int) :: mv_ws) (mRm 3 71)).room s m ([.ref (mAdM E 0 0), .int x, .int y] : List Value).toArray below meth c H locs 0 0 (MQ below (mQ mLM E A (fun S' => (mtO S x 1 = none → S' = S) ∧ ∀ i, mtO S x 1 = some i → ((mcP S i y 3).1 = 0 → (∀ q, q < 8 → S'.2.1 33 0 (128 * (4 + i) + q) = by8 (mcN (mcP S i y 3).2 i) q) ∧ S'.2.2 0 0 20 = (if (mcP S i y 3).2.2.2 0 0 20 < (mcN (mcP S i y 3).2 i) then (mcN (mcP S i y 3).2 i) else (mcP S i y 3).2.2.2 0 0 20) ∧ S'.1 36 0 (4 + i) = 1 ∧ nSame (fun k j => (k = 33 ∧ 128 * (4 + i) ≤ j ∧ j < 128 * (4 + i) + 8) ∨ (k = 0 ∧ j = 20) ∨ (k = 36 ∧ j = 4 + i)) (mcP S i y 3).2 S') ∧ (¬ (mcP S i y 3).1 = 0 → S' = (mcP S i y 3).2)) (some (.int ((mtO S x 1).elim (-2) (fun i => if (mcP S i y 3).1 = 0 then ((mcN (mcP S i y 3).2 i) &&& 2147483647).toInt32 else (mcP S i y 3).1))))) ([.ref (mAdM E 0 0), .int x, .int y] : List Value).toArray s 0 0 A) (F0 m 136 ls []) := by
                    intro fu
                    induction fu with
                    | zero => intro u S2 H locs ls  hn2 hu hin2 hH hS hl; omega
                    | succ fu ih2 =>
                      intro u S2 H locs ls  hn2 hu hin2 hH hS hl
                      refine lv_iload hx hb dX8_count_136 (lv_at hl 3 rfl) ?_
                      refine lv_bipush (v := 8) hx hb dX8_count_138 (by decide) ?_
                      refine lv_icmp_ge (tgt := 175) hx hb dX8_count_140 (by decide) (fun h140 => ?_) (fun h140 => ?_)
                      · skip
                        have hue : u = 8 := by have := ge_of (a := 8) (b := u) (by omega) (by omega) h140; omega
                        rw [hue] at hin2
                        refine lv_lload hx hb dX8_count_175 (lv_at hl 2 rfl) ?_
                        refine lv_ldc2 hx hb Cx.2.2.2.1 (Cx.2.2.2.2 _ (List.mem_cons_of_mem _ q_k_X8_238)) dX8_count_177 ?_
                        refine lv_land hx hb dX8_count_180 ?_
                        refine lv_l2i hx hb dX8_count_181 rfl ?_
                        exact mv_reti Cx hr hH hS (by rw [hso]; show _ = if (mcP S i y 3).1 = 0 then (mcN (mcP S i y 3).2 i &&& 2147483647).toInt32 else (mcP S i y 3).1; rw [hmc]; exact (if_pos h0).symm) (⟨fun h => by (have e := hso.symm.trans h; cases e), fun i' h => by (rw [hso] at h; injection h with h; subst h; exact by rw [hmc]; exact ⟨fun _ => ⟨hin2.1, (hin2.2 0 20 (by omega)).2.2.trans (by rw [if_neg hgr]; simp [mM, mJ, m3]), (hin2.2 36 (4 + i) (by omega)).1.trans (by simp [mM, m3]), (nSame.M (X := (fun k j => (k = 33 ∧ 128 * (4 + i) ≤ j ∧ j < 128 * (4 + i) + 8) ∨ (k = 0 ∧ j = 20) ∨ (k = 36 ∧ j = 4 + i))) (Or.inr (Or.inr ⟨rfl, rfl⟩))).tr (hin2.2.wk (fun k j h => Or.inl h))⟩, fun q => absurd h0 q⟩)⟩) dX8_count_182 hlocks
                      · skip
                        have hue : u < 8 := by have := lt_of (a := 8) (b := u) (by omega) (by omega) h140; omega
                        refine lv_aload_n hx hb dX8_count_143 rfl (lv_at hl 0 rfl) ?_
                        refine g_X8_data Cx hG hH q_fl_X8_82 dX8_count_144 ?_
                        refine lv_sipush (v := 128) hx hb dX8_count_147 (by decide) ?_
                        refine lv_iload_n hx hb dX8_count_150 rfl (lv_at hl 1 rfl) ?_
                        refine lv_imul hx hb dX8_count_151 ?_
                        refine mv_eqi (x' := nI (128 * (4 + i))) (pk_mul 128 (4 + i)) ?_
                        refine lv_iload hx hb dX8_count_152 (lv_at hl 3 rfl) ?_
                        refine lv_iadd hx hb dX8_count_154 ?_
                        refine mv_eqi (x' := nI (128 * (4 + i) + u)) (nI_add _ _) ?_
                        refine lv_lload hx hb dX8_count_155 (lv_at hl 2 rfl) ?_
                        refine lv_bipush (v := 56) hx hb dX8_count_157 (by decide) ?_
                        refine lv_bipush (v := 8) hx hb dX8_count_159 (by decide) ?_
                        refine lv_iload hx hb dX8_count_161 (lv_at hl 3 rfl) ?_
                        refine lv_imul hx hb dX8_count_163 ?_
                        refine mv_eqi (x' := nI (8 * u)) (pk_mul 8 u) ?_
                        refine lv_isub hx hb dX8_count_164 ?_
                        refine mv_eqi (x' := nI (56 - 8 * u)) (s56 hue) ?_
                        refine lv_lshr hx hb dX8_count_165 rfl ?_
                        refine lv_l2i hx hb dX8_count_166 rfl ?_
                        refine lv_i2b hx hb dX8_count_167 rfl ?_
                        refine mv_bas8 Cx hG hO hH hS isM_33 (128 * (4 + i) + u) ((((mcN ((mbP S (4 + i) y 3).2) i) >>> ((nI (56 - 8 * u) : Int32).toInt64 &&& 63) : Int64).toInt32).toInt8) rfl (rfl) (by omega) dX8_count_168 (fun H locs hH hS => ?_)
                        refine lv_iinc (v := nI (u + 1)) (lv' := [(7, .int (nI (u + 1))), (0, .ref (mAdM E 0 0)), (3, .int (nI (4 + i))), (5, .long (mcN ((mbP S (4 + i) y 3).2) i))]) hx hb dX8_count_169 hl (k := 3) rfl (i2_1 u) (by decide) rfl (fun ls hl => ?_)
                        refine lv_goto (tgt := 136) hx hb dX8_count_172 (by decide) ?_
                        exact ih2 (u + 1) (mB S2 33 0 (128 * (4 + i) + u) ((((mcN ((mbP S (4 + i) y 3).2) i) >>> ((nI (56 - 8 * u) : Int32).toInt64 &&& 63) : Int64).toInt32).toInt8)) _ _ ls  (by omega) (by omega) (⟨fun q hq => by by_cases e : q = u; (subst e; exact m3_s _ _ _ _ _); (exact (show m3 S2.2.1 33 0 (128 * (4 + i) + u) _ 33 0 (128 * (4 + i) + q) = _ from m3_n _ _ (by omega)).trans (hin2.1 q (by omega))), hin2.2.tr (nSame.B (X := (fun k j => k = 33 ∧ 128 * (4 + i) ≤ j ∧ j < 128 * (4 + i) + 8)) ⟨rfl, by omega, by omega⟩)⟩) hH hS (lv_sub hl [1, 2, 3, 0] rfl)
                  exact lp2 (8 - 0 + 1) 0 (mM ((mbP S (4 + i) y 3).2) 36 0 (4 + i) 1) _ _ ls  (by omega) (by omega) (⟨fun q h => absurd h (Nat.not_lt_zero _), nSame.rf⟩) hH hS (lv_sub hl [2, 3, 1, 0] rfl)
                · skip
                  have hgr := lcm_gt h117
                  refine lv_aload_n hx hb dX8_count_120 rfl (lv_at hl 1 rfl) ?_
                  refine lv_lload hx hb dX8_count_121 (lv_at hl 0 rfl) ?_
                  refine p_X8_greatest Cx hG hO hH hS q_fl_X8_232 dX8_count_123 (fun H locs hH hS => ?_)
                  refine lv_aload_n hx hb dX8_count_126 rfl (lv_at hl 1 rfl) ?_
                  refine g_X8_written Cx hG hH q_fl_X8_91 dX8_count_127 ?_
                  refine lv_iload_n hx hb dX8_count_130 rfl (lv_at hl 2 rfl) ?_
                  refine lv_iconst (v := 1) hx hb dX8_count_131 (by decide) ?_
                  refine mv_zas Cx hG hO hH hS isM_36 (4 + i) (Or.inr rfl) (rfl) (by omega) dX8_count_132 (fun H locs hH hS => ?_)
                  refine lv_iconst (v := 0) hx hb dX8_count_133 (by decide) ?_
                  refine mv_eqi (x' := nI 0) (rfl) ?_
                  refine lv_istore (lv' := [(7, .int (nI 0)), (5, .long (mcN ((mbP S (4 + i) y 3).2) i)), (0, .ref (mAdM E 0 0)), (3, .int (nI (4 + i)))]) hx hb dX8_count_134 hl (by decide) rfl (fun ls hl => ?_)
                  have lp2 : ∀ (fu u : Nat) (S2 : mSt) (H : Heap) (locs : List Loc) (ls : Array Slot) , 8 - u < fu → u ≤ 8 → ((∀ q, q < u → S2.2.1 33 0 (128 * (4 + i) + q) = by8 (mcN ((mbP S (4 + i) y 3).2) i) q) ∧ nSame (fun k j => k = 33 ∧ 128 * (4 + i) ≤ j ∧ j < 128 * (4 + i) + 8) (mM (mJ ((mbP S (4 + i) y 3).2) 0 0 20 (mcN ((mbP S (4 + i) y 3).2) i)) 36 0 (4 + i) 1) S2) → mHold mLM E S2 H → va_S A s.heap H locs → lv_has ls 8 [(0, .ref (mAdM E 0 0)), (3, .int (nI (4 + i))), (5, .long (mcN ((mbP S (4 + i) y 3).2) i)), (7, .int (nI u))] → W p l e (headSpec (Cond.code yX8_count cX8_count 8 (some .int) :: mv_ws) (mRm 3 71)).room s m ([.ref (mAdM E 0 0), .int x, .int y] : List Value).toArray below meth c H locs 0 0 (MQ below (mQ mLM E A (fun S' => (mtO S x 1 = none → S' = S) ∧ ∀ i, mtO S x 1 = some i → ((mcP S i y 3).1 = 0 → (∀ q, q < 8 → S'.2.1 33 0 (128 * (4 + i) + q) = by8 (mcN (mcP S i y 3).2 i) q) ∧ S'.2.2 0 0 20 = (if (mcP S i y 3).2.2.2 0 0 20 < (mcN (mcP S i y 3).2 i) then (mcN (mcP S i y 3).2 i) else (mcP S i y 3).2.2.2 0 0 20) ∧ S'.1 36 0 (4 + i) = 1 ∧ nSame (fun k j => (k = 33 ∧ 128 * (4 + i) ≤ j ∧ j < 128 * (4 + i) + 8) ∨ (k = 0 ∧ j = 20) ∨ (k = 36 ∧ j = 4 + i)) (mcP S i y 3).2 S') ∧ (¬ (mcP S i y 3).1 = 0 → S' = (mcP S i y 3).2)) (some (.int ((mtO S x 1).elim (-2) (fun i => if (mcP S i y 3).1 = 0 then ((mcN (mcP S i y 3).2 i) &&& 2147483647).toInt32 else (mcP S i y 3).1))))) ([.ref (mAdM E 0 0), .int x, .int y] : List Value).toArray s 0 0 A) (F0 m 136 ls []) := by
                    intro fu
                    induction fu with
                    | zero => intro u S2 H locs ls  hn2 hu hin2 hH hS hl; omega
                    | succ fu ih2 =>
                      intro u S2 H locs ls  hn2 hu hin2 hH hS hl
                      refine lv_iload hx hb dX8_count_136 (lv_at hl 3 rfl) ?_
                      refine lv_bipush (v := 8) hx hb dX8_count_138 (by decide) ?_
                      refine lv_icmp_ge (tgt := 175) hx hb dX8_count_140 (by decide) (fun h140 => ?_) (fun h140 => ?_)
                      · skip
                        have hue : u = 8 := by have := ge_of (a := 8) (b := u) (by omega) (by omega) h140; omega
                        rw [hue] at hin2
                        refine lv_lload hx hb dX8_count_175 (lv_at hl 2 rfl) ?_
                        refine lv_ldc2 hx hb Cx.2.2.2.1 (Cx.2.2.2.2 _ (List.mem_cons_of_mem _ q_k_X8_238)) dX8_count_177 ?_
                        refine lv_land hx hb dX8_count_180 ?_
                        refine lv_l2i hx hb dX8_count_181 rfl ?_
                        exact mv_reti Cx hr hH hS (by rw [hso]; show _ = if (mcP S i y 3).1 = 0 then (mcN (mcP S i y 3).2 i &&& 2147483647).toInt32 else (mcP S i y 3).1; rw [hmc]; exact (if_pos h0).symm) (⟨fun h => by (have e := hso.symm.trans h; cases e), fun i' h => by (rw [hso] at h; injection h with h; subst h; exact by rw [hmc]; exact ⟨fun _ => ⟨hin2.1, (hin2.2 0 20 (by omega)).2.2.trans (by rw [if_pos hgr]; simp [mM, mJ, m3]), (hin2.2 36 (4 + i) (by omega)).1.trans (by simp [mM, m3]), ((nSame.J (X := (fun k j => (k = 33 ∧ 128 * (4 + i) ≤ j ∧ j < 128 * (4 + i) + 8) ∨ (k = 0 ∧ j = 20) ∨ (k = 36 ∧ j = 4 + i))) (Or.inr (Or.inl ⟨rfl, rfl⟩))).tr (nSame.M (X := (fun k j => (k = 33 ∧ 128 * (4 + i) ≤ j ∧ j < 128 * (4 + i) + 8) ∨ (k = 0 ∧ j = 20) ∨ (k = 36 ∧ j = 4 + i))) (Or.inr (Or.inr ⟨rfl, rfl⟩)))).tr (hin2.2.wk (fun k j h => Or.inl h))⟩, fun q => absurd h0 q⟩)⟩) dX8_count_182 hlocks
                      · skip
                        have hue : u < 8 := by have := lt_of (a := 8) (b := u) (by omega) (by omega) h140; omega
                        refine lv_aload_n hx hb dX8_count_143 rfl (lv_at hl 0 rfl) ?_
                        refine g_X8_data Cx hG hH q_fl_X8_82 dX8_count_144 ?_
                        refine lv_sipush (v := 128) hx hb dX8_count_147 (by decide) ?_
                        refine lv_iload_n hx hb dX8_count_150 rfl (lv_at hl 1 rfl) ?_
                        refine lv_imul hx hb dX8_count_151 ?_
                        refine mv_eqi (x' := nI (128 * (4 + i))) (pk_mul 128 (4 + i)) ?_
                        refine lv_iload hx hb dX8_count_152 (lv_at hl 3 rfl) ?_
                        refine lv_iadd hx hb dX8_count_154 ?_
                        refine mv_eqi (x' := nI (128 * (4 + i) + u)) (nI_add _ _) ?_
                        refine lv_lload hx hb dX8_count_155 (lv_at hl 2 rfl) ?_
                        refine lv_bipush (v := 56) hx hb dX8_count_157 (by decide) ?_
                        refine lv_bipush (v := 8) hx hb dX8_count_159 (by decide) ?_
                        refine lv_iload hx hb dX8_count_161 (lv_at hl 3 rfl) ?_
                        refine lv_imul hx hb dX8_count_163 ?_
                        refine mv_eqi (x' := nI (8 * u)) (pk_mul 8 u) ?_
                        refine lv_isub hx hb dX8_count_164 ?_
                        refine mv_eqi (x' := nI (56 - 8 * u)) (s56 hue) ?_
                        refine lv_lshr hx hb dX8_count_165 rfl ?_
                        refine lv_l2i hx hb dX8_count_166 rfl ?_
                        refine lv_i2b hx hb dX8_count_167 rfl ?_
                        refine mv_bas8 Cx hG hO hH hS isM_33 (128 * (4 + i) + u) ((((mcN ((mbP S (4 + i) y 3).2) i) >>> ((nI (56 - 8 * u) : Int32).toInt64 &&& 63) : Int64).toInt32).toInt8) rfl (rfl) (by omega) dX8_count_168 (fun H locs hH hS => ?_)
                        refine lv_iinc (v := nI (u + 1)) (lv' := [(7, .int (nI (u + 1))), (0, .ref (mAdM E 0 0)), (3, .int (nI (4 + i))), (5, .long (mcN ((mbP S (4 + i) y 3).2) i))]) hx hb dX8_count_169 hl (k := 3) rfl (i2_1 u) (by decide) rfl (fun ls hl => ?_)
                        refine lv_goto (tgt := 136) hx hb dX8_count_172 (by decide) ?_
                        exact ih2 (u + 1) (mB S2 33 0 (128 * (4 + i) + u) ((((mcN ((mbP S (4 + i) y 3).2) i) >>> ((nI (56 - 8 * u) : Int32).toInt64 &&& 63) : Int64).toInt32).toInt8)) _ _ ls  (by omega) (by omega) (⟨fun q hq => by by_cases e : q = u; (subst e; exact m3_s _ _ _ _ _); (exact (show m3 S2.2.1 33 0 (128 * (4 + i) + u) _ 33 0 (128 * (4 + i) + q) = _ from m3_n _ _ (by omega)).trans (hin2.1 q (by omega))), hin2.2.tr (nSame.B (X := (fun k j => k = 33 ∧ 128 * (4 + i) ≤ j ∧ j < 128 * (4 + i) + 8)) ⟨rfl, by omega, by omega⟩)⟩) hH hS (lv_sub hl [1, 2, 3, 0] rfl)
                  exact lp2 (8 - 0 + 1) 0 (mM (mJ ((mbP S (4 + i) y 3).2) 0 0 20 (mcN ((mbP S (4 + i) y 3).2) i)) 36 0 (4 + i) 1) _ _ ls  (by omega) (by omega) (⟨fun q h => absurd h (Nat.not_lt_zero _), nSame.rf⟩) hH hS (lv_sub hl [2, 3, 1, 0] rfl)
              · skip
                refine lv_lload hx hb dX8_count_97 (lv_at hl 2 rfl) ?_
                refine mv_eql (x' := lx8 (fun q => ((mbP S (4 + i) y 3).2).2.1 33 0 (128 * (4 + i) + q)) 8) (by rw [hje]) ?_
                refine lv_goto (tgt := 106) hx hb dX8_count_99 (by decide) ?_
                refine lv_lconst (v := 1) hx hb dX8_count_106 (by decide) ?_
                refine lv_ladd hx hb dX8_count_107 ?_
                refine mv_eql (x' := mcN ((mbP S (4 + i) y 3).2) i) (by unfold mcN; rw [if_neg h94]) ?_
                refine lv_lstore (lv' := [(5, .long (mcN ((mbP S (4 + i) y 3).2) i)), (0, .ref (mAdM E 0 0)), (3, .int (nI (4 + i))), (7, .int (nI j))]) hx hb dX8_count_108 hl (by decide) rfl (fun ls hl => ?_)
                refine lv_lload hx hb dX8_count_110 (lv_at hl 0 rfl) ?_
                refine lv_aload_n hx hb dX8_count_112 rfl (lv_at hl 1 rfl) ?_
                refine g_X8_greatest Cx hG hH q_fl_X8_232 dX8_count_113 ?_
                refine mv_lcmp hx hb dX8_count_116 ?_
                refine lv_if_le (tgt := 126) hx hb dX8_count_117 (by decide) (fun h117 => ?_) (fun h117 => ?_)
                · skip
                  have hgr := lcm_le h117
                  refine lv_aload_n hx hb dX8_count_126 rfl (lv_at hl 1 rfl) ?_
                  refine g_X8_written Cx hG hH q_fl_X8_91 dX8_count_127 ?_
                  refine lv_iload_n hx hb dX8_count_130 rfl (lv_at hl 2 rfl) ?_
                  refine lv_iconst (v := 1) hx hb dX8_count_131 (by decide) ?_
                  refine mv_zas Cx hG hO hH hS isM_36 (4 + i) (Or.inr rfl) (rfl) (by omega) dX8_count_132 (fun H locs hH hS => ?_)
                  refine lv_iconst (v := 0) hx hb dX8_count_133 (by decide) ?_
                  refine mv_eqi (x' := nI 0) (rfl) ?_
                  refine lv_istore (lv' := [(7, .int (nI 0)), (5, .long (mcN ((mbP S (4 + i) y 3).2) i)), (0, .ref (mAdM E 0 0)), (3, .int (nI (4 + i)))]) hx hb dX8_count_134 hl (by decide) rfl (fun ls hl => ?_)
                  have lp2 : ∀ (fu u : Nat) (S2 : mSt) (H : Heap) (locs : List Loc) (ls : Array Slot) , 8 - u < fu → u ≤ 8 → ((∀ q, q < u → S2.2.1 33 0 (128 * (4 + i) + q) = by8 (mcN ((mbP S (4 + i) y 3).2) i) q) ∧ nSame (fun k j => k = 33 ∧ 128 * (4 + i) ≤ j ∧ j < 128 * (4 + i) + 8) (mM ((mbP S (4 + i) y 3).2) 36 0 (4 + i) 1) S2) → mHold mLM E S2 H → va_S A s.heap H locs → lv_has ls 8 [(0, .ref (mAdM E 0 0)), (3, .int (nI (4 + i))), (5, .long (mcN ((mbP S (4 + i) y 3).2) i)), (7, .int (nI u))] → W p l e (headSpec (Cond.code yX8_count cX8_count 8 (some .int) :: mv_ws) (mRm 3 71)).room s m ([.ref (mAdM E 0 0), .int x, .int y] : List Value).toArray below meth c H locs 0 0 (MQ below (mQ mLM E A (fun S' => (mtO S x 1 = none → S' = S) ∧ ∀ i, mtO S x 1 = some i → ((mcP S i y 3).1 = 0 → (∀ q, q < 8 → S'.2.1 33 0 (128 * (4 + i) + q) = by8 (mcN (mcP S i y 3).2 i) q) ∧ S'.2.2 0 0 20 = (if (mcP S i y 3).2.2.2 0 0 20 < (mcN (mcP S i y 3).2 i) then (mcN (mcP S i y 3).2 i) else (mcP S i y 3).2.2.2 0 0 20) ∧ S'.1 36 0 (4 + i) = 1 ∧ nSame (fun k j => (k = 33 ∧ 128 * (4 + i) ≤ j ∧ j < 128 * (4 + i) + 8) ∨ (k = 0 ∧ j = 20) ∨ (k = 36 ∧ j = 4 + i)) (mcP S i y 3).2 S') ∧ (¬ (mcP S i y 3).1 = 0 → S' = (mcP S i y 3).2)) (some (.int ((mtO S x 1).elim (-2) (fun i => if (mcP S i y 3).1 = 0 then ((mcN (mcP S i y 3).2 i) &&& 2147483647).toInt32 else (mcP S i y 3).1))))) ([.ref (mAdM E 0 0), .int x, .int y] : List Value).toArray s 0 0 A) (F0 m 136 ls []) := by
                    intro fu
                    induction fu with
                    | zero => intro u S2 H locs ls  hn2 hu hin2 hH hS hl; omega
                    | succ fu ih2 =>
                      intro u S2 H locs ls  hn2 hu hin2 hH hS hl
                      refine lv_iload hx hb dX8_count_136 (lv_at hl 3 rfl) ?_
                      refine lv_bipush (v := 8) hx hb dX8_count_138 (by decide) ?_
                      refine lv_icmp_ge (tgt := 175) hx hb dX8_count_140 (by decide) (fun h140 => ?_) (fun h140 => ?_)
                      · skip
                        have hue : u = 8 := by have := ge_of (a := 8) (b := u) (by omega) (by omega) h140; omega
                        rw [hue] at hin2
                        refine lv_lload hx hb dX8_count_175 (lv_at hl 2 rfl) ?_
                        refine lv_ldc2 hx hb Cx.2.2.2.1 (Cx.2.2.2.2 _ (List.mem_cons_of_mem _ q_k_X8_238)) dX8_count_177 ?_
                        refine lv_land hx hb dX8_count_180 ?_
                        refine lv_l2i hx hb dX8_count_181 rfl ?_
                        exact mv_reti Cx hr hH hS (by rw [hso]; show _ = if (mcP S i y 3).1 = 0 then (mcN (mcP S i y 3).2 i &&& 2147483647).toInt32 else (mcP S i y 3).1; rw [hmc]; exact (if_pos h0).symm) (⟨fun h => by (have e := hso.symm.trans h; cases e), fun i' h => by (rw [hso] at h; injection h with h; subst h; exact by rw [hmc]; exact ⟨fun _ => ⟨hin2.1, (hin2.2 0 20 (by omega)).2.2.trans (by rw [if_neg hgr]; simp [mM, mJ, m3]), (hin2.2 36 (4 + i) (by omega)).1.trans (by simp [mM, m3]), (nSame.M (X := (fun k j => (k = 33 ∧ 128 * (4 + i) ≤ j ∧ j < 128 * (4 + i) + 8) ∨ (k = 0 ∧ j = 20) ∨ (k = 36 ∧ j = 4 + i))) (Or.inr (Or.inr ⟨rfl, rfl⟩))).tr (hin2.2.wk (fun k j h => Or.inl h))⟩, fun q => absurd h0 q⟩)⟩) dX8_count_182 hlocks
                      · skip
                        have hue : u < 8 := by have := lt_of (a := 8) (b := u) (by omega) (by omega) h140; omega
                        refine lv_aload_n hx hb dX8_count_143 rfl (lv_at hl 0 rfl) ?_
                        refine g_X8_data Cx hG hH q_fl_X8_82 dX8_count_144 ?_
                        refine lv_sipush (v := 128) hx hb dX8_count_147 (by decide) ?_
                        refine lv_iload_n hx hb dX8_count_150 rfl (lv_at hl 1 rfl) ?_
                        refine lv_imul hx hb dX8_count_151 ?_
                        refine mv_eqi (x' := nI (128 * (4 + i))) (pk_mul 128 (4 + i)) ?_
                        refine lv_iload hx hb dX8_count_152 (lv_at hl 3 rfl) ?_
                        refine lv_iadd hx hb dX8_count_154 ?_
                        refine mv_eqi (x' := nI (128 * (4 + i) + u)) (nI_add _ _) ?_
                        refine lv_lload hx hb dX8_count_155 (lv_at hl 2 rfl) ?_
                        refine lv_bipush (v := 56) hx hb dX8_count_157 (by decide) ?_
                        refine lv_bipush (v := 8) hx hb dX8_count_159 (by decide) ?_
                        refine lv_iload hx hb dX8_count_161 (lv_at hl 3 rfl) ?_
                        refine lv_imul hx hb dX8_count_163 ?_
                        refine mv_eqi (x' := nI (8 * u)) (pk_mul 8 u) ?_
                        refine lv_isub hx hb dX8_count_164 ?_
                        refine mv_eqi (x' := nI (56 - 8 * u)) (s56 hue) ?_
                        refine lv_lshr hx hb dX8_count_165 rfl ?_
                        refine lv_l2i hx hb dX8_count_166 rfl ?_
                        refine lv_i2b hx hb dX8_count_167 rfl ?_
                        refine mv_bas8 Cx hG hO hH hS isM_33 (128 * (4 + i) + u) ((((mcN ((mbP S (4 + i) y 3).2) i) >>> ((nI (56 - 8 * u) : Int32).toInt64 &&& 63) : Int64).toInt32).toInt8) rfl (rfl) (by omega) dX8_count_168 (fun H locs hH hS => ?_)
                        refine lv_iinc (v := nI (u + 1)) (lv' := [(7, .int (nI (u + 1))), (0, .ref (mAdM E 0 0)), (3, .int (nI (4 + i))), (5, .long (mcN ((mbP S (4 + i) y 3).2) i))]) hx hb dX8_count_169 hl (k := 3) rfl (i2_1 u) (by decide) rfl (fun ls hl => ?_)
                        refine lv_goto (tgt := 136) hx hb dX8_count_172 (by decide) ?_
                        exact ih2 (u + 1) (mB S2 33 0 (128 * (4 + i) + u) ((((mcN ((mbP S (4 + i) y 3).2) i) >>> ((nI (56 - 8 * u) : Int32).toInt64 &&& 63) : Int64).toInt32).toInt8)) _ _ ls  (by omega) (by omega) (⟨fun q hq => by by_cases e : q = u; (subst e; exact m3_s _ _ _ _ _); (exact (show m3 S2.2.1 33 0 (128 * (4 + i) + u) _ 33 0 (128 * (4 + i) + q) = _ from m3_n _ _ (by omega)).trans (hin2.1 q (by omega))), hin2.2.tr (nSame.B (X := (fun k j => k = 33 ∧ 128 * (4 + i) ≤ j ∧ j < 128 * (4 + i) + 8)) ⟨rfl, by omega, by omega⟩)⟩) hH hS (lv_sub hl [1, 2, 3, 0] rfl)
                  exact lp2 (8 - 0 + 1) 0 (mM ((mbP S (4 + i) y 3).2) 36 0 (4 + i) 1) _ _ ls  (by omega) (by omega) (⟨fun q h => absurd h (Nat.not_lt_zero _), nSame.rf⟩) hH hS (lv_sub hl [2, 3, 1, 0] rfl)
                · skip
                  have hgr := lcm_gt h117
                  refine lv_aload_n hx hb dX8_count_120 rfl (lv_at hl 1 rfl) ?_
                  refine lv_lload hx hb dX8_count_121 (lv_at hl 0 rfl) ?_
                  refine p_X8_greatest Cx hG hO hH hS q_fl_X8_232 dX8_count_123 (fun H locs hH hS => ?_)
                  refine lv_aload_n hx hb dX8_count_126 rfl (lv_at hl 1 rfl) ?_
                  refine g_X8_written Cx hG hH q_fl_X8_91 dX8_count_127 ?_
                  refine lv_iload_n hx hb dX8_count_130 rfl (lv_at hl 2 rfl) ?_
                  refine lv_iconst (v := 1) hx hb dX8_count_131 (by decide) ?_
                  refine mv_zas Cx hG hO hH hS isM_36 (4 + i) (Or.inr rfl) (rfl) (by omega) dX8_count_132 (fun H locs hH hS => ?_)
                  refine lv_iconst (v := 0) hx hb dX8_count_133 (by decide) ?_
                  refine mv_eqi (x' := nI 0) (rfl) ?_
                  refine lv_istore (lv' := [(7, .int (nI 0)), (5, .long (mcN ((mbP S (4 + i) y 3).2) i)), (0, .ref (mAdM E 0 0)), (3, .int (nI (4 + i)))]) hx hb dX8_count_134 hl (by decide) rfl (fun ls hl => ?_)
                  have lp2 : ∀ (fu u : Nat) (S2 : mSt) (H : Heap) (locs : List Loc) (ls : Array Slot) , 8 - u < fu → u ≤ 8 → ((∀ q, q < u → S2.2.1 33 0 (128 * (4 + i) + q) = by8 (mcN ((mbP S (4 + i) y 3).2) i) q) ∧ nSame (fun k j => k = 33 ∧ 128 * (4 + i) ≤ j ∧ j < 128 * (4 + i) + 8) (mM (mJ ((mbP S (4 + i) y 3).2) 0 0 20 (mcN ((mbP S (4 + i) y 3).2) i)) 36 0 (4 + i) 1) S2) → mHold mLM E S2 H → va_S A s.heap H locs → lv_has ls 8 [(0, .ref (mAdM E 0 0)), (3, .int (nI (4 + i))), (5, .long (mcN ((mbP S (4 + i) y 3).2) i)), (7, .int (nI u))] → W p l e (headSpec (Cond.code yX8_count cX8_count 8 (some .int) :: mv_ws) (mRm 3 71)).room s m ([.ref (mAdM E 0 0), .int x, .int y] : List Value).toArray below meth c H locs 0 0 (MQ below (mQ mLM E A (fun S' => (mtO S x 1 = none → S' = S) ∧ ∀ i, mtO S x 1 = some i → ((mcP S i y 3).1 = 0 → (∀ q, q < 8 → S'.2.1 33 0 (128 * (4 + i) + q) = by8 (mcN (mcP S i y 3).2 i) q) ∧ S'.2.2 0 0 20 = (if (mcP S i y 3).2.2.2 0 0 20 < (mcN (mcP S i y 3).2 i) then (mcN (mcP S i y 3).2 i) else (mcP S i y 3).2.2.2 0 0 20) ∧ S'.1 36 0 (4 + i) = 1 ∧ nSame (fun k j => (k = 33 ∧ 128 * (4 + i) ≤ j ∧ j < 128 * (4 + i) + 8) ∨ (k = 0 ∧ j = 20) ∨ (k = 36 ∧ j = 4 + i)) (mcP S i y 3).2 S') ∧ (¬ (mcP S i y 3).1 = 0 → S' = (mcP S i y 3).2)) (some (.int ((mtO S x 1).elim (-2) (fun i => if (mcP S i y 3).1 = 0 then ((mcN (mcP S i y 3).2 i) &&& 2147483647).toInt32 else (mcP S i y 3).1))))) ([.ref (mAdM E 0 0), .int x, .int y] : List Value).toArray s 0 0 A) (F0 m 136 ls []) := by
                    intro fu
                    induction fu with
                    | zero => intro u S2 H locs ls  hn2 hu hin2 hH hS hl; omega
                    | succ fu ih2 =>
                      intro u S2 H locs ls  hn2 hu hin2 hH hS hl
                      refine lv_iload hx hb dX8_count_136 (lv_at hl 3 rfl) ?_
                      refine lv_bipush (v := 8) hx hb dX8_count_138 (by decide) ?_
                      refine lv_icmp_ge (tgt := 175) hx hb dX8_count_140 (by decide) (fun h140 => ?_) (fun h140 => ?_)
                      · skip
                        have hue : u = 8 := by have := ge_of (a := 8) (b := u) (by omega) (by omega) h140; omega
                        rw [hue] at hin2
                        refine lv_lload hx hb dX8_count_175 (lv_at hl 2 rfl) ?_
                        refine lv_ldc2 hx hb Cx.2.2.2.1 (Cx.2.2.2.2 _ (List.mem_cons_of_mem _ q_k_X8_238)) dX8_count_177 ?_
                        refine lv_land hx hb dX8_count_180 ?_
                        refine lv_l2i hx hb dX8_count_181 rfl ?_
                        exact mv_reti Cx hr hH hS (by rw [hso]; show _ = if (mcP S i y 3).1 = 0 then (mcN (mcP S i y 3).2 i &&& 2147483647).toInt32 else (mcP S i y 3).1; rw [hmc]; exact (if_pos h0).symm) (⟨fun h => by (have e := hso.symm.trans h; cases e), fun i' h => by (rw [hso] at h; injection h with h; subst h; exact by rw [hmc]; exact ⟨fun _ => ⟨hin2.1, (hin2.2 0 20 (by omega)).2.2.trans (by rw [if_pos hgr]; simp [mM, mJ, m3]), (hin2.2 36 (4 + i) (by omega)).1.trans (by simp [mM, m3]), ((nSame.J (X := (fun k j => (k = 33 ∧ 128 * (4 + i) ≤ j ∧ j < 128 * (4 + i) + 8) ∨ (k = 0 ∧ j = 20) ∨ (k = 36 ∧ j = 4 + i))) (Or.inr (Or.inl ⟨rfl, rfl⟩))).tr (nSame.M (X := (fun k j => (k = 33 ∧ 128 * (4 + i) ≤ j ∧ j < 128 * (4 + i) + 8) ∨ (k = 0 ∧ j = 20) ∨ (k = 36 ∧ j = 4 + i))) (Or.inr (Or.inr ⟨rfl, rfl⟩)))).tr (hin2.2.wk (fun k j h => Or.inl h))⟩, fun q => absurd h0 q⟩)⟩) dX8_count_182 hlocks
                      · skip
                        have hue : u < 8 := by have := lt_of (a := 8) (b := u) (by omega) (by omega) h140; omega
                        refine lv_aload_n hx hb dX8_count_143 rfl (lv_at hl 0 rfl) ?_
                        refine g_X8_data Cx hG hH q_fl_X8_82 dX8_count_144 ?_
                        refine lv_sipush (v := 128) hx hb dX8_count_147 (by decide) ?_
                        refine lv_iload_n hx hb dX8_count_150 rfl (lv_at hl 1 rfl) ?_
                        refine lv_imul hx hb dX8_count_151 ?_
                        refine mv_eqi (x' := nI (128 * (4 + i))) (pk_mul 128 (4 + i)) ?_
                        refine lv_iload hx hb dX8_count_152 (lv_at hl 3 rfl) ?_
                        refine lv_iadd hx hb dX8_count_154 ?_
                        refine mv_eqi (x' := nI (128 * (4 + i) + u)) (nI_add _ _) ?_
                        refine lv_lload hx hb dX8_count_155 (lv_at hl 2 rfl) ?_
                        refine lv_bipush (v := 56) hx hb dX8_count_157 (by decide) ?_
                        refine lv_bipush (v := 8) hx hb dX8_count_159 (by decide) ?_
                        refine lv_iload hx hb dX8_count_161 (lv_at hl 3 rfl) ?_
                        refine lv_imul hx hb dX8_count_163 ?_
                        refine mv_eqi (x' := nI (8 * u)) (pk_mul 8 u) ?_
                        refine lv_isub hx hb dX8_count_164 ?_
                        refine mv_eqi (x' := nI (56 - 8 * u)) (s56 hue) ?_
                        refine lv_lshr hx hb dX8_count_165 rfl ?_
                        refine lv_l2i hx hb dX8_count_166 rfl ?_
                        refine lv_i2b hx hb dX8_count_167 rfl ?_
                        refine mv_bas8 Cx hG hO hH hS isM_33 (128 * (4 + i) + u) ((((mcN ((mbP S (4 + i) y 3).2) i) >>> ((nI (56 - 8 * u) : Int32).toInt64 &&& 63) : Int64).toInt32).toInt8) rfl (rfl) (by omega) dX8_count_168 (fun H locs hH hS => ?_)
                        refine lv_iinc (v := nI (u + 1)) (lv' := [(7, .int (nI (u + 1))), (0, .ref (mAdM E 0 0)), (3, .int (nI (4 + i))), (5, .long (mcN ((mbP S (4 + i) y 3).2) i))]) hx hb dX8_count_169 hl (k := 3) rfl (i2_1 u) (by decide) rfl (fun ls hl => ?_)
                        refine lv_goto (tgt := 136) hx hb dX8_count_172 (by decide) ?_
                        exact ih2 (u + 1) (mB S2 33 0 (128 * (4 + i) + u) ((((mcN ((mbP S (4 + i) y 3).2) i) >>> ((nI (56 - 8 * u) : Int32).toInt64 &&& 63) : Int64).toInt32).toInt8)) _ _ ls  (by omega) (by omega) (⟨fun q hq => by by_cases e : q = u; (subst e; exact m3_s _ _ _ _ _); (exact (show m3 S2.2.1 33 0 (128 * (4 + i) + u) _ 33 0 (128 * (4 + i) + q) = _ from m3_n _ _ (by omega)).trans (hin2.1 q (by omega))), hin2.2.tr (nSame.B (X := (fun k j => k = 33 ∧ 128 * (4 + i) ≤ j ∧ j < 128 * (4 + i) + 8)) ⟨rfl, by omega, by omega⟩)⟩) hH hS (lv_sub hl [1, 2, 3, 0] rfl)
                  exact lp2 (8 - 0 + 1) 0 (mM (mJ ((mbP S (4 + i) y 3).2) 0 0 20 (mcN ((mbP S (4 + i) y 3).2) i)) 36 0 (4 + i) 1) _ _ ls  (by omega) (by omega) (⟨fun q h => absurd h (Nat.not_lt_zero _), nSame.rf⟩) hH hS (lv_sub hl [2, 3, 1, 0] rfl)
            · skip
              have hje : j < 8 := lt_of (a := 8) (b := j) (by omega) (by omega) h53
              refine lv_lload hx hb dX8_count_56 (lv_at hl 2 rfl) ?_
              refine lv_bipush (v := 8) hx hb dX8_count_58 (by decide) ?_
              refine lv_lshl hx hb dX8_count_60 rfl ?_
              refine lv_aload_n hx hb dX8_count_61 rfl (lv_at hl 0 rfl) ?_
              refine g_X8_data Cx hG hH q_fl_X8_82 dX8_count_62 ?_
              refine lv_sipush (v := 128) hx hb dX8_count_65 (by decide) ?_
              refine lv_iload_n hx hb dX8_count_68 rfl (lv_at hl 1 rfl) ?_
              refine lv_imul hx hb dX8_count_69 ?_
              refine mv_eqi (x' := nI (128 * (4 + i))) (pk_mul 128 (4 + i)) ?_
              refine lv_iload hx hb dX8_count_70 (lv_at hl 3 rfl) ?_
              refine lv_iadd hx hb dX8_count_72 ?_
              refine mv_eqi (x' := nI (128 * (4 + i) + j)) (nI_add _ _) ?_
              refine mv_bal Cx hG hH isM_33 (128 * (4 + i) + j) (rfl) (by omega) dX8_count_73 ?_
              refine lv_sipush (v := 255) hx hb dX8_count_74 (by decide) ?_
              refine lv_iand hx hb dX8_count_77 ?_
              refine lv_i2l hx hb dX8_count_78 rfl ?_
              refine lv_lor hx hb dX8_count_79 ?_
              refine mv_eql (x' := lx8 (fun q => ((mbP S (4 + i) y 3).2).2.1 33 0 (128 * (4 + i) + q)) (j + 1)) (rfl) ?_
              refine lv_lstore (lv' := [(5, .long (lx8 (fun q => ((mbP S (4 + i) y 3).2).2.1 33 0 (128 * (4 + i) + q)) (j + 1))), (0, .ref (mAdM E 0 0)), (3, .int (nI (4 + i))), (7, .int (nI j))]) hx hb dX8_count_80 hl (by decide) rfl (fun ls hl => ?_)
              refine lv_iinc (v := nI (j + 1)) (lv' := [(7, .int (nI (j + 1))), (5, .long (lx8 (fun q => ((mbP S (4 + i) y 3).2).2.1 33 0 (128 * (4 + i) + q)) (j + 1))), (0, .ref (mAdM E 0 0)), (3, .int (nI (4 + i)))]) hx hb dX8_count_82 hl (k := 3) rfl (i2_1 j) (by decide) rfl (fun ls hl => ?_)
              refine lv_goto (tgt := 49) hx hb dX8_count_85 (by decide) ?_
              exact ih (j + 1) ((mbP S (4 + i) y 3).2) _ _ ls  (by omega) (by omega) (rfl) hH hS (lv_sub hl [2, 3, 1, 0] rfl)
        exact lp (8 - 0 + 1) 0 ((mbP S (4 + i) y 3).2) _ _ ls  (by omega) (by omega) (rfl) hH hS (lv_sub hl [4, 3, 1, 0] rfl)
      · skip
        have h0 := mbP_ne h37
        refine lv_iload hx hb dX8_count_40 (lv_at hl 0 rfl) ?_
        exact mv_reti Cx hr hH hS (by rw [hso]; show _ = if (mcP S i y 3).1 = 0 then (mcN (mcP S i y 3).2 i &&& 2147483647).toInt32 else (mcP S i y 3).1; rw [hmc]; exact (if_neg h0).symm) (⟨fun h => by (have e := hso.symm.trans h; cases e), fun i' h => by (rw [hso] at h; injection h with h; subst h; exact by rw [hmc]; exact ⟨fun q => absurd q h0, fun _ => rfl⟩)⟩) dX8_count_42 hlocks
    · skip
      have hmc : (mcP S i y 3) = (-3, S) := if_neg h20
      refine lv_bipush (v := (-3 : Int32)) hx hb dX8_count_23 (by decide) ?_
      exact mv_reti Cx hr hH hS (by rw [hso]; show _ = if (mcP S i y 3).1 = 0 then (mcN (mcP S i y 3).2 i &&& 2147483647).toInt32 else (mcP S i y 3).1; rw [hmc]; exact (if_neg (show ¬ (-3 : Int32) = 0 by decide)).symm) (⟨fun h => by (have e := hso.symm.trans h; cases e), fun i' h => by (rw [hso] at h; injection h with h; subst h; exact by rw [hmc]; exact ⟨fun q => absurd q (show ¬ (-3 : Int32) = 0 by decide), fun _ => rfl⟩)⟩) dX8_count_25 hlocks
  · skip
    have hno := th_lt h8
    refine lv_bipush (v := (-2 : Int32)) hx hb dX8_count_11 (by decide) ?_
    exact mv_reti Cx hr hH hS (by rw [hno]; rfl) (⟨fun _ => rfl, fun i h => by (rw [hno] at h; cases h)⟩) dX8_count_13 hlocks

set_option maxHeartbeats 4000000 in
set_option maxRecDepth 100000 in
theorem c_X8_write (l : Launch) (E : mEv) (A : Nat → Prop) (hO : mOwn mLM E A) (S : mSt) (x y z : Int32) (ts : List Int8) (hts : nHas 1 400 S ts) (hdd : ∀ i, mtO (mM S 0 0 1 0) x 0 = some i → ∃ dn, (mM S 0 0 1 0).1 34 0 (4 + i) = nI dn ∧ dn ≤ 64) : Met l yX8_write (Cond.code yX8_write cX8_write 8 (some .int) :: mv_ws) (mRm 3 71) (mPc mLM E A S [.ref (mAdM E 0 0), .int x, .int y, .int z]) (mQ mLM E A (fun S' => (mtO (mM S 0 0 1 0) x 0 = none → S' = (mM S 0 0 1 0)) ∧ ∀ i, mtO (mM S 0 0 1 0) x 0 = some i → ((¬ y < 0 ∧ y ≤ (mM S 0 0 1 0).1 34 0 (4 + i) - nI ts.length) → ((mcP (mM S 0 0 1 0) i z 2).1 = 0 → ∀ a, a < 2147483648 ∧ y = nI a → (∀ q, q < ts.length → S'.2.1 33 0 (128 * (4 + i) + a + q) = ts.getD q 0) ∧ S'.1 36 0 (4 + i) = 1 ∧ nSame (fun k j => (k = 33 ∧ 128 * (4 + i) + a ≤ j ∧ j < 128 * (4 + i) + a + ts.length) ∨ (k = 36 ∧ j = 4 + i)) (mcP (mM S 0 0 1 0) i z 2).2 S') ∧ (¬ (mcP (mM S 0 0 1 0) i z 2).1 = 0 → S' = (mcP (mM S 0 0 1 0) i z 2).2)) ∧ (¬ (¬ y < 0 ∧ y ≤ (mM S 0 0 1 0).1 34 0 (4 + i) - nI ts.length) → S' = (mM S 0 0 1 0))) (some (.int ((mtO (mM S 0 0 1 0) x 0).elim (-2) (fun i => if (¬ y < 0 ∧ y ≤ (mM S 0 0 1 0).1 34 0 (4 + i) - nI ts.length) then (mcP (mM S 0 0 1 0) i z 2).1 else -1))))) 0 0 A := by
  refine Met.ofW (cc := cX8_write) (maxL := 8) (ret := (some .int)) (by decide) rfl ?_
  intro p e s m args below meth c s₁ B hml hv
  obtain ⟨rfl, hG, hH⟩ := hv
  have hx := B.exec
  have hb := B.bytes
  have hr := B.returns
  have hlocks := B.notSynchronized
  have Cx : CallFix p m c cX8_write 8 s ([.ref (mAdM E 0 0), .int x, .int y, .int z] : List Value).toArray (Cond.code yX8_write cX8_write 8 (some .int) :: mv_ws) RX8 := ⟨hx, hb, hml, findClass_of_methodNamed B.named, atoms_spec (ws := Cond.code yX8_write cX8_write 8 (some .int) :: mv_ws) B.pre⟩
  have hS : va_S A s.heap s.heap [] := va_S.rf
  have hlen := hts.2.1
  have hl := lv_entry ([.ref (mAdM E 0 0), .int x, .int y, .int z]) (n := 8) (Nat.le_of_ble_eq_true rfl)
  rw [lg_entry_eq]
  generalize (lg_sl ([.ref (mAdM E 0 0), .int x, .int y, .int z]) ++ List.replicate (8 - (lg_sl ([.ref (mAdM E 0 0), .int x, .int y, .int z])).length) Slot.unset).toArray = ls at hl ⊢
  have hl : lv_has ls 8 [(0, .ref (mAdM E 0 0)), (1, .int x), (2, .int y), (3, .int z)] := hl
  refine lv_aload_n hx hb dX8_write_0 rfl (lv_at hl 0 rfl) ?_
  refine g_X8_tapeLength Cx hG hH q_fl_X8_137 dX8_write_1 ?_
  refine mv_eqi (x' := nI ts.length) (hts.1) ?_
  refine lv_istore (lv' := [(4, .int (nI ts.length)), (0, .ref (mAdM E 0 0)), (1, .int x), (2, .int y), (3, .int z)]) hx hb dX8_write_4 hl (by decide) rfl (fun ls hl => ?_)
  refine lv_aload_n hx hb dX8_write_6 rfl (lv_at hl 1 rfl) ?_
  refine lv_iconst (v := 0) hx hb dX8_write_7 (by decide) ?_
  refine p_X8_tapeLength Cx hG hO hH hS q_fl_X8_137 dX8_write_8 (fun H locs hH hS => ?_)
  refine lv_aload_n hx hb dX8_write_11 rfl (lv_at hl 1 rfl) ?_
  refine lv_iload_n hx hb dX8_write_12 rfl (lv_at hl 2 rfl) ?_
  refine lv_iconst (v := 0) hx hb dX8_write_13 (by decide) ?_
  refine mv_callV (Y := mLM) (C := RX8) (k := 0) (i := 0) (rest := []) Cx hG hH hS (c_X8_thing l E A hO (mM S 0 0 1 0) x 0) q_co_X8_thing q_ml_X8_228 q_im_X8_thing q_se_X8_thing q_in_X8 okM_0 rfl rfl hd_X8_thing ⟨Nat.le_of_ble_eq_true rfl, Nat.le_of_ble_eq_true rfl⟩ rfl hl.1 rfl (Nat.le_of_ble_eq_true rfl) ⟨Nat.le_of_ble_eq_true rfl, Nat.le_of_ble_eq_true rfl⟩ dX8_write_14 (fun S14 H locs hP14 hH hS => ?_)
  refine W.eq (g2 := F0 m 17 ls [.int ((mtO (mM S 0 0 1 0) x 0).elim (-1) (fun i => nI (4 + i)))]) rfl ?_
  have hH := mv_S hP14 hH
  refine lv_istore (lv' := [(5, .int ((mtO (mM S 0 0 1 0) x 0).elim (-1) (fun i => nI (4 + i)))), (4, .int (nI ts.length)), (0, .ref (mAdM E 0 0)), (1, .int x), (2, .int y), (3, .int z)]) hx hb dX8_write_17 hl (by decide) rfl (fun ls hl => ?_)
  refine lv_iload hx hb dX8_write_19 (lv_at hl 0 rfl) ?_
  refine lv_if_ge (tgt := 27) hx hb dX8_write_21 (by decide) (fun h21 => ?_) (fun h21 => ?_)
  · skip
    obtain ⟨i, hso⟩ := th_ge h21
    have hi := mtO_lt hso
    have hth : (mtO (mM S 0 0 1 0) x 0).elim (-1) (fun i => nI (4 + i)) = nI (4 + i) := by rw [hso]; rfl
    have hl : lv_has ls 8 [(5, .int (nI (4 + i))), (4, .int (nI ts.length)), (0, .ref (mAdM E 0 0)), (1, .int x), (2, .int y), (3, .int z)] := by rw [← hth]; exact hl
    obtain ⟨dn, hdn, hd64⟩ := hdd i hso
    refine lv_iload_n hx hb dX8_write_27 rfl (lv_at hl 4 rfl) ?_
    refine lv_if_lt (tgt := 45) hx hb dX8_write_28 (by decide) (fun h28 => ?_) (fun h28 => ?_)
    · skip
      have hwo : ¬ (¬ y < 0 ∧ y ≤ (mM S 0 0 1 0).1 34 0 (4 + i) - nI ts.length) := fun q => q.1 h28
      refine lv_iconst (v := (-1 : Int32)) hx hb dX8_write_45 (by decide) ?_
      exact mv_reti Cx hr hH hS (by rw [hso]; show _ = if (¬ y < 0 ∧ y ≤ (mM S 0 0 1 0).1 34 0 (4 + i) - nI ts.length) then (mcP (mM S 0 0 1 0) i z 2).1 else -1; exact (if_neg hwo).symm) (⟨fun h => by (have e := hso.symm.trans h; cases e), fun i' h => by (rw [hso] at h; injection h with h; subst h; exact ⟨fun q => absurd q hwo, fun _ => rfl⟩)⟩) dX8_write_46 hlocks
    · skip
      refine lv_iload_n hx hb dX8_write_31 rfl (lv_at hl 4 rfl) ?_
      refine lv_aload_n hx hb dX8_write_32 rfl (lv_at hl 2 rfl) ?_
      refine g_X8_size Cx hG hH q_fl_X8_85 dX8_write_33 ?_
      refine lv_iload hx hb dX8_write_36 (lv_at hl 0 rfl) ?_
      refine mv_ial Cx hG hH isM_34 (4 + i) (rfl) (by omega) dX8_write_38 ?_
      refine mv_eqi (x' := nI dn) (hdn) ?_
      refine lv_iload hx hb dX8_write_39 (lv_at hl 1 rfl) ?_
      refine lv_isub hx hb dX8_write_41 ?_
      refine lv_icmp_le (tgt := 47) hx hb dX8_write_42 (by decide) (fun h42 => ?_) (fun h42 => ?_)
      · skip
        have hwo : (¬ y < 0 ∧ y ≤ (mM S 0 0 1 0).1 34 0 (4 + i) - nI ts.length) := ⟨h28, by rw [hdn]; exact h42⟩
        obtain ⟨a, hya, had⟩ := sub_le (by omega) (by omega) h28 h42
        have hl : lv_has ls 8 [(5, .int (nI (4 + i))), (4, .int (nI ts.length)), (0, .ref (mAdM E 0 0)), (1, .int x), (2, .int (nI a)), (3, .int z)] := by rw [← hya]; exact hl
        refine lv_aload_n hx hb dX8_write_47 rfl (lv_at hl 2 rfl) ?_
        refine g_X8_isShut Cx hG hH q_fl_X8_94 dX8_write_48 ?_
        refine lv_iload hx hb dX8_write_51 (lv_at hl 0 rfl) ?_
        refine mv_zal Cx hG hH isM_37 (4 + i) (rfl) (by omega) dX8_write_53 ?_
        refine lv_if_eq (tgt := 60) hx hb dX8_write_54 (by decide) (fun h54 => ?_) (fun h54 => ?_)
        · skip
          have hmc : (mcP (mM S 0 0 1 0) i z 2) = (mbP (mM S 0 0 1 0) (4 + i) z 2) := if_pos h54
          refine lv_aload_n hx hb dX8_write_60 rfl (lv_at hl 2 rfl) ?_
          refine lv_iload hx hb dX8_write_61 (lv_at hl 0 rfl) ?_
          refine lv_iload_n hx hb dX8_write_63 rfl (lv_at hl 5 rfl) ?_
          refine lv_iconst (v := 2) hx hb dX8_write_64 (by decide) ?_
          refine mv_callV (Y := mLM) (C := RX8) (k := 0) (i := 0) (rest := []) Cx hG hH hS (c_X8_by l E A hO (mM S 0 0 1 0) (4 + i) (by omega) z 2) q_co_X8_by q_ml_X8_217 q_im_X8_by q_se_X8_by q_in_X8 okM_0 rfl rfl hd_X8_by ⟨Nat.le_of_ble_eq_true rfl, Nat.le_of_ble_eq_true rfl⟩ rfl hl.1 rfl (Nat.le_of_ble_eq_true rfl) ⟨Nat.le_of_ble_eq_true rfl, Nat.le_of_ble_eq_true rfl⟩ dX8_write_65 (fun S65 H locs hP65 hH hS => ?_)
          refine W.eq (g2 := F0 m 68 ls [.int ((mbP (mM S 0 0 1 0) (4 + i) z 2).1)]) rfl ?_
          have hH := mv_S hP65 hH
          refine lv_istore (lv' := [(6, .int ((mbP (mM S 0 0 1 0) (4 + i) z 2).1)), (5, .int (nI (4 + i))), (4, .int (nI ts.length)), (0, .ref (mAdM E 0 0)), (1, .int x), (2, .int (nI a)), (3, .int z)]) hx hb dX8_write_68 hl (by decide) rfl (fun ls hl => ?_)
          refine lv_iload hx hb dX8_write_70 (lv_at hl 0 rfl) ?_
          refine lv_if_ge (tgt := 78) hx hb dX8_write_72 (by decide) (fun h72 => ?_) (fun h72 => ?_)
          · skip
            have h0 := mbP_ge h72
            refine lv_iconst (v := 0) hx hb dX8_write_78 (by decide) ?_
            refine mv_eqi (x' := nI 0) (rfl) ?_
            refine lv_istore (lv' := [(7, .int (nI 0)), (6, .int ((mbP (mM S 0 0 1 0) (4 + i) z 2).1)), (5, .int (nI (4 + i))), (4, .int (nI ts.length)), (0, .ref (mAdM E 0 0)), (1, .int x), (2, .int (nI a)), (3, .int z)]) hx hb dX8_write_79 hl (by decide) rfl (fun ls hl => ?_)
            have lp : ∀ (fu j : Nat) (S1 : mSt) (H : Heap) (locs : List Loc) (ls : Array Slot) , ts.length - j < fu → j ≤ ts.length → ((∀ q, q < j → S1.2.1 33 0 (128 * (4 + i) + a + q) = ts.getD q 0) ∧ nSame (fun k q => k = 33 ∧ 128 * (4 + i) + a ≤ q ∧ q < 128 * (4 + i) + a + ts.length) ((mbP (mM S 0 0 1 0) (4 + i) z 2).2) S1) → mHold mLM E S1 H → va_S A s.heap H locs → lv_has ls 8 [(0, .ref (mAdM E 0 0)), (2, .int (nI a)), (4, .int (nI ts.length)), (5, .int (nI (4 + i))), (7, .int (nI j))] → W p l e (headSpec (Cond.code yX8_write cX8_write 8 (some .int) :: mv_ws) (mRm 3 71)).room s m ([.ref (mAdM E 0 0), .int x, .int y, .int z] : List Value).toArray below meth c H locs 0 0 (MQ below (mQ mLM E A (fun S' => (mtO (mM S 0 0 1 0) x 0 = none → S' = (mM S 0 0 1 0)) ∧ ∀ i, mtO (mM S 0 0 1 0) x 0 = some i → ((¬ y < 0 ∧ y ≤ (mM S 0 0 1 0).1 34 0 (4 + i) - nI ts.length) → ((mcP (mM S 0 0 1 0) i z 2).1 = 0 → ∀ a, a < 2147483648 ∧ y = nI a → (∀ q, q < ts.length → S'.2.1 33 0 (128 * (4 + i) + a + q) = ts.getD q 0) ∧ S'.1 36 0 (4 + i) = 1 ∧ nSame (fun k j => (k = 33 ∧ 128 * (4 + i) + a ≤ j ∧ j < 128 * (4 + i) + a + ts.length) ∨ (k = 36 ∧ j = 4 + i)) (mcP (mM S 0 0 1 0) i z 2).2 S') ∧ (¬ (mcP (mM S 0 0 1 0) i z 2).1 = 0 → S' = (mcP (mM S 0 0 1 0) i z 2).2)) ∧ (¬ (¬ y < 0 ∧ y ≤ (mM S 0 0 1 0).1 34 0 (4 + i) - nI ts.length) → S' = (mM S 0 0 1 0))) (some (.int ((mtO (mM S 0 0 1 0) x 0).elim (-2) (fun i => if (¬ y < 0 ∧ y ≤ (mM S 0 0 1 0).1 34 0 (4 + i) - nI ts.length) then (mcP (mM S 0 0 1 0) i z 2).1 else -1))))) ([.ref (mAdM E 0 0), .int x, .int y, .int z] : List Value).toArray s 0 0 A) (F0 m 81 ls []) := by
              intro fu
              induction fu with
              | zero => intro j S1 H locs ls  hn hj hinv hH hS hl; omega
              | succ fu ih =>
                intro j S1 H locs ls  hn hj hinv hH hS hl
                refine lv_iload hx hb dX8_write_81 (lv_at hl 4 rfl) ?_
                refine lv_iload hx hb dX8_write_83 (lv_at hl 2 rfl) ?_
                refine lv_icmp_ge (tgt := 117) hx hb dX8_write_85 (by decide) (fun h85 => ?_) (fun h85 => ?_)
                · skip
                  have hje : j = ts.length := by have := ge_of (a := ts.length) (b := j) (by omega) (by omega) h85; omega
                  rw [hje] at hinv
                  refine lv_aload_n hx hb dX8_write_117 rfl (lv_at hl 0 rfl) ?_
                  refine g_X8_written Cx hG hH q_fl_X8_91 dX8_write_118 ?_
                  refine lv_iload hx hb dX8_write_121 (lv_at hl 3 rfl) ?_
                  refine lv_iconst (v := 1) hx hb dX8_write_123 (by decide) ?_
                  refine mv_zas Cx hG hO hH hS isM_36 (4 + i) (Or.inr rfl) (rfl) (by omega) dX8_write_124 (fun H locs hH hS => ?_)
                  refine lv_iconst (v := 0) hx hb dX8_write_125 (by decide) ?_
                  exact mv_reti Cx hr hH hS (by rw [hso]; show _ = if (¬ y < 0 ∧ y ≤ (mM S 0 0 1 0).1 34 0 (4 + i) - nI ts.length) then (mcP (mM S 0 0 1 0) i z 2).1 else -1; rw [if_pos hwo, hmc]; exact h0.symm) (⟨fun h => by (have e := hso.symm.trans h; cases e), fun i' h => by (rw [hso] at h; injection h with h; subst h; exact ⟨fun _ => by rw [hmc]; exact ⟨fun _ => fun a' ea => by (obtain ⟨ea1, ea2⟩ := ea); (obtain rfl : a = a' := (nI_eq (by omega) (by omega)).mp (hya.symm.trans ea2)); exact ⟨hinv.1, by simp [mM, m3], (hinv.2.wk (fun k j h => Or.inl h)).tr (nSame.M (Or.inr ⟨rfl, rfl⟩))⟩, fun q => absurd h0 q⟩, fun q => absurd hwo q⟩)⟩) dX8_write_126 hlocks
                · skip
                  have hje : j < ts.length := by have := lt_of (a := ts.length) (b := j) (by omega) (by omega) h85; omega
                  refine lv_aload_n hx hb dX8_write_88 rfl (lv_at hl 0 rfl) ?_
                  refine g_X8_data Cx hG hH q_fl_X8_82 dX8_write_89 ?_
                  refine lv_sipush (v := 128) hx hb dX8_write_92 (by decide) ?_
                  refine lv_iload hx hb dX8_write_95 (lv_at hl 3 rfl) ?_
                  refine lv_imul hx hb dX8_write_97 ?_
                  refine mv_eqi (x' := nI (128 * (4 + i))) (pk_mul 128 (4 + i)) ?_
                  refine lv_iload_n hx hb dX8_write_98 rfl (lv_at hl 1 rfl) ?_
                  refine lv_iadd hx hb dX8_write_99 ?_
                  refine mv_eqi (x' := nI (128 * (4 + i) + a)) (nI_add _ _) ?_
                  refine lv_iload hx hb dX8_write_100 (lv_at hl 4 rfl) ?_
                  refine lv_iadd hx hb dX8_write_102 ?_
                  refine mv_eqi (x' := nI (128 * (4 + i) + a + j)) (nI_add _ _) ?_
                  refine lv_aload_n hx hb dX8_write_103 rfl (lv_at hl 0 rfl) ?_
                  refine g_X8_tape Cx hG hH q_fl_X8_9 dX8_write_104 ?_
                  refine lv_iload hx hb dX8_write_107 (lv_at hl 4 rfl) ?_
                  refine mv_bal Cx hG hH isM_1 j (rfl) (by omega) dX8_write_109 ?_
                  refine mv_bas8 Cx hG hO hH hS isM_33 (128 * (4 + i) + a + j) (S1.2.1 1 0 j) rfl (rfl) (by omega) dX8_write_110 (fun H locs hH hS => ?_)
                  refine lv_iinc (v := nI (j + 1)) (lv' := [(7, .int (nI (j + 1))), (0, .ref (mAdM E 0 0)), (2, .int (nI a)), (4, .int (nI ts.length)), (5, .int (nI (4 + i)))]) hx hb dX8_write_111 hl (k := 4) rfl (i2_1 j) (by decide) rfl (fun ls hl => ?_)
                  refine lv_goto (tgt := 81) hx hb dX8_write_114 (by decide) ?_
                  exact ih (j + 1) (mB S1 33 0 (128 * (4 + i) + a + j) (S1.2.1 1 0 j)) _ _ ls  (by omega) (by omega) (⟨fun q hq => by by_cases e : q = j; (subst e; exact (show m3 S1.2.1 33 0 (128 * (4 + i) + a + q) _ 33 0 (128 * (4 + i) + a + q) = _ by simp [m3]).trans ((hinv.2 1 q (by omega)).2.1.trans ((mbP_same (mM S 0 0 1 0) (4 + i) z 2 1 q (by simp)).2.1.trans (hts.2.2 q (by omega))))); (exact (show m3 S1.2.1 33 0 (128 * (4 + i) + a + j) _ 33 0 (128 * (4 + i) + a + q) = _ from m3_n _ _ (by omega)).trans (hinv.1 q (by omega))), hinv.2.tr (nSame.B (X := (fun k q => k = 33 ∧ 128 * (4 + i) + a ≤ q ∧ q < 128 * (4 + i) + a + ts.length)) ⟨rfl, by omega, by omega⟩)⟩) hH hS (lv_sub hl [1, 2, 3, 4, 0] rfl)
            exact lp (ts.length - 0 + 1) 0 ((mbP (mM S 0 0 1 0) (4 + i) z 2).2) _ _ ls  (by omega) (by omega) (⟨fun q h => absurd h (Nat.not_lt_zero _), nSame.rf⟩) hH hS (lv_sub hl [4, 6, 3, 2, 0] rfl)
          · skip
            have h0 := mbP_ne h72
            refine lv_iload hx hb dX8_write_75 (lv_at hl 0 rfl) ?_
            exact mv_reti Cx hr hH hS (by rw [hso]; show _ = if (¬ y < 0 ∧ y ≤ (mM S 0 0 1 0).1 34 0 (4 + i) - nI ts.length) then (mcP (mM S 0 0 1 0) i z 2).1 else -1; rw [if_pos hwo, hmc]) (⟨fun h => by (have e := hso.symm.trans h; cases e), fun i' h => by (rw [hso] at h; injection h with h; subst h; exact ⟨fun _ => by rw [hmc]; exact ⟨fun q => absurd q h0, fun _ => rfl⟩, fun q => absurd hwo q⟩)⟩) dX8_write_77 hlocks
        · skip
          have hmc : (mcP (mM S 0 0 1 0) i z 2) = (-3, (mM S 0 0 1 0)) := if_neg h54
          refine lv_bipush (v := (-3 : Int32)) hx hb dX8_write_57 (by decide) ?_
          exact mv_reti Cx hr hH hS (by rw [hso]; show _ = if (¬ y < 0 ∧ y ≤ (mM S 0 0 1 0).1 34 0 (4 + i) - nI ts.length) then (mcP (mM S 0 0 1 0) i z 2).1 else -1; rw [if_pos hwo, hmc]) (⟨fun h => by (have e := hso.symm.trans h; cases e), fun i' h => by (rw [hso] at h; injection h with h; subst h; exact ⟨fun _ => by rw [hmc]; exact ⟨fun q => absurd q (show ¬ (-3 : Int32) = 0 by decide), fun _ => rfl⟩, fun q => absurd hwo q⟩)⟩) dX8_write_59 hlocks
      · skip
        have hwo : ¬ (¬ y < 0 ∧ y ≤ (mM S 0 0 1 0).1 34 0 (4 + i) - nI ts.length) := fun q => h42 (by rw [← hdn]; exact q.2)
        refine lv_iconst (v := (-1 : Int32)) hx hb dX8_write_45 (by decide) ?_
        exact mv_reti Cx hr hH hS (by rw [hso]; show _ = if (¬ y < 0 ∧ y ≤ (mM S 0 0 1 0).1 34 0 (4 + i) - nI ts.length) then (mcP (mM S 0 0 1 0) i z 2).1 else -1; exact (if_neg hwo).symm) (⟨fun h => by (have e := hso.symm.trans h; cases e), fun i' h => by (rw [hso] at h; injection h with h; subst h; exact ⟨fun q => absurd q hwo, fun _ => rfl⟩)⟩) dX8_write_46 hlocks
  · skip
    have hno := th_lt h21
    refine lv_bipush (v := (-2 : Int32)) hx hb dX8_write_24 (by decide) ?_
    exact mv_reti Cx hr hH hS (by rw [hno]; rfl) (⟨fun _ => rfl, fun i h => by (rw [hno] at h; cases h)⟩) dX8_write_26 hlocks

set_option maxHeartbeats 4000000 in
set_option maxRecDepth 100000 in
theorem c_X8_policyOr (l : Launch) (E : mEv) (A : Nat → Prop) (hO : mOwn mLM E A) (S : mSt) (x : Int32) (ts : List Int8) (hts : nHas 1 400 S ts) : Met l yX8_policyOr (Cond.code yX8_policyOr cX8_policyOr 5 (some .int) :: mv_ws) (mRm 3 90) (mPc mLM E A S [.ref (mAdM E 0 0), .int x]) (mQ mLM E A (fun S' => (msO (mM S 0 0 1 0) x = none → S' = (mM S 0 0 1 0)) ∧ ∀ i, msO (mM S 0 0 1 0) x = some i → ((orOk ts ∧ orB (fun q => S.2.1 23 0 (32 * i + q)) (S.2.1 1 0) (ts.length / 32) = true) → (∀ j, j < 32 → S'.2.1 23 0 (32 * i + j) = shaL (mTk (fun _ => (0 : Int32).toInt8) 32 ++ [(5 : Int32).toInt8] ++ ts) j) ∧ nSame (fun k j => scM k j ∨ (k = 23 ∧ 32 * i ≤ j ∧ j < 32 * i + 32)) (mM S 0 0 1 0) S') ∧ (¬ (orOk ts ∧ orB (fun q => S.2.1 23 0 (32 * i + q)) (S.2.1 1 0) (ts.length / 32) = true) → S' = (mM S 0 0 1 0))) (some (.int ((msO (mM S 0 0 1 0) x).elim (-1) (fun i => if orOk ts then (if orB (fun q => S.2.1 23 0 (32 * i + q)) (S.2.1 1 0) (ts.length / 32) = true then 0 else -7) else -1))))) 0 0 A := by
  refine Met.ofW (cc := cX8_policyOr) (maxL := 5) (ret := (some .int)) (by decide) rfl ?_
  intro p e s m args below meth c s₁ B hml hv
  obtain ⟨rfl, hG, hH⟩ := hv
  have hx := B.exec
  have hb := B.bytes
  have hr := B.returns
  have hlocks := B.notSynchronized
  have Cx : CallFix p m c cX8_policyOr 5 s ([.ref (mAdM E 0 0), .int x] : List Value).toArray (Cond.code yX8_policyOr cX8_policyOr 5 (some .int) :: mv_ws) RX8 := ⟨hx, hb, hml, findClass_of_methodNamed B.named, atoms_spec (ws := Cond.code yX8_policyOr cX8_policyOr 5 (some .int) :: mv_ws) B.pre⟩
  have hS : va_S A s.heap s.heap [] := va_S.rf
  have hlen := hts.2.1
  have hl := lv_entry ([.ref (mAdM E 0 0), .int x]) (n := 5) (Nat.le_of_ble_eq_true rfl)
  rw [lg_entry_eq]
  generalize (lg_sl ([.ref (mAdM E 0 0), .int x]) ++ List.replicate (5 - (lg_sl ([.ref (mAdM E 0 0), .int x])).length) Slot.unset).toArray = ls at hl ⊢
  have hl : lv_has ls 5 [(0, .ref (mAdM E 0 0)), (1, .int x)] := hl
  refine lv_aload_n hx hb dX8_policyOr_0 rfl (lv_at hl 0 rfl) ?_
  refine g_X8_tapeLength Cx hG hH q_fl_X8_137 dX8_policyOr_1 ?_
  refine mv_eqi (x' := nI ts.length) (hts.1) ?_
  refine lv_istore_n (lv' := [(2, .int (nI ts.length)), (0, .ref (mAdM E 0 0)), (1, .int x)]) hx hb dX8_policyOr_4 rfl hl (by decide) rfl (fun ls hl => ?_)
  refine lv_aload_n hx hb dX8_policyOr_5 rfl (lv_at hl 1 rfl) ?_
  refine lv_iconst (v := 0) hx hb dX8_policyOr_6 (by decide) ?_
  refine p_X8_tapeLength Cx hG hO hH hS q_fl_X8_137 dX8_policyOr_7 (fun H locs hH hS => ?_)
  refine lv_aload_n hx hb dX8_policyOr_10 rfl (lv_at hl 1 rfl) ?_
  refine lv_iload_n hx hb dX8_policyOr_11 rfl (lv_at hl 2 rfl) ?_
  refine mv_callV (Y := mLM) (C := RX8) (k := 0) (i := 0) (rest := []) Cx hG hH hS (c_X8_opened l E A hO (mM S 0 0 1 0) x) q_co_X8_opened q_ml_X8_182 q_im_X8_opened q_se_X8_opened q_in_X8 okM_0 rfl rfl hd_X8_opened ⟨Nat.le_of_ble_eq_true rfl, Nat.le_of_ble_eq_true rfl⟩ rfl hl.1 rfl (Nat.le_of_ble_eq_true rfl) ⟨Nat.le_of_ble_eq_true rfl, Nat.le_of_ble_eq_true rfl⟩ dX8_policyOr_12 (fun S12 H locs hP12 hH hS => ?_)
  refine W.eq (g2 := F0 m 15 ls [.int (if (msO (mM S 0 0 1 0) x).isSome = true then 1 else 0)]) rfl ?_
  have hH := mv_S hP12 hH
  refine lv_if_eq (tgt := 38) hx hb dX8_policyOr_15 (by decide) (fun h15 => ?_) (fun h15 => ?_)
  · skip
    have hno : msO (mM S 0 0 1 0) x = none := Option.not_isSome_iff_eq_none.mp (b0_of h15)
    refine lv_iconst (v := (-1 : Int32)) hx hb dX8_policyOr_38 (by decide) ?_
    exact mv_reti Cx hr hH hS (by rw [hno]; rfl) (⟨fun _ => rfl, fun i h => by (rw [hno] at h; cases h)⟩) dX8_policyOr_39 hlocks
  · skip
    obtain ⟨i, hso⟩ := Option.isSome_iff_exists.mp (b1_of h15)
    obtain ⟨hxi, hi, hop⟩ := opO_some (by decide) hso
    have hl : lv_has ls 5 [(2, .int (nI ts.length)), (0, .ref (mAdM E 0 0)), (1, .int (nI i))] := by rw [← hxi]; exact hl
    refine lv_iload_n hx hb dX8_policyOr_18 rfl (lv_at hl 0 rfl) ?_
    refine lv_bipush (v := 32) hx hb dX8_policyOr_19 (by decide) ?_
    refine lv_irem hx hb dX8_policyOr_21 (by decide) ?_
    refine mv_eqi (x' := nI (ts.length % 32)) (pk_rem (a := ts.length) (d := 32) (by omega) (by decide) (by decide)) ?_
    refine lv_if_ne (tgt := 38) hx hb dX8_policyOr_22 (by decide) (fun h22 => ?_) (fun h22 => ?_)
    · skip
      have hok : ¬ orOk ts := fun q => h22 (by rw [q.1]; rfl)
      refine lv_iconst (v := (-1 : Int32)) hx hb dX8_policyOr_38 (by decide) ?_
      exact mv_reti Cx hr hH hS (by rw [hso]; show _ = if orOk ts then (if orB (fun q => S.2.1 23 0 (32 * i + q)) (S.2.1 1 0) (ts.length / 32) = true then 0 else -7) else -1; exact (if_neg hok).symm) (⟨fun h => by (have e := hso.symm.trans h; cases e), fun i' h => by (rw [hso] at h; injection h with h; subst h; exact ⟨fun q => absurd q.1 hok, fun _ => rfl⟩)⟩) dX8_policyOr_39 hlocks
    · skip
      refine lv_iload_n hx hb dX8_policyOr_25 rfl (lv_at hl 0 rfl) ?_
      refine lv_bipush (v := 64) hx hb dX8_policyOr_26 (by decide) ?_
      refine lv_icmp_lt (tgt := 38) hx hb dX8_policyOr_28 (by decide) (fun h28 => ?_) (fun h28 => ?_)
      · skip
        have hok : ¬ orOk ts := fun q => by have h1 := (nI_ltI (b := 64) (by omega) (by decide)).mp h28; have h2 := q.2.1; omega
        refine lv_iconst (v := (-1 : Int32)) hx hb dX8_policyOr_38 (by decide) ?_
        exact mv_reti Cx hr hH hS (by rw [hso]; show _ = if orOk ts then (if orB (fun q => S.2.1 23 0 (32 * i + q)) (S.2.1 1 0) (ts.length / 32) = true then 0 else -7) else -1; exact (if_neg hok).symm) (⟨fun h => by (have e := hso.symm.trans h; cases e), fun i' h => by (rw [hso] at h; injection h with h; subst h; exact ⟨fun q => absurd q.1 hok, fun _ => rfl⟩)⟩) dX8_policyOr_39 hlocks
      · skip
        refine lv_iload_n hx hb dX8_policyOr_31 rfl (lv_at hl 0 rfl) ?_
        refine lv_sipush (v := 256) hx hb dX8_policyOr_32 (by decide) ?_
        refine lv_icmp_le (tgt := 40) hx hb dX8_policyOr_35 (by decide) (fun h35 => ?_) (fun h35 => ?_)
        · skip
          have hok : orOk ts := ⟨nI_eq0 (by omega) h22, by have h1 : ¬ ts.length < 64 := fun q => h28 ((nI_ltI (b := 64) (by omega) (by decide)).mpr q); omega, by have h1 := (nI_leI (b := 256) (by omega) (by decide)).mp h35; omega⟩
          have hm := hok.1
          refine lv_iconst (v := 0) hx hb dX8_policyOr_40 (by decide) ?_
          refine lv_istore_n (lv' := [(3, .int 0), (2, .int (nI ts.length)), (0, .ref (mAdM E 0 0)), (1, .int (nI i))]) hx hb dX8_policyOr_41 rfl hl (by decide) rfl (fun ls hl => ?_)
          refine lv_iconst (v := 0) hx hb dX8_policyOr_42 (by decide) ?_
          refine mv_eqi (x' := nI (32 * 0)) (rfl) ?_
          refine lv_istore (lv' := [(4, .int (nI (32 * 0))), (3, .int 0), (2, .int (nI ts.length)), (0, .ref (mAdM E 0 0)), (1, .int (nI i))]) hx hb dX8_policyOr_43 hl (by decide) rfl (fun ls hl => ?_)
          have lp : ∀ (fu b : Nat) (S1 : mSt) (H : Heap) (locs : List Loc) (ls : Array Slot) (z : Int32), (ts.length / 32) - b < fu → b ≤ (ts.length / 32) → (S1 = (mM S 0 0 1 0) ∧ (z = 0 ∨ z = 1) ∧ (z = 1 ↔ orB (fun q => S.2.1 23 0 (32 * i + q)) (S.2.1 1 0) b = true)) → mHold mLM E S1 H → va_S A s.heap H locs → lv_has ls 5 [(0, .ref (mAdM E 0 0)), (1, .int (nI i)), (2, .int (nI ts.length)), (3, .int z), (4, .int (nI (32 * b)))] → W p l e (headSpec (Cond.code yX8_policyOr cX8_policyOr 5 (some .int) :: mv_ws) (mRm 3 90)).room s m ([.ref (mAdM E 0 0), .int x] : List Value).toArray below meth c H locs 0 0 (MQ below (mQ mLM E A (fun S' => (msO (mM S 0 0 1 0) x = none → S' = (mM S 0 0 1 0)) ∧ ∀ i, msO (mM S 0 0 1 0) x = some i → ((orOk ts ∧ orB (fun q => S.2.1 23 0 (32 * i + q)) (S.2.1 1 0) (ts.length / 32) = true) → (∀ j, j < 32 → S'.2.1 23 0 (32 * i + j) = shaL (mTk (fun _ => (0 : Int32).toInt8) 32 ++ [(5 : Int32).toInt8] ++ ts) j) ∧ nSame (fun k j => scM k j ∨ (k = 23 ∧ 32 * i ≤ j ∧ j < 32 * i + 32)) (mM S 0 0 1 0) S') ∧ (¬ (orOk ts ∧ orB (fun q => S.2.1 23 0 (32 * i + q)) (S.2.1 1 0) (ts.length / 32) = true) → S' = (mM S 0 0 1 0))) (some (.int ((msO (mM S 0 0 1 0) x).elim (-1) (fun i => if orOk ts then (if orB (fun q => S.2.1 23 0 (32 * i + q)) (S.2.1 1 0) (ts.length / 32) = true then 0 else -7) else -1))))) ([.ref (mAdM E 0 0), .int x] : List Value).toArray s 0 0 A) (F0 m 45 ls []) := by
            intro fu
            induction fu with
            | zero => intro b S1 H locs ls z hn hj hinv hH hS hl; omega
            | succ fu ih =>
              intro b S1 H locs ls z hn hj hinv hH hS hl
              have hH := mv_S hinv.1 hH
              refine lv_iload hx hb dX8_policyOr_45 (lv_at hl 4 rfl) ?_
              refine lv_iload_n hx hb dX8_policyOr_47 rfl (lv_at hl 2 rfl) ?_
              refine lv_icmp_ge (tgt := 87) hx hb dX8_policyOr_48 (by decide) (fun h48 => ?_) (fun h48 => ?_)
              · skip
                have hbe : b = ts.length / 32 := by have := ge_of (a := ts.length) (b := 32 * b) (by omega) (by omega) h48; omega
                rw [hbe] at hinv
                refine lv_iload_n hx hb dX8_policyOr_87 rfl (lv_at hl 3 rfl) ?_
                refine lv_if_ne (tgt := 94) hx hb dX8_policyOr_88 (by decide) (fun h88 => ?_) (fun h88 => ?_)
                · skip
                  have hor : orB (fun q => S.2.1 23 0 (32 * i + q)) (S.2.1 1 0) (ts.length / 32) = true := hinv.2.2.mp (hinv.2.1.resolve_left h88)
                  refine lv_aload_n hx hb dX8_policyOr_94 rfl (lv_at hl 0 rfl) ?_
                  refine lv_iconst (v := 0) hx hb dX8_policyOr_95 (by decide) ?_
                  refine p_X8_rowCount Cx hG hO hH hS q_fl_X8_100 dX8_policyOr_96 (fun H locs hH hS => ?_)
                  refine lv_iconst (v := 0) hx hb dX8_policyOr_99 (by decide) ?_
                  refine mv_eqi (x' := nI 0) (rfl) ?_
                  refine lv_istore (lv' := [(4, .int (nI 0)), (0, .ref (mAdM E 0 0)), (1, .int (nI i)), (2, .int (nI ts.length)), (3, .int z)]) hx hb dX8_policyOr_100 hl (by decide) rfl (fun ls hl => ?_)
                  have lp2 : ∀ (fu u : Nat) (S2 : mSt) (H : Heap) (locs : List Loc) (ls : Array Slot) , 32 - u < fu → u ≤ 32 → (nHas 5 1024 S2 (mTk (fun _ => (0 : Int32).toInt8) u) ∧ nSame (nX 5) (mM S 0 0 1 0) S2) → mHold mLM E S2 H → va_S A s.heap H locs → lv_has ls 5 [(0, .ref (mAdM E 0 0)), (1, .int (nI i)), (2, .int (nI ts.length)), (4, .int (nI u))] → W p l e (headSpec (Cond.code yX8_policyOr cX8_policyOr 5 (some .int) :: mv_ws) (mRm 3 90)).room s m ([.ref (mAdM E 0 0), .int x] : List Value).toArray below meth c H locs 0 0 (MQ below (mQ mLM E A (fun S' => (msO (mM S 0 0 1 0) x = none → S' = (mM S 0 0 1 0)) ∧ ∀ i, msO (mM S 0 0 1 0) x = some i → ((orOk ts ∧ orB (fun q => S.2.1 23 0 (32 * i + q)) (S.2.1 1 0) (ts.length / 32) = true) → (∀ j, j < 32 → S'.2.1 23 0 (32 * i + j) = shaL (mTk (fun _ => (0 : Int32).toInt8) 32 ++ [(5 : Int32).toInt8] ++ ts) j) ∧ nSame (fun k j => scM k j ∨ (k = 23 ∧ 32 * i ≤ j ∧ j < 32 * i + 32)) (mM S 0 0 1 0) S') ∧ (¬ (orOk ts ∧ orB (fun q => S.2.1 23 0 (32 * i + q)) (S.2.1 1 0) (ts.length / 32) = true) → S' = (mM S 0 0 1 0))) (some (.int ((msO (mM S 0 0 1 0) x).elim (-1) (fun i => if orOk ts then (if orB (fun q => S.2.1 23 0 (32 * i + q)) (S.2.1 1 0) (ts.length / 32) = true then 0 else -7) else -1))))) ([.ref (mAdM E 0 0), .int x] : List Value).toArray s 0 0 A) (F0 m 102 ls []) := by
                    intro fu
                    induction fu with
                    | zero => intro u S2 H locs ls  hn2 hu hin2 hH hS hl; omega
                    | succ fu ih2 =>
                      intro u S2 H locs ls  hn2 hu hin2 hH hS hl
                      refine lv_iload hx hb dX8_policyOr_102 (lv_at hl 3 rfl) ?_
                      refine lv_bipush (v := 32) hx hb dX8_policyOr_104 (by decide) ?_
                      refine lv_icmp_ge (tgt := 120) hx hb dX8_policyOr_106 (by decide) (fun h106 => ?_) (fun h106 => ?_)
                      · skip
                        have hue : u = 32 := by have := ge_of (a := 32) (b := u) (by omega) (by omega) h106; omega
                        rw [hue] at hin2
                        refine lv_aload_n hx hb dX8_policyOr_120 rfl (lv_at hl 0 rfl) ?_
                        refine lv_iconst (v := 5) hx hb dX8_policyOr_121 (by decide) ?_
                        refine mv_callV (Y := mLM) (C := RX8) (k := 0) (i := 0) (rest := []) Cx hG hH hS (c_X8_add l E A hO S2 _ hin2.1 5 (by rw [mTk_len]; decide)) q_co_X8_add q_ml_X8_104 q_im_X8_add q_se_X8_add q_in_X8 okM_0 rfl rfl hd_X8_add ⟨Nat.le_of_ble_eq_true rfl, Nat.le_of_ble_eq_true rfl⟩ rfl hl.1 rfl (Nat.le_of_ble_eq_true rfl) ⟨Nat.le_of_ble_eq_true rfl, Nat.le_of_ble_eq_true rfl⟩ dX8_policyOr_122 (fun S122 H locs hP122 hH hS => ?_)
                        refine W.eq (g2 := F0 m 125 ls []) rfl ?_
                        refine lv_aload_n hx hb dX8_policyOr_125 rfl (lv_at hl 0 rfl) ?_
                        refine lv_aload_n hx hb dX8_policyOr_126 rfl (lv_at hl 0 rfl) ?_
                        refine g_X8_tape Cx hG hH q_fl_X8_9 dX8_policyOr_127 ?_
                        refine lv_iconst (v := 0) hx hb dX8_policyOr_130 (by decide) ?_
                        refine mv_eqi (x' := nI 0) (rfl) ?_
                        refine lv_iload_n hx hb dX8_policyOr_131 rfl (lv_at hl 2 rfl) ?_
                        refine mv_callV (Y := mLM) (C := RX8) (k := 0) (i := 0) (rest := []) Cx hG hH hS (c_X8_add_ l E A hO S122 1 400 isM_1 (by decide) 0 ts.length (by omega) _ hP122.1 (by simp [mTk_len]; omega)) q_co_X8_add_ q_ml_X8_134 q_im_X8_add_ q_se_X8_add_ q_in_X8 okM_0 rfl rfl hd_X8_add_ ⟨Nat.le_of_ble_eq_true rfl, Nat.le_of_ble_eq_true rfl⟩ rfl hl.1 rfl (Nat.le_of_ble_eq_true rfl) ⟨Nat.le_of_ble_eq_true rfl, Nat.le_of_ble_eq_true rfl⟩ dX8_policyOr_132 (fun S132 H locs hP132 hH hS => ?_)
                        refine W.eq (g2 := F0 m 135 ls []) rfl ?_
                        have hr5 : nHas 5 1024 S132 (mTk (fun _ => (0 : Int32).toInt8) 32 ++ [(5 : Int32).toInt8] ++ ts) := by have h := hP132.1; rwa [show mTk (fun q => S122.2.1 1 0 (0 + q)) ts.length = ts from mTk_list (fun j hj => by rw [Nat.zero_add]; exact (hP122.2 1 j (by simp only [scM, nX, hX, seM]; omega)).2.1.trans ((hin2.2 1 j (by simp only [scM, nX, hX, seM]; omega)).2.1.trans (hts.2.2 j hj)))] at h
                        refine lv_aload_n hx hb dX8_policyOr_135 rfl (lv_at hl 0 rfl) ?_
                        refine lv_aload_n hx hb dX8_policyOr_136 rfl (lv_at hl 0 rfl) ?_
                        refine g_X8_digest Cx hG hH q_fl_X8_51 dX8_policyOr_137 ?_
                        refine lv_bipush (v := 32) hx hb dX8_policyOr_140 (by decide) ?_
                        refine lv_iload_n hx hb dX8_policyOr_142 rfl (lv_at hl 1 rfl) ?_
                        refine lv_imul hx hb dX8_policyOr_143 ?_
                        refine mv_eqi (x' := nI (32 * i)) (pk_mul 32 i) ?_
                        refine mv_callV (Y := mLM) (C := RX8) (k := 0) (i := 0) (rest := []) Cx hG hH hS (c_X8_hashTo l E A hO S132 23 128 isM_23 (by decide) (32 * i) (by omega) _ hr5 (by simp [mTk_len]; omega)) q_co_X8_hashTo q_ml_X8_111 q_im_X8_hashTo q_se_X8_hashTo q_in_X8 okM_0 rfl rfl hd_X8_hashTo ⟨Nat.le_of_ble_eq_true rfl, Nat.le_of_ble_eq_true rfl⟩ rfl hl.1 rfl (Nat.le_of_ble_eq_true rfl) ⟨Nat.le_of_ble_eq_true rfl, Nat.le_of_ble_eq_true rfl⟩ dX8_policyOr_144 (fun S144 H locs hP144 hH hS => ?_)
                        refine W.eq (g2 := F0 m 147 ls []) rfl ?_
                        refine lv_iconst (v := 0) hx hb dX8_policyOr_147 (by decide) ?_
                        exact mv_reti Cx hr hH hS (by rw [hso]; show _ = if orOk ts then (if orB (fun q => S.2.1 23 0 (32 * i + q)) (S.2.1 1 0) (ts.length / 32) = true then 0 else -7) else -1; rw [if_pos hok, if_pos hor]) (⟨fun h => by (have e := hso.symm.trans h; cases e), fun i' h => by (rw [hso] at h; injection h with h; subst h; exact ⟨fun _ => ⟨hP144.1, (((hin2.2.wk (fun k j h => by simp only [scM, nX, hX, seM] at h ⊢; omega)).tr (hP122.2.wk (fun k j h => by simp only [scM, nX, hX, seM] at h ⊢; omega))).tr (hP132.2.wk (fun k j h => by simp only [scM, nX, hX, seM] at h ⊢; omega))).tr (hP144.2.wk (fun k j h => by simp only [scM, nX, hX, seM] at h ⊢; omega))⟩, fun q => absurd ⟨hok, hor⟩ q⟩)⟩) dX8_policyOr_148 hlocks
                      · skip
                        have hue : u < 32 := by have := lt_of (a := 32) (b := u) (by omega) (by omega) h106; omega
                        refine lv_aload_n hx hb dX8_policyOr_109 rfl (lv_at hl 0 rfl) ?_
                        refine lv_iconst (v := 0) hx hb dX8_policyOr_110 (by decide) ?_
                        refine mv_callV (Y := mLM) (C := RX8) (k := 0) (i := 0) (rest := []) Cx hG hH hS (c_X8_add l E A hO S2 _ hin2.1 0 (by rw [mTk_len]; omega)) q_co_X8_add q_ml_X8_104 q_im_X8_add q_se_X8_add q_in_X8 okM_0 rfl rfl hd_X8_add ⟨Nat.le_of_ble_eq_true rfl, Nat.le_of_ble_eq_true rfl⟩ rfl hl.1 rfl (Nat.le_of_ble_eq_true rfl) ⟨Nat.le_of_ble_eq_true rfl, Nat.le_of_ble_eq_true rfl⟩ dX8_policyOr_111 (fun S111 H locs hP111 hH hS => ?_)
                        refine W.eq (g2 := F0 m 114 ls []) rfl ?_
                        refine lv_iinc (v := nI (u + 1)) (lv' := [(4, .int (nI (u + 1))), (0, .ref (mAdM E 0 0)), (1, .int (nI i)), (2, .int (nI ts.length))]) hx hb dX8_policyOr_114 hl (k := 3) rfl (i2_1 u) (by decide) rfl (fun ls hl => ?_)
                        refine lv_goto (tgt := 102) hx hb dX8_policyOr_117 (by decide) ?_
                        exact ih2 (u + 1) S111 _ _ ls  (by omega) (by omega) (⟨by rw [mTk_succ]; exact hP111.1, hin2.2.tr hP111.2⟩) hH hS (lv_sub hl [1, 2, 3, 0] rfl)
                  exact lp2 (32 - 0 + 1) 0 (mM (mM S 0 0 1 0) 0 0 5 0) _ _ ls  (by omega) (by omega) (⟨nHas.nil, nSame.M (Or.inl ⟨rfl, rfl⟩)⟩) hH hS (lv_sub hl [1, 2, 3, 0] rfl)
                · skip
                  have hor : ¬ orB (fun q => S.2.1 23 0 (32 * i + q)) (S.2.1 1 0) (ts.length / 32) = true := fun q => absurd ((hinv.2.2.mpr q).symm.trans h88) (by decide)
                  refine lv_bipush (v := (-7 : Int32)) hx hb dX8_policyOr_91 (by decide) ?_
                  exact mv_reti Cx hr hH hS (by rw [hso]; show _ = if orOk ts then (if orB (fun q => S.2.1 23 0 (32 * i + q)) (S.2.1 1 0) (ts.length / 32) = true then 0 else -7) else -1; rw [if_pos hok, if_neg hor]) (⟨fun h => by (have e := hso.symm.trans h; cases e), fun i' h => by (rw [hso] at h; injection h with h; subst h; exact ⟨fun q => absurd q.2 hor, fun _ => rfl⟩)⟩) dX8_policyOr_93 hlocks
              · skip
                have hbe : b < ts.length / 32 := by have := lt_of (a := ts.length) (b := 32 * b) (by omega) (by omega) h48; omega
                refine lv_iload_n hx hb dX8_policyOr_51 rfl (lv_at hl 3 rfl) ?_
                refine lv_if_ne (tgt := 75) hx hb dX8_policyOr_52 (by decide) (fun h52 => ?_) (fun h52 => ?_)
                · skip
                  refine lv_iconst (v := 1) hx hb dX8_policyOr_75 (by decide) ?_
                  refine lv_goto (tgt := 80) hx hb dX8_policyOr_76 (by decide) ?_
                  refine lv_istore_n (lv' := [(3, .int 1), (0, .ref (mAdM E 0 0)), (1, .int (nI i)), (2, .int (nI ts.length)), (4, .int (nI (32 * b)))]) hx hb dX8_policyOr_80 rfl hl (by decide) rfl (fun ls hl => ?_)
                  refine lv_iinc (v := nI (32 * (b + 1))) (lv' := [(4, .int (nI (32 * (b + 1)))), (3, .int 1), (0, .ref (mAdM E 0 0)), (1, .int (nI i)), (2, .int (nI ts.length))]) hx hb dX8_policyOr_81 hl (k := 4) rfl (nI_add (32 * b) 32) (by decide) rfl (fun ls hl => ?_)
                  refine lv_goto (tgt := 45) hx hb dX8_policyOr_84 (by decide) ?_
                  exact ih (b + 1) (mM S 0 0 1 0) _ _ ls 1 (by omega) (by omega) (⟨rfl, Or.inr rfl, ⟨fun _ => by rw [orB_succ, hinv.2.2.mp (hinv.2.1.resolve_left h52)]; rfl, fun _ => rfl⟩⟩) hH hS (lv_sub hl [2, 3, 4, 1, 0] rfl)
                · skip
                  refine lv_aload_n hx hb dX8_policyOr_55 rfl (lv_at hl 0 rfl) ?_
                  refine g_X8_tape Cx hG hH q_fl_X8_9 dX8_policyOr_56 ?_
                  refine lv_iload hx hb dX8_policyOr_59 (lv_at hl 4 rfl) ?_
                  refine lv_aload_n hx hb dX8_policyOr_61 rfl (lv_at hl 0 rfl) ?_
                  refine g_X8_digest Cx hG hH q_fl_X8_51 dX8_policyOr_62 ?_
                  refine lv_bipush (v := 32) hx hb dX8_policyOr_65 (by decide) ?_
                  refine lv_iload_n hx hb dX8_policyOr_67 rfl (lv_at hl 1 rfl) ?_
                  refine lv_imul hx hb dX8_policyOr_68 ?_
                  refine mv_eqi (x' := nI (32 * i)) (pk_mul 32 i) ?_
                  refine mv_callS (Y := mLM) (rest := []) Cx hG hH hS (c_X8_same l E A hO (mM S 0 0 1 0) 1 400 isM_1 (32 * b) (by omega) 23 128 isM_23 (32 * i) (by omega)) q_co_X8_same q_ml_X8_189 q_st_X8_same q_in_X8 hd_X8_same ⟨Nat.le_of_ble_eq_true rfl, Nat.le_of_ble_eq_true rfl⟩ rfl hl.1 rfl (Nat.le_of_ble_eq_true rfl) ⟨Nat.le_of_ble_eq_true rfl, Nat.le_of_ble_eq_true rfl⟩ dX8_policyOr_69 (fun S69 H locs hP69 hH hS => ?_)
                  refine W.eq (g2 := F0 m 72 ls [.int (if nEq (S.2.1 1 0) (S.2.1 23 0) (32 * b) (32 * i) = true then 1 else 0)]) rfl ?_
                  have hH := mv_S hP69 hH
                  refine lv_if_eq (tgt := 79) hx hb dX8_policyOr_72 (by decide) (fun h72 => ?_) (fun h72 => ?_)
                  · skip
                    refine lv_iconst (v := 0) hx hb dX8_policyOr_79 (by decide) ?_
                    refine lv_istore_n (lv' := [(3, .int 0), (0, .ref (mAdM E 0 0)), (1, .int (nI i)), (2, .int (nI ts.length)), (4, .int (nI (32 * b)))]) hx hb dX8_policyOr_80 rfl hl (by decide) rfl (fun ls hl => ?_)
                    refine lv_iinc (v := nI (32 * (b + 1))) (lv' := [(4, .int (nI (32 * (b + 1)))), (3, .int 0), (0, .ref (mAdM E 0 0)), (1, .int (nI i)), (2, .int (nI ts.length))]) hx hb dX8_policyOr_81 hl (k := 4) rfl (nI_add (32 * b) 32) (by decide) rfl (fun ls hl => ?_)
                    refine lv_goto (tgt := 45) hx hb dX8_policyOr_84 (by decide) ?_
                    exact ih (b + 1) (mM S 0 0 1 0) _ _ ls 0 (by omega) (by omega) (⟨rfl, Or.inl rfl, ⟨fun h => absurd h (by decide), fun h => by rw [orB_succ, Bool.or_eq_true] at h; exact h.elim (fun q => absurd ((hinv.2.2.mpr q).symm.trans h52) (by decide)) (fun q => absurd (nEq_sw.mpr q) (b0_of h72))⟩⟩) hH hS (lv_sub hl [2, 3, 4, 1, 0] rfl)
                  · skip
                    refine lv_iconst (v := 1) hx hb dX8_policyOr_75 (by decide) ?_
                    refine lv_goto (tgt := 80) hx hb dX8_policyOr_76 (by decide) ?_
                    refine lv_istore_n (lv' := [(3, .int 1), (0, .ref (mAdM E 0 0)), (1, .int (nI i)), (2, .int (nI ts.length)), (4, .int (nI (32 * b)))]) hx hb dX8_policyOr_80 rfl hl (by decide) rfl (fun ls hl => ?_)
                    refine lv_iinc (v := nI (32 * (b + 1))) (lv' := [(4, .int (nI (32 * (b + 1)))), (3, .int 1), (0, .ref (mAdM E 0 0)), (1, .int (nI i)), (2, .int (nI ts.length))]) hx hb dX8_policyOr_81 hl (k := 4) rfl (nI_add (32 * b) 32) (by decide) rfl (fun ls hl => ?_)
                    refine lv_goto (tgt := 45) hx hb dX8_policyOr_84 (by decide) ?_
                    exact ih (b + 1) (mM S 0 0 1 0) _ _ ls 1 (by omega) (by omega) (⟨rfl, Or.inr rfl, ⟨fun _ => by rw [orB_succ, nEq_sw.mp (b1_of h72), Bool.or_true], fun _ => rfl⟩⟩) hH hS (lv_sub hl [2, 3, 4, 1, 0] rfl)
          exact lp ((ts.length / 32) - 0 + 1) 0 (mM S 0 0 1 0) _ _ ls 0 (by omega) (by omega) (⟨rfl, Or.inl rfl, ⟨fun h => absurd h (by decide), fun h => absurd h (by simp [orB])⟩⟩) hH hS (lv_sub hl [3, 4, 2, 1, 0] rfl)
        · skip
          have hok : ¬ orOk ts := fun q => h35 ((nI_leI (b := 256) (by omega) (by decide)).mpr (by have h1 := q.1; have h2 := q.2.2; omega))
          refine lv_iconst (v := (-1 : Int32)) hx hb dX8_policyOr_38 (by decide) ?_
          exact mv_reti Cx hr hH hS (by rw [hso]; show _ = if orOk ts then (if orB (fun q => S.2.1 23 0 (32 * i + q)) (S.2.1 1 0) (ts.length / 32) = true then 0 else -7) else -1; exact (if_neg hok).symm) (⟨fun h => by (have e := hso.symm.trans h; cases e), fun i' h => by (rw [hso] at h; injection h with h; subst h; exact ⟨fun q => absurd q.1 hok, fun _ => rfl⟩)⟩) dX8_policyOr_39 hlocks
