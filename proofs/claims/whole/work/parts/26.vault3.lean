/-! ===== the vault's public methods: tape, registers ===== -/
theorem bHas.cut {S : mSt} {i n : Nat} {xs : List Int8} (h : bHas S i xs) (hn : n ≤ xs.length) : bHas (mM S 2 i 1 (nI n)) i (xs.take n) := by
  have hl : (xs.take n).length = n := by simp; omega
  refine ⟨by rw [hl]; simp [mM, m3], by rw [hl]; have := h.2.1; omega, fun j hj => ?_⟩
  rw [hl] at hj
  show S.2.1 3 i j = _
  rw [h.2.2 j (by omega), List.getD_eq_getElem?_getD, List.getD_eq_getElem?_getD, List.getElem?_take_of_lt hj]
theorem nI_of_le {x : Int32} {n : Nat} (hn : n < 2 ^ 31) (h0 : ¬ x < 0) (h1 : x ≤ nI n) : ∃ i : Nat, i ≤ n ∧ x = nI i := by
  obtain ⟨j, hj, e⟩ := nI_of h0
  subst e
  exact ⟨j, (nI_leI hj hn).mp h1, rfl⟩
theorem nI_of_lt {x : Int32} {n : Nat} (hn : n < 2 ^ 31) (h0 : ¬ x < 0) (h1 : x < nI n) : ∃ i : Nat, i < n ∧ x = nI i := by
  obtain ⟨j, hj, e⟩ := nI_of h0
  subst e
  exact ⟨j, (nI_ltI hj hn).mp h1, rfl⟩
set_option maxHeartbeats 4000000 in
set_option maxRecDepth 100000 in
theorem c_X7_feed (l : Launch) (E : mEv) (A : Nat → Prop) (hO : mOwn mLC E A) (S : mSt) (a1 a2 a3 a4 a5 : Int32) (ts : List Int8) (hts : bHas S 0 ts) : Met l yX7_feed (Cond.code yX7_feed cX7_feed 6 (some .int) :: mv_ws) (mRm 2 42) (mPc mLC E A S [.ref (mAdC E 0 0), .int a1, .int a2, .int a3, .int a4, .int a5]) (mQ mLC E A (fun S' => (ts.length + 20 ≤ 400 → bHas S' 0 (ts ++ w4 a1 ++ w4 a2 ++ w4 a3 ++ w4 a4 ++ w4 a5) ∧ mSame (bX 0) S S') ∧ (¬ ts.length + 20 ≤ 400 → S' = S)) (some (.int (if ts.length + 20 ≤ 400 then nI (ts.length + 20) else -3)))) 0 0 A := by
  refine Met.ofW (cc := cX7_feed) (maxL := 6) (ret := (some .int)) (by decide) rfl ?_
  intro p e s m args below meth c s₁ B hml hv
  obtain ⟨rfl, hG, hH⟩ := hv
  have hx := B.exec
  have hb := B.bytes
  have hr := B.returns
  have hlocks := B.notSynchronized
  have Cx : CallFix p m c cX7_feed 6 s ([.ref (mAdC E 0 0), .int a1, .int a2, .int a3, .int a4, .int a5] : List Value).toArray (Cond.code yX7_feed cX7_feed 6 (some .int) :: mv_ws) RX7 := ⟨hx, hb, hml, findClass_of_methodNamed B.named, atoms_spec (ws := Cond.code yX7_feed cX7_feed 6 (some .int) :: mv_ws) B.pre⟩
  have hS : va_S A s.heap s.heap [] := va_S.rf
  have hlen := hts.2.1
  rw [mLn_0] at hlen
  have hl := lv_entry ([.ref (mAdC E 0 0), .int a1, .int a2, .int a3, .int a4, .int a5]) (n := 6) (Nat.le_of_ble_eq_true rfl)
  rw [lg_entry_eq]
  generalize (lg_sl ([.ref (mAdC E 0 0), .int a1, .int a2, .int a3, .int a4, .int a5]) ++ List.replicate (6 - (lg_sl ([.ref (mAdC E 0 0), .int a1, .int a2, .int a3, .int a4, .int a5])).length) Slot.unset).toArray = ls at hl ⊢
  have hl : lv_has ls 6 [(0, .ref (mAdC E 0 0)), (1, .int a1), (2, .int a2), (3, .int a3), (4, .int a4), (5, .int a5)] := hl
  refine lv_aload_n hx hb dX7_feed_0 rfl (lv_at hl 0 rfl) ?_
  refine g_X7_tape Cx hG hH q_fl_X7_30 dX7_feed_1 ?_
  refine lv_bipush (v := 20) hx hb dX7_feed_4 (by decide) ?_
  refine mv_callV (Y := mLC) (C := RX0) (k := 2) (i := 0) (rest := []) Cx hG hH hS (c_X0_hasRoomFor l E A hO S 0 (by decide) ts hts 20) q_co_X0_hasRoomFor q_ml_X7_82 q_im_X0_hasRoomFor q_se_X0_hasRoomFor q_in_X0 (okC_2 (by decide)) rfl rfl hd_X0_hasRoomFor ⟨Nat.le_of_ble_eq_true rfl, Nat.le_of_ble_eq_true rfl⟩ rfl hl.1 rfl (Nat.le_of_ble_eq_true rfl) ⟨Nat.le_of_ble_eq_true rfl, Nat.le_of_ble_eq_true rfl⟩ dX7_feed_6 (fun S6 H locs hP6 hH hS => ?_)
  refine W.eq (g2 := F0 m 9 ls [.int (if 20 ≤ nI (mLn 0 - ts.length) then 1 else 0)]) rfl ?_
  have hH := mv_S hP6 hH
  refine lv_if_ne (tgt := 15) hx hb dX7_feed_9 (by decide) (fun h9 => ?_) (fun h9 => ?_)
  · skip
    have hroom : ts.length + 20 ≤ 400 := by have := ge_of (a := 20) (by decide) (by rw [mLn_0]; omega) (p1_of h9); rw [mLn_0] at this; omega
    refine lv_aload_n hx hb dX7_feed_15 rfl (lv_at hl 0 rfl) ?_
    refine g_X7_tape Cx hG hH q_fl_X7_30 dX7_feed_16 ?_
    refine lv_iload_n hx hb dX7_feed_19 rfl (lv_at hl 1 rfl) ?_
    refine mv_callV (Y := mLC) (C := RX0) (k := 2) (i := 0) (rest := []) Cx hG hH hS (c_X0_putInt l E A hO S 0 (by decide) ts hts a1 (by rw [mLn_0]; omega)) q_co_X0_putInt q_ml_X7_86 q_im_X0_putInt q_se_X0_putInt q_in_X0 (okC_2 (by decide)) rfl rfl hd_X0_putInt ⟨Nat.le_of_ble_eq_true rfl, Nat.le_of_ble_eq_true rfl⟩ rfl hl.1 rfl (Nat.le_of_ble_eq_true rfl) ⟨Nat.le_of_ble_eq_true rfl, Nat.le_of_ble_eq_true rfl⟩ dX7_feed_20 (fun S20 H locs hP20 hH hS => ?_)
    refine W.eq (g2 := F0 m 23 ls []) rfl ?_
    refine lv_aload_n hx hb dX7_feed_23 rfl (lv_at hl 0 rfl) ?_
    refine g_X7_tape Cx hG hH q_fl_X7_30 dX7_feed_24 ?_
    refine lv_iload_n hx hb dX7_feed_27 rfl (lv_at hl 2 rfl) ?_
    refine mv_callV (Y := mLC) (C := RX0) (k := 2) (i := 0) (rest := []) Cx hG hH hS (c_X0_putInt l E A hO S20 0 (by decide) (ts ++ w4 a1) hP20.1 a2 (by simp only [List.length_append, w4_len, mLn_0]; omega)) q_co_X0_putInt q_ml_X7_86 q_im_X0_putInt q_se_X0_putInt q_in_X0 (okC_2 (by decide)) rfl rfl hd_X0_putInt ⟨Nat.le_of_ble_eq_true rfl, Nat.le_of_ble_eq_true rfl⟩ rfl hl.1 rfl (Nat.le_of_ble_eq_true rfl) ⟨Nat.le_of_ble_eq_true rfl, Nat.le_of_ble_eq_true rfl⟩ dX7_feed_28 (fun S28 H locs hP28 hH hS => ?_)
    refine W.eq (g2 := F0 m 31 ls []) rfl ?_
    refine lv_aload_n hx hb dX7_feed_31 rfl (lv_at hl 0 rfl) ?_
    refine g_X7_tape Cx hG hH q_fl_X7_30 dX7_feed_32 ?_
    refine lv_iload_n hx hb dX7_feed_35 rfl (lv_at hl 3 rfl) ?_
    refine mv_callV (Y := mLC) (C := RX0) (k := 2) (i := 0) (rest := []) Cx hG hH hS (c_X0_putInt l E A hO S28 0 (by decide) (ts ++ w4 a1 ++ w4 a2) hP28.1 a3 (by simp only [List.length_append, w4_len, mLn_0]; omega)) q_co_X0_putInt q_ml_X7_86 q_im_X0_putInt q_se_X0_putInt q_in_X0 (okC_2 (by decide)) rfl rfl hd_X0_putInt ⟨Nat.le_of_ble_eq_true rfl, Nat.le_of_ble_eq_true rfl⟩ rfl hl.1 rfl (Nat.le_of_ble_eq_true rfl) ⟨Nat.le_of_ble_eq_true rfl, Nat.le_of_ble_eq_true rfl⟩ dX7_feed_36 (fun S36 H locs hP36 hH hS => ?_)
    refine W.eq (g2 := F0 m 39 ls []) rfl ?_
    refine lv_aload_n hx hb dX7_feed_39 rfl (lv_at hl 0 rfl) ?_
    refine g_X7_tape Cx hG hH q_fl_X7_30 dX7_feed_40 ?_
    refine lv_iload hx hb dX7_feed_43 (lv_at hl 4 rfl) ?_
    refine mv_callV (Y := mLC) (C := RX0) (k := 2) (i := 0) (rest := []) Cx hG hH hS (c_X0_putInt l E A hO S36 0 (by decide) (ts ++ w4 a1 ++ w4 a2 ++ w4 a3) hP36.1 a4 (by simp only [List.length_append, w4_len, mLn_0]; omega)) q_co_X0_putInt q_ml_X7_86 q_im_X0_putInt q_se_X0_putInt q_in_X0 (okC_2 (by decide)) rfl rfl hd_X0_putInt ⟨Nat.le_of_ble_eq_true rfl, Nat.le_of_ble_eq_true rfl⟩ rfl hl.1 rfl (Nat.le_of_ble_eq_true rfl) ⟨Nat.le_of_ble_eq_true rfl, Nat.le_of_ble_eq_true rfl⟩ dX7_feed_45 (fun S45 H locs hP45 hH hS => ?_)
    refine W.eq (g2 := F0 m 48 ls []) rfl ?_
    refine lv_aload_n hx hb dX7_feed_48 rfl (lv_at hl 0 rfl) ?_
    refine g_X7_tape Cx hG hH q_fl_X7_30 dX7_feed_49 ?_
    refine lv_iload hx hb dX7_feed_52 (lv_at hl 5 rfl) ?_
    refine mv_callV (Y := mLC) (C := RX0) (k := 2) (i := 0) (rest := []) Cx hG hH hS (c_X0_putInt l E A hO S45 0 (by decide) (ts ++ w4 a1 ++ w4 a2 ++ w4 a3 ++ w4 a4) hP45.1 a5 (by simp only [List.length_append, w4_len, mLn_0]; omega)) q_co_X0_putInt q_ml_X7_86 q_im_X0_putInt q_se_X0_putInt q_in_X0 (okC_2 (by decide)) rfl rfl hd_X0_putInt ⟨Nat.le_of_ble_eq_true rfl, Nat.le_of_ble_eq_true rfl⟩ rfl hl.1 rfl (Nat.le_of_ble_eq_true rfl) ⟨Nat.le_of_ble_eq_true rfl, Nat.le_of_ble_eq_true rfl⟩ dX7_feed_54 (fun S54 H locs hP54 hH hS => ?_)
    refine W.eq (g2 := F0 m 57 ls []) rfl ?_
    refine lv_aload_n hx hb dX7_feed_57 rfl (lv_at hl 0 rfl) ?_
    refine g_X7_tape Cx hG hH q_fl_X7_30 dX7_feed_58 ?_
    refine g_X0_size Cx hG hH (by decide) q_fl_X7_89 dX7_feed_61 ?_
    refine mv_eqi (x' := nI (ts.length + 20)) (by have h := hP54.1.1; simp only [List.length_append, w4_len] at h; rw [h]) ?_
    exact mv_reti Cx hr hH hS ((if_pos hroom).symm) (⟨fun _ => ⟨hP54.1, (((hP20.2.tr hP28.2).tr hP36.2).tr hP45.2).tr hP54.2⟩, fun q => absurd hroom q⟩) dX7_feed_64 hlocks
  · skip
    have hroom : ¬ ts.length + 20 ≤ 400 := fun q => p0_of h9 (nI_le (a := 20) (by rw [mLn_0]; omega) (by rw [mLn_0]; omega))
    refine lv_bipush (v := (-3 : Int32)) hx hb dX7_feed_12 (by decide) ?_
    exact mv_reti Cx hr hH hS ((if_neg hroom).symm) (⟨fun q => absurd q hroom, fun _ => rfl⟩) dX7_feed_14 hlocks

set_option maxHeartbeats 4000000 in
set_option maxRecDepth 100000 in
theorem c_X7_end (l : Launch) (E : mEv) (A : Nat → Prop) (hO : mOwn mLC E A) (S : mSt) (x : Int32) (ts : List Int8) (hts : bHas S 0 ts) : Met l yX7_end (Cond.code yX7_end cX7_end 2 (some .int) :: mv_ws) (mRm 0 0) (mPc mLC E A S [.ref (mAdC E 0 0), .int x]) (mQ mLC E A (fun S' => ((¬ x < 0 ∧ x ≤ nI ts.length) → bHas S' 0 (ts.take x.toNatClampNeg) ∧ mSame (bX 0) S S') ∧ (¬ (¬ x < 0 ∧ x ≤ nI ts.length) → S' = S)) (some (.int (if ¬ x < 0 ∧ x ≤ nI ts.length then x else -1)))) 0 0 A := by
  refine Met.ofW (cc := cX7_end) (maxL := 2) (ret := (some .int)) (by decide) rfl ?_
  intro p e s m args below meth c s₁ B hml hv
  obtain ⟨rfl, hG, hH⟩ := hv
  have hx := B.exec
  have hb := B.bytes
  have hr := B.returns
  have hlocks := B.notSynchronized
  have Cx : CallFix p m c cX7_end 2 s ([.ref (mAdC E 0 0), .int x] : List Value).toArray (Cond.code yX7_end cX7_end 2 (some .int) :: mv_ws) RX7 := ⟨hx, hb, hml, findClass_of_methodNamed B.named, atoms_spec (ws := Cond.code yX7_end cX7_end 2 (some .int) :: mv_ws) B.pre⟩
  have hS : va_S A s.heap s.heap [] := va_S.rf
  have hlen := hts.2.1
  rw [mLn_0] at hlen
  have hl := lv_entry ([.ref (mAdC E 0 0), .int x]) (n := 2) (Nat.le_of_ble_eq_true rfl)
  rw [lg_entry_eq]
  generalize (lg_sl ([.ref (mAdC E 0 0), .int x]) ++ List.replicate (2 - (lg_sl ([.ref (mAdC E 0 0), .int x])).length) Slot.unset).toArray = ls at hl ⊢
  have hl : lv_has ls 2 [(0, .ref (mAdC E 0 0)), (1, .int x)] := hl
  refine lv_iload_n hx hb dX7_end_0 rfl (lv_at hl 1 rfl) ?_
  refine lv_if_lt (tgt := 15) hx hb dX7_end_1 (by decide) (fun h1 => ?_) (fun h1 => ?_)
  · skip
    refine lv_iconst (v := (-1 : Int32)) hx hb dX7_end_15 (by decide) ?_
    exact mv_reti Cx hr hH hS ((if_neg (fun q => q.1 h1)).symm) (⟨fun q => absurd q (fun q => q.1 h1), fun _ => rfl⟩) dX7_end_16 hlocks
  · skip
    refine lv_iload_n hx hb dX7_end_4 rfl (lv_at hl 1 rfl) ?_
    refine lv_aload_n hx hb dX7_end_5 rfl (lv_at hl 0 rfl) ?_
    refine g_X7_tape Cx hG hH q_fl_X7_30 dX7_end_6 ?_
    refine g_X0_size Cx hG hH (by decide) q_fl_X7_89 dX7_end_9 ?_
    refine mv_eqi (x' := nI ts.length) (hts.1) ?_
    refine lv_icmp_le (tgt := 17) hx hb dX7_end_12 (by decide) (fun h12 => ?_) (fun h12 => ?_)
    · skip
      obtain ⟨n, hn, hxn⟩ := nI_of_le (by omega) h1 h12
      refine lv_aload_n hx hb dX7_end_17 rfl (lv_at hl 0 rfl) ?_
      refine g_X7_tape Cx hG hH q_fl_X7_30 dX7_end_18 ?_
      refine lv_iload_n hx hb dX7_end_21 rfl (lv_at hl 1 rfl) ?_
      refine p_X0_size Cx hG hO hH hS (by decide) q_fl_X7_89 dX7_end_22 (fun H locs hH hS => ?_)
      refine lv_iload_n hx hb dX7_end_25 rfl (lv_at hl 1 rfl) ?_
      exact mv_reti Cx hr hH hS ((if_pos ⟨h1, h12⟩).symm) (⟨fun _ => ⟨by rw [hxn, nI_clamp (by omega)]; exact hts.cut hn, mSame.M ⟨Or.inl rfl, rfl⟩⟩, fun q => absurd ⟨h1, h12⟩ q⟩) dX7_end_26 hlocks
    · skip
      refine lv_iconst (v := (-1 : Int32)) hx hb dX7_end_15 (by decide) ?_
      exact mv_reti Cx hr hH hS ((if_neg (fun q => h12 q.2)).symm) (⟨fun q => absurd q (fun q => h12 q.2), fun _ => rfl⟩) dX7_end_16 hlocks

set_option maxHeartbeats 4000000 in
set_option maxRecDepth 100000 in
theorem c_X7_octet (l : Launch) (E : mEv) (A : Nat → Prop) (hO : mOwn mLC E A) (S : mSt) (x : Int32) (os : List Int8) (hos : bHas S 1 os) : Met l yX7_octet (Cond.code yX7_octet cX7_octet 2 (some .int) :: mv_ws) (mRm 0 0) (mPc mLC E A S [.ref (mAdC E 0 0), .int x]) (mQ mLC E A (fun S' => S' = S) (some (.int (if x = -1 then nI os.length else if x < 0 then -2 else if x < nI os.length then (os.getD x.toNatClampNeg 0).toInt32 &&& 255 else -2)))) 0 0 A := by
  refine Met.ofW (cc := cX7_octet) (maxL := 2) (ret := (some .int)) (by decide) rfl ?_
  intro p e s m args below meth c s₁ B hml hv
  obtain ⟨rfl, hG, hH⟩ := hv
  have hx := B.exec
  have hb := B.bytes
  have hr := B.returns
  have hlocks := B.notSynchronized
  have Cx : CallFix p m c cX7_octet 2 s ([.ref (mAdC E 0 0), .int x] : List Value).toArray (Cond.code yX7_octet cX7_octet 2 (some .int) :: mv_ws) RX7 := ⟨hx, hb, hml, findClass_of_methodNamed B.named, atoms_spec (ws := Cond.code yX7_octet cX7_octet 2 (some .int) :: mv_ws) B.pre⟩
  have hS : va_S A s.heap s.heap [] := va_S.rf
  have hol := hos.2.1
  rw [mLn_1] at hol
  have hl := lv_entry ([.ref (mAdC E 0 0), .int x]) (n := 2) (Nat.le_of_ble_eq_true rfl)
  rw [lg_entry_eq]
  generalize (lg_sl ([.ref (mAdC E 0 0), .int x]) ++ List.replicate (2 - (lg_sl ([.ref (mAdC E 0 0), .int x])).length) Slot.unset).toArray = ls at hl ⊢
  have hl : lv_has ls 2 [(0, .ref (mAdC E 0 0)), (1, .int x)] := hl
  refine lv_iload_n hx hb dX7_octet_0 rfl (lv_at hl 1 rfl) ?_
  refine lv_iconst (v := (-1 : Int32)) hx hb dX7_octet_1 (by decide) ?_
  refine lv_icmp_ne (tgt := 13) hx hb dX7_octet_2 (by decide) (fun h2 => ?_) (fun h2 => ?_)
  · skip
    refine lv_iload_n hx hb dX7_octet_13 rfl (lv_at hl 1 rfl) ?_
    refine lv_if_lt (tgt := 28) hx hb dX7_octet_14 (by decide) (fun h14 => ?_) (fun h14 => ?_)
    · skip
      refine lv_bipush (v := (-2 : Int32)) hx hb dX7_octet_28 (by decide) ?_
      exact mv_reti Cx hr hH hS (by rw [if_neg h2, if_pos h14]) (rfl) dX7_octet_30 hlocks
    · skip
      refine lv_iload_n hx hb dX7_octet_17 rfl (lv_at hl 1 rfl) ?_
      refine lv_aload_n hx hb dX7_octet_18 rfl (lv_at hl 0 rfl) ?_
      refine g_X7_out Cx hG hH q_fl_X7_34 dX7_octet_19 ?_
      refine g_X0_size Cx hG hH (by decide) q_fl_X7_89 dX7_octet_22 ?_
      refine mv_eqi (x' := nI os.length) (hos.1) ?_
      refine lv_icmp_lt (tgt := 31) hx hb dX7_octet_25 (by decide) (fun h25 => ?_) (fun h25 => ?_)
      · skip
        obtain ⟨n, hn, hxn⟩ := nI_of_lt (by omega) h14 h25
        refine lv_aload_n hx hb dX7_octet_31 rfl (lv_at hl 0 rfl) ?_
        refine g_X7_out Cx hG hH q_fl_X7_34 dX7_octet_32 ?_
        refine g_X0_held Cx hG hH (by decide) q_fl_X7_93 dX7_octet_35 ?_
        refine lv_iload_n hx hb dX7_octet_38 rfl (lv_at hl 1 rfl) ?_
        refine mv_bal Cx hG hH (isC_3 (by decide)) n (hxn) (by rw [mLn_1]; omega) dX7_octet_39 ?_
        refine mv_eqi (x' := (os.getD x.toNatClampNeg 0).toInt32) (by rw [hos.2.2 n hn, hxn, nI_clamp (by omega)]) ?_
        refine lv_sipush (v := 255) hx hb dX7_octet_40 (by decide) ?_
        refine lv_iand hx hb dX7_octet_43 ?_
        exact mv_reti Cx hr hH hS (by rw [if_neg h2, if_neg h14, if_pos h25]) (rfl) dX7_octet_44 hlocks
      · skip
        refine lv_bipush (v := (-2 : Int32)) hx hb dX7_octet_28 (by decide) ?_
        exact mv_reti Cx hr hH hS (by rw [if_neg h2, if_neg h14, if_neg h25]) (rfl) dX7_octet_30 hlocks
  · skip
    refine lv_aload_n hx hb dX7_octet_5 rfl (lv_at hl 0 rfl) ?_
    refine g_X7_out Cx hG hH q_fl_X7_34 dX7_octet_6 ?_
    refine g_X0_size Cx hG hH (by decide) q_fl_X7_89 dX7_octet_9 ?_
    refine mv_eqi (x' := nI os.length) (hos.1) ?_
    exact mv_reti Cx hr hH hS ((if_pos h2).symm) (rfl) dX7_octet_12 hlocks

set_option maxHeartbeats 4000000 in
set_option maxRecDepth 100000 in
theorem c_X7_back (l : Launch) (E : mEv) (A : Nat → Prop) (hO : mOwn mLC E A) (S : mSt) (ts : List Int8) (hts : bHas S 0 ts) (os : List Int8) (hos : bHas S 1 os) : Met l yX7_back (Cond.code yX7_back cX7_back 1 (some .int) :: mv_ws) (mRm 2 63) (mPc mLC E A S [.ref (mAdC E 0 0)]) (mQ mLC E A (fun S' => (ts.length + os.length ≤ 400 → bHas S' 0 (ts ++ os) ∧ mSame (bX 0) S S') ∧ (¬ ts.length + os.length ≤ 400 → S' = S)) (some (.int (if ts.length + os.length ≤ 400 then nI (ts.length + os.length) else -3)))) 0 0 A := by
  refine Met.ofW (cc := cX7_back) (maxL := 1) (ret := (some .int)) (by decide) rfl ?_
  intro p e s m args below meth c s₁ B hml hv
  obtain ⟨rfl, hG, hH⟩ := hv
  have hx := B.exec
  have hb := B.bytes
  have hr := B.returns
  have hlocks := B.notSynchronized
  have Cx : CallFix p m c cX7_back 1 s ([.ref (mAdC E 0 0)] : List Value).toArray (Cond.code yX7_back cX7_back 1 (some .int) :: mv_ws) RX7 := ⟨hx, hb, hml, findClass_of_methodNamed B.named, atoms_spec (ws := Cond.code yX7_back cX7_back 1 (some .int) :: mv_ws) B.pre⟩
  have hS : va_S A s.heap s.heap [] := va_S.rf
  have hlen := hts.2.1
  rw [mLn_0] at hlen
  have hol := hos.2.1
  rw [mLn_1] at hol
  have hl := lv_entry ([.ref (mAdC E 0 0)]) (n := 1) (Nat.le_of_ble_eq_true rfl)
  rw [lg_entry_eq]
  generalize (lg_sl ([.ref (mAdC E 0 0)]) ++ List.replicate (1 - (lg_sl ([.ref (mAdC E 0 0)])).length) Slot.unset).toArray = ls at hl ⊢
  have hl : lv_has ls 1 [(0, .ref (mAdC E 0 0))] := hl
  refine lv_aload_n hx hb dX7_back_0 rfl (lv_at hl 0 rfl) ?_
  refine g_X7_tape Cx hG hH q_fl_X7_30 dX7_back_1 ?_
  refine lv_aload_n hx hb dX7_back_4 rfl (lv_at hl 0 rfl) ?_
  refine g_X7_out Cx hG hH q_fl_X7_34 dX7_back_5 ?_
  refine g_X0_size Cx hG hH (by decide) q_fl_X7_89 dX7_back_8 ?_
  refine mv_eqi (x' := nI os.length) (hos.1) ?_
  refine mv_callV (Y := mLC) (C := RX0) (k := 2) (i := 0) (rest := []) Cx hG hH hS (c_X0_hasRoomFor l E A hO S 0 (by decide) ts hts (nI os.length)) q_co_X0_hasRoomFor q_ml_X7_82 q_im_X0_hasRoomFor q_se_X0_hasRoomFor q_in_X0 (okC_2 (by decide)) rfl rfl hd_X0_hasRoomFor ⟨Nat.le_of_ble_eq_true rfl, Nat.le_of_ble_eq_true rfl⟩ rfl hl.1 rfl (Nat.le_of_ble_eq_true rfl) ⟨Nat.le_of_ble_eq_true rfl, Nat.le_of_ble_eq_true rfl⟩ dX7_back_11 (fun S11 H locs hP11 hH hS => ?_)
  refine W.eq (g2 := F0 m 14 ls [.int (if nI os.length ≤ nI (mLn 0 - ts.length) then 1 else 0)]) rfl ?_
  have hH := mv_S hP11 hH
  refine lv_if_ne (tgt := 20) hx hb dX7_back_14 (by decide) (fun h14 => ?_) (fun h14 => ?_)
  · skip
    have hroom : ts.length + os.length ≤ 400 := by have := ge_of (by omega) (by rw [mLn_0]; omega) (p1_of h14); rw [mLn_0] at this; omega
    refine lv_aload_n hx hb dX7_back_20 rfl (lv_at hl 0 rfl) ?_
    refine g_X7_tape Cx hG hH q_fl_X7_30 dX7_back_21 ?_
    refine lv_aload_n hx hb dX7_back_24 rfl (lv_at hl 0 rfl) ?_
    refine g_X7_out Cx hG hH q_fl_X7_34 dX7_back_25 ?_
    refine g_X0_held Cx hG hH (by decide) q_fl_X7_93 dX7_back_28 ?_
    refine lv_aload_n hx hb dX7_back_31 rfl (lv_at hl 0 rfl) ?_
    refine g_X7_out Cx hG hH q_fl_X7_34 dX7_back_32 ?_
    refine g_X0_size Cx hG hH (by decide) q_fl_X7_89 dX7_back_35 ?_
    refine mv_eqi (x' := nI os.length) (hos.1) ?_
    refine mv_callV (Y := mLC) (C := RX0) (k := 2) (i := 0) (rest := []) Cx hG hH hS (c_X0_putAll l E A hO S 0 (by decide) ts hts 3 1 (mLn 1) os.length (isC_3 (by decide)) hos.2.1 (by rw [mLn_0]; omega)) q_co_X0_putAll q_ml_X7_96 q_im_X0_putAll q_se_X0_putAll q_in_X0 (okC_2 (by decide)) rfl rfl hd_X0_putAll ⟨Nat.le_of_ble_eq_true rfl, Nat.le_of_ble_eq_true rfl⟩ rfl hl.1 rfl (Nat.le_of_ble_eq_true rfl) ⟨Nat.le_of_ble_eq_true rfl, Nat.le_of_ble_eq_true rfl⟩ dX7_back_38 (fun S38 H locs hP38 hH hS => ?_)
    refine W.eq (g2 := F0 m 41 ls []) rfl ?_
    refine lv_aload_n hx hb dX7_back_41 rfl (lv_at hl 0 rfl) ?_
    refine g_X7_tape Cx hG hH q_fl_X7_30 dX7_back_42 ?_
    refine g_X0_size Cx hG hH (by decide) q_fl_X7_89 dX7_back_45 ?_
    refine mv_eqi (x' := nI (ts.length + os.length)) (by have h := hP38.1.1; rw [List.length_append, mTk_len] at h; exact h) ?_
    exact mv_reti Cx hr hH hS ((if_pos hroom).symm) (⟨fun _ => ⟨by have h := hP38.1; rw [mTk_has hos] at h; exact h, hP38.2⟩, fun q => absurd hroom q⟩) dX7_back_48 hlocks
  · skip
    have hroom : ¬ ts.length + os.length ≤ 400 := fun q => p0_of h14 (nI_le (by rw [mLn_0]; omega) (by rw [mLn_0]; omega))
    refine lv_bipush (v := (-3 : Int32)) hx hb dX7_back_17 (by decide) ?_
    exact mv_reti Cx hr hH hS ((if_neg hroom).symm) (⟨fun q => absurd q hroom, fun _ => rfl⟩) dX7_back_19 hlocks

set_option maxHeartbeats 4000000 in
set_option maxRecDepth 100000 in
theorem c_X7_hash (l : Launch) (E : mEv) (A : Nat → Prop) (hO : mOwn mLC E A) (S : mSt) (ts : List Int8) (hts : bHas S 0 ts) : Met l yX7_hash (Cond.code yX7_hash cX7_hash 1 (some .int) :: mv_ws) (mRm 4 89) (mPc mLC E A S [.ref (mAdC E 0 0)]) (mQ mLC E A (fun S' => bHas S' 0 [] ∧ bHas S' 1 (mTk (shaL ts) 32) ∧ mSame (fun k i => scX k i ∨ bX 0 k i ∨ bX 1 k i) S S') (some (.int 32))) 0 0 A := by
  refine Met.ofW (cc := cX7_hash) (maxL := 1) (ret := (some .int)) (by decide) rfl ?_
  intro p e s m args below meth c s₁ B hml hv
  obtain ⟨rfl, hG, hH⟩ := hv
  have hx := B.exec
  have hb := B.bytes
  have hr := B.returns
  have hlocks := B.notSynchronized
  have Cx : CallFix p m c cX7_hash 1 s ([.ref (mAdC E 0 0)] : List Value).toArray (Cond.code yX7_hash cX7_hash 1 (some .int) :: mv_ws) RX7 := ⟨hx, hb, hml, findClass_of_methodNamed B.named, atoms_spec (ws := Cond.code yX7_hash cX7_hash 1 (some .int) :: mv_ws) B.pre⟩
  have hS : va_S A s.heap s.heap [] := va_S.rf
  have hl := lv_entry ([.ref (mAdC E 0 0)]) (n := 1) (Nat.le_of_ble_eq_true rfl)
  rw [lg_entry_eq]
  generalize (lg_sl ([.ref (mAdC E 0 0)]) ++ List.replicate (1 - (lg_sl ([.ref (mAdC E 0 0)])).length) Slot.unset).toArray = ls at hl ⊢
  have hl : lv_has ls 1 [(0, .ref (mAdC E 0 0))] := hl
  refine lv_aload_n hx hb dX7_hash_0 rfl (lv_at hl 0 rfl) ?_
  refine mv_callV (Y := mLC) (C := RX7) (k := 0) (i := 0) (rest := []) Cx hG hH hS (c_X7_takeTapeHash l E A hO S ts hts) q_co_X7_takeTapeHash q_ml_X7_100 q_im_X7_takeTapeHash q_se_X7_takeTapeHash q_in_X7 okC_0 rfl rfl hd_X7_takeTapeHash ⟨Nat.le_of_ble_eq_true rfl, Nat.le_of_ble_eq_true rfl⟩ rfl hl.1 rfl (Nat.le_of_ble_eq_true rfl) ⟨Nat.le_of_ble_eq_true rfl, Nat.le_of_ble_eq_true rfl⟩ dX7_hash_1 (fun Sa H locs hP1 hH hS => ?_)
  refine W.eq (g2 := F0 m 4 ls []) rfl ?_
  refine lv_aload_n hx hb dX7_hash_4 rfl (lv_at hl 0 rfl) ?_
  refine lv_aload_n hx hb dX7_hash_5 rfl (lv_at hl 0 rfl) ?_
  refine g_X7_scratch Cx hG hH q_fl_X7_47 dX7_hash_6 ?_
  refine lv_bipush (v := 32) hx hb dX7_hash_9 (by decide) ?_
  refine mv_callV (Y := mLC) (C := RX7) (k := 0) (i := 0) (rest := []) Cx hG hH hS (c_X7_tell l E A hO Sa 14 0 32 32 isC_14 (by decide) (by decide)) q_co_X7_tell q_ml_X7_103 q_im_X7_tell q_se_X7_tell q_in_X7 okC_0 rfl rfl hd_X7_tell ⟨Nat.le_of_ble_eq_true rfl, Nat.le_of_ble_eq_true rfl⟩ rfl hl.1 rfl (Nat.le_of_ble_eq_true rfl) ⟨Nat.le_of_ble_eq_true rfl, Nat.le_of_ble_eq_true rfl⟩ dX7_hash_11 (fun S11 H locs hP11 hH hS => ?_)
  refine W.eq (g2 := F0 m 14 ls [.int (nI 32)]) rfl ?_
  exact mv_reti Cx hr hH hS (rfl) (⟨hP1.2.1.keep hP11.2 (by simp [bX]) (by simp [bX]), by have h := hP11.1; rw [mTk_congr hP1.1] at h; exact h, (hP1.2.2.wk (fun _ _ h => h.elim Or.inl (fun z => Or.inr (Or.inl z)))).tr (hP11.2.wk (fun _ _ h => Or.inr (Or.inr h)))⟩) dX7_hash_14 hlocks

set_option maxHeartbeats 4000000 in
set_option maxRecDepth 100000 in
theorem c_X7_key (l : Launch) (E : mEv) (A : Nat → Prop) (hO : mOwn mLC E A) (S : mSt) (ts : List Int8) (hts : bHas S 0 ts) : Met l yX7_key (Cond.code yX7_key cX7_key 1 (some .int) :: mv_ws) (mRm 4 89) (mPc mLC E A S [.ref (mAdC E 0 0)]) (mQ mLC E A (fun S' => bHas S' 0 [] ∧ (∀ j, j < 32 → S'.2.1 11 0 j = shaL ts j) ∧ mSame (fun k i => scX k i ∨ bX 0 k i ∨ k = 11) S S') (some (.int 0))) 0 0 A := by
  refine Met.ofW (cc := cX7_key) (maxL := 1) (ret := (some .int)) (by decide) rfl ?_
  intro p e s m args below meth c s₁ B hml hv
  obtain ⟨rfl, hG, hH⟩ := hv
  have hx := B.exec
  have hb := B.bytes
  have hr := B.returns
  have hlocks := B.notSynchronized
  have Cx : CallFix p m c cX7_key 1 s ([.ref (mAdC E 0 0)] : List Value).toArray (Cond.code yX7_key cX7_key 1 (some .int) :: mv_ws) RX7 := ⟨hx, hb, hml, findClass_of_methodNamed B.named, atoms_spec (ws := Cond.code yX7_key cX7_key 1 (some .int) :: mv_ws) B.pre⟩
  have hS : va_S A s.heap s.heap [] := va_S.rf
  have hl := lv_entry ([.ref (mAdC E 0 0)]) (n := 1) (Nat.le_of_ble_eq_true rfl)
  rw [lg_entry_eq]
  generalize (lg_sl ([.ref (mAdC E 0 0)]) ++ List.replicate (1 - (lg_sl ([.ref (mAdC E 0 0)])).length) Slot.unset).toArray = ls at hl ⊢
  have hl : lv_has ls 1 [(0, .ref (mAdC E 0 0))] := hl
  refine lv_aload_n hx hb dX7_key_0 rfl (lv_at hl 0 rfl) ?_
  refine mv_callV (Y := mLC) (C := RX7) (k := 0) (i := 0) (rest := []) Cx hG hH hS (c_X7_takeTapeHash l E A hO S ts hts) q_co_X7_takeTapeHash q_ml_X7_100 q_im_X7_takeTapeHash q_se_X7_takeTapeHash q_in_X7 okC_0 rfl rfl hd_X7_takeTapeHash ⟨Nat.le_of_ble_eq_true rfl, Nat.le_of_ble_eq_true rfl⟩ rfl hl.1 rfl (Nat.le_of_ble_eq_true rfl) ⟨Nat.le_of_ble_eq_true rfl, Nat.le_of_ble_eq_true rfl⟩ dX7_key_1 (fun Sa H locs hP1 hH hS => ?_)
  refine W.eq (g2 := F0 m 4 ls []) rfl ?_
  refine lv_aload_n hx hb dX7_key_4 rfl (lv_at hl 0 rfl) ?_
  refine g_X7_scratch Cx hG hH q_fl_X7_47 dX7_key_5 ?_
  refine lv_aload_n hx hb dX7_key_8 rfl (lv_at hl 0 rfl) ?_
  refine g_X7_theKey Cx hG hH q_fl_X7_37 dX7_key_9 ?_
  refine mv_callS (Y := mLC) (rest := []) Cx hG hH hS (c_X7_copyDigest l E A hO Sa 14 0 isC_14 11 0 isC_11) q_co_X7_copyDigest q_ml_X7_107 q_st_X7_copyDigest q_in_X7 hd_X7_copyDigest ⟨Nat.le_of_ble_eq_true rfl, Nat.le_of_ble_eq_true rfl⟩ rfl hl.1 rfl (Nat.le_of_ble_eq_true rfl) ⟨Nat.le_of_ble_eq_true rfl, Nat.le_of_ble_eq_true rfl⟩ dX7_key_12 (fun S12 H locs hP12 hH hS => ?_)
  refine W.eq (g2 := F0 m 15 ls []) rfl ?_
  refine lv_iconst (v := 0) hx hb dX7_key_15 (by decide) ?_
  exact mv_reti Cx hr hH hS (rfl) (⟨hP1.2.1.keep hP12.2 (by simp) (by simp), fun j hj => (hP12.1 j hj).trans (hP1.1 j hj), (hP1.2.2.wk (fun _ _ h => h.elim Or.inl (fun z => Or.inr (Or.inl z)))).tr (hP12.2.wk (fun _ _ h => Or.inr (Or.inr h.1)))⟩) dX7_key_16 hlocks

set_option maxHeartbeats 4000000 in
set_option maxRecDepth 100000 in
theorem c_X7_extend (l : Launch) (E : mEv) (A : Nat → Prop) (hO : mOwn mLC E A) (S : mSt) (x : Int32) (ts : List Int8) (hts : bHas S 0 ts) : Met l yX7_extend (Cond.code yX7_extend cX7_extend 2 (some .int) :: mv_ws) (mRm 4 93) (mPc mLC E A S [.ref (mAdC E 0 0), .int x]) (mQ mLC E A (fun S' => bHas S' 0 [] ∧ (∀ r, x.toNatClampNeg = r → (¬ x < 0 ∧ x < nI 8) → (∀ j, j < 32 → S'.2.1 16 0 (32 * r + j) = shaL (mTk (fun j => S.2.1 16 0 (32 * r + j)) 32 ++ mTk (shaL ts) 32) j) ∧ (∀ q, q < 32 * r ∨ 32 * r + 32 ≤ q → S'.2.1 16 0 q = S.2.1 16 0 q) ∧ S'.1 15 0 2 = S.1 15 0 2 + 1 ∧ mSame (fun k i => scX k i ∨ bX 0 k i ∨ k = 16 ∨ k = 15) S S') ∧ (¬ (¬ x < 0 ∧ x < nI 8) → mSame (fun k i => scX k i ∨ bX 0 k i) S S')) (some (.int (if ¬ x < 0 ∧ x < nI 8 then 0 else -1)))) 0 0 A := by
  refine Met.ofW (cc := cX7_extend) (maxL := 2) (ret := (some .int)) (by decide) rfl ?_
  intro p e s m args below meth c s₁ B hml hv
  obtain ⟨rfl, hG, hH⟩ := hv
  have hx := B.exec
  have hb := B.bytes
  have hr := B.returns
  have hlocks := B.notSynchronized
  have Cx : CallFix p m c cX7_extend 2 s ([.ref (mAdC E 0 0), .int x] : List Value).toArray (Cond.code yX7_extend cX7_extend 2 (some .int) :: mv_ws) RX7 := ⟨hx, hb, hml, findClass_of_methodNamed B.named, atoms_spec (ws := Cond.code yX7_extend cX7_extend 2 (some .int) :: mv_ws) B.pre⟩
  have hS : va_S A s.heap s.heap [] := va_S.rf
  have hl := lv_entry ([.ref (mAdC E 0 0), .int x]) (n := 2) (Nat.le_of_ble_eq_true rfl)
  rw [lg_entry_eq]
  generalize (lg_sl ([.ref (mAdC E 0 0), .int x]) ++ List.replicate (2 - (lg_sl ([.ref (mAdC E 0 0), .int x])).length) Slot.unset).toArray = ls at hl ⊢
  have hl : lv_has ls 2 [(0, .ref (mAdC E 0 0)), (1, .int x)] := hl
  refine lv_aload_n hx hb dX7_extend_0 rfl (lv_at hl 0 rfl) ?_
  refine mv_callV (Y := mLC) (C := RX7) (k := 0) (i := 0) (rest := []) Cx hG hH hS (c_X7_takeTapeHash l E A hO S ts hts) q_co_X7_takeTapeHash q_ml_X7_100 q_im_X7_takeTapeHash q_se_X7_takeTapeHash q_in_X7 okC_0 rfl rfl hd_X7_takeTapeHash ⟨Nat.le_of_ble_eq_true rfl, Nat.le_of_ble_eq_true rfl⟩ rfl hl.1 rfl (Nat.le_of_ble_eq_true rfl) ⟨Nat.le_of_ble_eq_true rfl, Nat.le_of_ble_eq_true rfl⟩ dX7_extend_1 (fun Sa H locs hP1 hH hS => ?_)
  refine W.eq (g2 := F0 m 4 ls []) rfl ?_
  refine lv_iload_n hx hb dX7_extend_4 rfl (lv_at hl 1 rfl) ?_
  refine lv_if_lt (tgt := 14) hx hb dX7_extend_5 (by decide) (fun h5 => ?_) (fun h5 => ?_)
  · skip
    refine lv_iconst (v := (-1 : Int32)) hx hb dX7_extend_14 (by decide) ?_
    exact mv_reti Cx hr hH hS ((if_neg (fun q => q.1 h5)).symm) (⟨hP1.2.1, fun r _ q => absurd q (fun q => q.1 h5), fun _ => hP1.2.2⟩) dX7_extend_15 hlocks
  · skip
    refine lv_iload_n hx hb dX7_extend_8 rfl (lv_at hl 1 rfl) ?_
    refine lv_bipush (v := 8) hx hb dX7_extend_9 (by decide) ?_
    refine mv_eqi (x' := nI 8) (rfl) ?_
    refine lv_icmp_lt (tgt := 16) hx hb dX7_extend_11 (by decide) (fun h11 => ?_) (fun h11 => ?_)
    · skip
      obtain ⟨r, hr8, hxr⟩ := nI_of_lt (by decide) h5 h11
      refine lv_aload_n hx hb dX7_extend_16 rfl (lv_at hl 0 rfl) ?_
      refine g_X7_registers Cx hG hH q_fl_X7_53 dX7_extend_17 ?_
      refine lv_iload_n hx hb dX7_extend_20 rfl (lv_at hl 1 rfl) ?_
      refine mv_eqi (x' := nI r) (hxr) ?_
      refine lv_aload_n hx hb dX7_extend_21 rfl (lv_at hl 0 rfl) ?_
      refine g_X7_scratch Cx hG hH q_fl_X7_47 dX7_extend_22 ?_
      refine lv_aload_n hx hb dX7_extend_25 rfl (lv_at hl 0 rfl) ?_
      refine g_X7_hasher Cx hG hH q_fl_X7_10 dX7_extend_26 ?_
      refine mv_callV (Y := mLC) (C := RX2) (k := 15) (i := 0) (rest := []) Cx hG hH hS (c_X2_mixIn l E A hO Sa r hr8 14 0 isC_14 ⟨by simp [bX], by decide⟩) q_co_X2_mixIn q_ml_X7_111 q_im_X2_mixIn q_se_X2_mixIn q_in_X2 okC_15 rfl rfl hd_X2_mixIn ⟨Nat.le_of_ble_eq_true rfl, Nat.le_of_ble_eq_true rfl⟩ rfl hl.1 rfl (Nat.le_of_ble_eq_true rfl) ⟨Nat.le_of_ble_eq_true rfl, Nat.le_of_ble_eq_true rfl⟩ dX7_extend_29 (fun S29 H locs hP29 hH hS => ?_)
      refine W.eq (g2 := F0 m 32 ls []) rfl ?_
      refine lv_iconst (v := 0) hx hb dX7_extend_32 (by decide) ?_
      exact mv_reti Cx hr hH hS ((if_pos ⟨h5, h11⟩).symm) (⟨hP1.2.1.keep hP29.2.2.2 (by simp [scX, hsX, bX]) (by simp [scX, hsX, bX]), fun r2 e2 _ => by
              have er : r2 = r := by rw [← e2, hxr, nI_clamp (by omega)]
              subst er
              exact ⟨fun j hj => (hP29.1 j hj).trans (by rw [mTk_congr hP1.1, mTk_congr (g := fun j => S.2.1 16 0 (32 * r2 + j)) (fun j _ => (hP1.2.2 16 0 (by simp [scX, hsX, bX])).2.1 _)]), fun q hq => (hP29.2.1 q hq).trans ((hP1.2.2 16 0 (by simp [scX, hsX, bX])).2.1 q), hP29.2.2.1.trans (by rw [(hP1.2.2 15 0 (by simp [scX, hsX, bX])).1 2]), (hP1.2.2.wk (fun _ _ h => h.elim Or.inl (fun z => Or.inr (Or.inl z)))).tr (hP29.2.2.2.wk (fun _ _ h => h.elim Or.inl (fun z => Or.inr (Or.inr z))))⟩, fun q => absurd ⟨h5, h11⟩ q⟩) dX7_extend_33 hlocks
    · skip
      refine lv_iconst (v := (-1 : Int32)) hx hb dX7_extend_14 (by decide) ?_
      exact mv_reti Cx hr hH hS ((if_neg (fun q => h11 q.2)).symm) (⟨hP1.2.1, fun r _ q => absurd q (fun q => h11 q.2), fun _ => hP1.2.2⟩) dX7_extend_15 hlocks

set_option maxHeartbeats 4000000 in
set_option maxRecDepth 100000 in
theorem c_X7_reset (l : Launch) (E : mEv) (A : Nat → Prop) (hO : mOwn mLC E A) (S : mSt) (x : Int32) : Met l yX7_reset (Cond.code yX7_reset cX7_reset 2 (some .int) :: mv_ws) (mRm 1 22) (mPc mLC E A S [.ref (mAdC E 0 0), .int x]) (mQ mLC E A (fun S' => (∀ r, x.toNatClampNeg = r → (x = 6 ∨ x = 7) → (∀ q, q < 32 → S'.2.1 16 0 (32 * r + q) = (0 : Int32).toInt8) ∧ (∀ q, q < 32 * r ∨ 32 * r + 32 ≤ q → S'.2.1 16 0 q = S.2.1 16 0 q) ∧ S'.1 15 0 2 = S.1 15 0 2 + 1 ∧ mSame (fun k _ => k = 16 ∨ k = 15) S S') ∧ (¬ (x = 6 ∨ x = 7) → S' = S)) (some (.int (if x = 6 ∨ x = 7 then 0 else -1)))) 0 0 A := by
  refine Met.ofW (cc := cX7_reset) (maxL := 2) (ret := (some .int)) (by decide) rfl ?_
  intro p e s m args below meth c s₁ B hml hv
  obtain ⟨rfl, hG, hH⟩ := hv
  have hx := B.exec
  have hb := B.bytes
  have hr := B.returns
  have hlocks := B.notSynchronized
  have Cx : CallFix p m c cX7_reset 2 s ([.ref (mAdC E 0 0), .int x] : List Value).toArray (Cond.code yX7_reset cX7_reset 2 (some .int) :: mv_ws) RX7 := ⟨hx, hb, hml, findClass_of_methodNamed B.named, atoms_spec (ws := Cond.code yX7_reset cX7_reset 2 (some .int) :: mv_ws) B.pre⟩
  have hS : va_S A s.heap s.heap [] := va_S.rf
  have hl := lv_entry ([.ref (mAdC E 0 0), .int x]) (n := 2) (Nat.le_of_ble_eq_true rfl)
  rw [lg_entry_eq]
  generalize (lg_sl ([.ref (mAdC E 0 0), .int x]) ++ List.replicate (2 - (lg_sl ([.ref (mAdC E 0 0), .int x])).length) Slot.unset).toArray = ls at hl ⊢
  have hl : lv_has ls 2 [(0, .ref (mAdC E 0 0)), (1, .int x)] := hl
  refine lv_iload_n hx hb dX7_reset_0 rfl (lv_at hl 1 rfl) ?_
  refine lv_bipush (v := 6) hx hb dX7_reset_1 (by decide) ?_
  refine lv_icmp_eq (tgt := 14) hx hb dX7_reset_3 (by decide) (fun h3 => ?_) (fun h3 => ?_)
  · skip
    have hxr : x = nI 6 := h3
    refine lv_aload_n hx hb dX7_reset_14 rfl (lv_at hl 0 rfl) ?_
    refine g_X7_registers Cx hG hH q_fl_X7_53 dX7_reset_15 ?_
    refine lv_iload_n hx hb dX7_reset_18 rfl (lv_at hl 1 rfl) ?_
    refine mv_eqi (x' := nI 6) (hxr) ?_
    refine mv_callV (Y := mLC) (C := RX2) (k := 15) (i := 0) (rest := []) Cx hG hH hS (c_X2_zero l E A hO S 6 (by decide)) q_co_X2_zero q_ml_X7_115 q_im_X2_zero q_se_X2_zero q_in_X2 okC_15 rfl rfl hd_X2_zero ⟨Nat.le_of_ble_eq_true rfl, Nat.le_of_ble_eq_true rfl⟩ rfl hl.1 rfl (Nat.le_of_ble_eq_true rfl) ⟨Nat.le_of_ble_eq_true rfl, Nat.le_of_ble_eq_true rfl⟩ dX7_reset_19 (fun S19 H locs hP19 hH hS => ?_)
    refine W.eq (g2 := F0 m 22 ls []) rfl ?_
    refine lv_iconst (v := 0) hx hb dX7_reset_22 (by decide) ?_
    exact mv_reti Cx hr hH hS ((if_pos (Or.inl h3)).symm) (⟨fun r e _ => by (have er : r = 6 := by (rw [← e, hxr]; rfl)); subst er; exact hP19, fun q => absurd (Or.inl h3) q⟩) dX7_reset_23 hlocks
  · skip
    refine lv_iload_n hx hb dX7_reset_6 rfl (lv_at hl 1 rfl) ?_
    refine lv_bipush (v := 7) hx hb dX7_reset_7 (by decide) ?_
    refine lv_icmp_eq (tgt := 14) hx hb dX7_reset_9 (by decide) (fun h9 => ?_) (fun h9 => ?_)
    · skip
      have hxr : x = nI 7 := h9
      refine lv_aload_n hx hb dX7_reset_14 rfl (lv_at hl 0 rfl) ?_
      refine g_X7_registers Cx hG hH q_fl_X7_53 dX7_reset_15 ?_
      refine lv_iload_n hx hb dX7_reset_18 rfl (lv_at hl 1 rfl) ?_
      refine mv_eqi (x' := nI 7) (hxr) ?_
      refine mv_callV (Y := mLC) (C := RX2) (k := 15) (i := 0) (rest := []) Cx hG hH hS (c_X2_zero l E A hO S 7 (by decide)) q_co_X2_zero q_ml_X7_115 q_im_X2_zero q_se_X2_zero q_in_X2 okC_15 rfl rfl hd_X2_zero ⟨Nat.le_of_ble_eq_true rfl, Nat.le_of_ble_eq_true rfl⟩ rfl hl.1 rfl (Nat.le_of_ble_eq_true rfl) ⟨Nat.le_of_ble_eq_true rfl, Nat.le_of_ble_eq_true rfl⟩ dX7_reset_19 (fun S19 H locs hP19 hH hS => ?_)
      refine W.eq (g2 := F0 m 22 ls []) rfl ?_
      refine lv_iconst (v := 0) hx hb dX7_reset_22 (by decide) ?_
      exact mv_reti Cx hr hH hS ((if_pos (Or.inr h9)).symm) (⟨fun r e _ => by (have er : r = 7 := by (rw [← e, hxr]; rfl)); subst er; exact hP19, fun q => absurd (Or.inr h9) q⟩) dX7_reset_23 hlocks
    · skip
      refine lv_iconst (v := (-1 : Int32)) hx hb dX7_reset_12 (by decide) ?_
      exact mv_reti Cx hr hH hS ((if_neg (fun q => q.elim h3 h9)).symm) (⟨fun r _ q => absurd q (fun q => q.elim h3 h9), fun _ => rfl⟩) dX7_reset_13 hlocks

set_option maxHeartbeats 4000000 in
set_option maxRecDepth 100000 in
theorem c_X7_state (l : Launch) (E : mEv) (A : Nat → Prop) (hO : mOwn mLC E A) (S : mSt) (x : Int32) : Met l yX7_state (Cond.code yX7_state cX7_state 2 (some .int) :: mv_ws) (mRm 4 94) (mPc mLC E A S [.ref (mAdC E 0 0), .int x]) (mQ mLC E A (fun S' => bHas S' 1 (mTk (shaL (regL (S.2.1 16 0) x 8)) 32) ∧ mSame (fun k i => scX k i ∨ bX 1 k i) S S') (some (.int 32))) 0 0 A := by
  refine Met.ofW (cc := cX7_state) (maxL := 2) (ret := (some .int)) (by decide) rfl ?_
  intro p e s m args below meth c s₁ B hml hv
  obtain ⟨rfl, hG, hH⟩ := hv
  have hx := B.exec
  have hb := B.bytes
  have hr := B.returns
  have hlocks := B.notSynchronized
  have Cx : CallFix p m c cX7_state 2 s ([.ref (mAdC E 0 0), .int x] : List Value).toArray (Cond.code yX7_state cX7_state 2 (some .int) :: mv_ws) RX7 := ⟨hx, hb, hml, findClass_of_methodNamed B.named, atoms_spec (ws := Cond.code yX7_state cX7_state 2 (some .int) :: mv_ws) B.pre⟩
  have hS : va_S A s.heap s.heap [] := va_S.rf
  have hl := lv_entry ([.ref (mAdC E 0 0), .int x]) (n := 2) (Nat.le_of_ble_eq_true rfl)
  rw [lg_entry_eq]
  generalize (lg_sl ([.ref (mAdC E 0 0), .int x]) ++ List.replicate (2 - (lg_sl ([.ref (mAdC E 0 0), .int x])).length) Slot.unset).toArray = ls at hl ⊢
  have hl : lv_has ls 2 [(0, .ref (mAdC E 0 0)), (1, .int x)] := hl
  refine lv_aload_n hx hb dX7_state_0 rfl (lv_at hl 0 rfl) ?_
  refine g_X7_registers Cx hG hH q_fl_X7_53 dX7_state_1 ?_
  refine lv_iload_n hx hb dX7_state_4 rfl (lv_at hl 1 rfl) ?_
  refine lv_aload_n hx hb dX7_state_5 rfl (lv_at hl 0 rfl) ?_
  refine g_X7_hasher Cx hG hH q_fl_X7_10 dX7_state_6 ?_
  refine lv_aload_n hx hb dX7_state_9 rfl (lv_at hl 0 rfl) ?_
  refine g_X7_scratch Cx hG hH q_fl_X7_47 dX7_state_10 ?_
  refine mv_callV (Y := mLC) (C := RX2) (k := 15) (i := 0) (rest := []) Cx hG hH hS (c_X2_measure l E A hO S x 14 0 isC_14) q_co_X2_measure q_ml_X7_118 q_im_X2_measure q_se_X2_measure q_in_X2 okC_15 rfl rfl hd_X2_measure ⟨Nat.le_of_ble_eq_true rfl, Nat.le_of_ble_eq_true rfl⟩ rfl hl.1 rfl (Nat.le_of_ble_eq_true rfl) ⟨Nat.le_of_ble_eq_true rfl, Nat.le_of_ble_eq_true rfl⟩ dX7_state_13 (fun S13 H locs hP13 hH hS => ?_)
  refine W.eq (g2 := F0 m 16 ls []) rfl ?_
  refine lv_aload_n hx hb dX7_state_16 rfl (lv_at hl 0 rfl) ?_
  refine lv_aload_n hx hb dX7_state_17 rfl (lv_at hl 0 rfl) ?_
  refine g_X7_scratch Cx hG hH q_fl_X7_47 dX7_state_18 ?_
  refine lv_bipush (v := 32) hx hb dX7_state_21 (by decide) ?_
  refine mv_callV (Y := mLC) (C := RX7) (k := 0) (i := 0) (rest := []) Cx hG hH hS (c_X7_tell l E A hO S13 14 0 32 32 isC_14 (by decide) (by decide)) q_co_X7_tell q_ml_X7_103 q_im_X7_tell q_se_X7_tell q_in_X7 okC_0 rfl rfl hd_X7_tell ⟨Nat.le_of_ble_eq_true rfl, Nat.le_of_ble_eq_true rfl⟩ rfl hl.1 rfl (Nat.le_of_ble_eq_true rfl) ⟨Nat.le_of_ble_eq_true rfl, Nat.le_of_ble_eq_true rfl⟩ dX7_state_23 (fun S23 H locs hP23 hH hS => ?_)
  refine W.eq (g2 := F0 m 26 ls [.int (nI 32)]) rfl ?_
  exact mv_reti Cx hr hH hS (rfl) (⟨by have h := hP23.1; rw [mTk_congr hP13.1] at h; exact h, (hP13.2.wk (fun k i h => Or.inl (h.elim (fun z => z) (fun z => by rw [z.1]; exact sc_14)))).tr (hP23.2.wk (fun _ _ h => Or.inr h))⟩) dX7_state_26 hlocks

set_option maxHeartbeats 4000000 in
set_option maxRecDepth 100000 in
theorem c_X7_open (l : Launch) (E : mEv) (A : Nat → Prop) (hO : mOwn mLC E A) (S : mSt) (x : Int32) : Met l yX7_open (Cond.code yX7_open cX7_open 2 (some .int) :: mv_ws) (mRm 2 43) (mPc mLC E A S [.ref (mAdC E 0 0), .int x]) (mQ mLC E A (fun S' => (∀ i, x.toNatClampNeg = i → (¬ x < 0 ∧ x < nI 4) → (∀ q, q < 32 → S'.2.1 20 i q = (0 : Int32).toInt8) ∧ S'.1 19 i 1 = 1 ∧ S'.1 19 i 2 = 0 ∧ S'.1 19 i 3 = 0 ∧ S'.1 19 i 4 = 0 ∧ S'.1 19 i 6 = 0 ∧ mSame (seX i) S S') ∧ (¬ (¬ x < 0 ∧ x < nI 4) → S' = S)) (some (.int (if ¬ x < 0 ∧ x < nI 4 then 0 else -1)))) 0 0 A := by
  refine Met.ofW (cc := cX7_open) (maxL := 2) (ret := (some .int)) (by decide) rfl ?_
  intro p e s m args below meth c s₁ B hml hv
  obtain ⟨rfl, hG, hH⟩ := hv
  have hx := B.exec
  have hb := B.bytes
  have hr := B.returns
  have hlocks := B.notSynchronized
  have Cx : CallFix p m c cX7_open 2 s ([.ref (mAdC E 0 0), .int x] : List Value).toArray (Cond.code yX7_open cX7_open 2 (some .int) :: mv_ws) RX7 := ⟨hx, hb, hml, findClass_of_methodNamed B.named, atoms_spec (ws := Cond.code yX7_open cX7_open 2 (some .int) :: mv_ws) B.pre⟩
  have hS : va_S A s.heap s.heap [] := va_S.rf
  have hl := lv_entry ([.ref (mAdC E 0 0), .int x]) (n := 2) (Nat.le_of_ble_eq_true rfl)
  rw [lg_entry_eq]
  generalize (lg_sl ([.ref (mAdC E 0 0), .int x]) ++ List.replicate (2 - (lg_sl ([.ref (mAdC E 0 0), .int x])).length) Slot.unset).toArray = ls at hl ⊢
  have hl : lv_has ls 2 [(0, .ref (mAdC E 0 0)), (1, .int x)] := hl
  refine lv_iload_n hx hb dX7_open_0 rfl (lv_at hl 1 rfl) ?_
  refine lv_if_lt (tgt := 9) hx hb dX7_open_1 (by decide) (fun h1 => ?_) (fun h1 => ?_)
  · skip
    refine lv_iconst (v := (-1 : Int32)) hx hb dX7_open_9 (by decide) ?_
    exact mv_reti Cx hr hH hS ((if_neg (fun q => q.1 h1)).symm) (⟨fun r _ q => absurd q (fun q => q.1 h1), fun _ => rfl⟩) dX7_open_10 hlocks
  · skip
    refine lv_iload_n hx hb dX7_open_4 rfl (lv_at hl 1 rfl) ?_
    refine lv_iconst (v := 4) hx hb dX7_open_5 (by decide) ?_
    refine mv_eqi (x' := nI 4) (rfl) ?_
    refine lv_icmp_lt (tgt := 11) hx hb dX7_open_6 (by decide) (fun h6 => ?_) (fun h6 => ?_)
    · skip
      obtain ⟨i, hi, hxi⟩ := nI_of_lt (by decide) h1 h6
      refine lv_aload_n hx hb dX7_open_11 rfl (lv_at hl 0 rfl) ?_
      refine g_X7_sessions Cx hG hH q_fl_X7_59 dX7_open_12 ?_
      refine lv_iload_n hx hb dX7_open_15 rfl (lv_at hl 1 rfl) ?_
      refine al_18 Cx hG hH i (hxi) (hi) dX7_open_16 ?_
      refine mv_callV (Y := mLC) (C := RX4) (k := 19) (i := i) (rest := []) Cx hG hH hS (c_X4_begin l E A hO S i hi) q_co_X4_begin q_ml_X7_135 q_im_X4_begin q_se_X4_begin q_in_X4 (okC_19 hi) rfl rfl hd_X4_begin ⟨Nat.le_of_ble_eq_true rfl, Nat.le_of_ble_eq_true rfl⟩ rfl hl.1 rfl (Nat.le_of_ble_eq_true rfl) ⟨Nat.le_of_ble_eq_true rfl, Nat.le_of_ble_eq_true rfl⟩ dX7_open_17 (fun S17 H locs hP17 hH hS => ?_)
      refine W.eq (g2 := F0 m 20 ls []) rfl ?_
      refine lv_iconst (v := 0) hx hb dX7_open_20 (by decide) ?_
      exact mv_reti Cx hr hH hS ((if_pos ⟨h1, h6⟩).symm) (⟨fun r e _ => by (have er : r = i := by (rw [← e, hxi, nI_clamp (by omega)])); subst er; exact hP17, fun q => absurd ⟨h1, h6⟩ q⟩) dX7_open_21 hlocks
    · skip
      refine lv_iconst (v := (-1 : Int32)) hx hb dX7_open_9 (by decide) ?_
      exact mv_reti Cx hr hH hS ((if_neg (fun q => h6 q.2)).symm) (⟨fun r _ q => absurd q (fun q => h6 q.2), fun _ => rfl⟩) dX7_open_10 hlocks
