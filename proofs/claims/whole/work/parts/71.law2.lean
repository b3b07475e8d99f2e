/-! ===== the law's loop ===== -/
set_option maxHeartbeats 4000000 in
set_option maxRecDepth 100000 in
theorem law_loop {p : Program} {l : Launch} {e : Env} {s : State} {m : MethodId} {below : List Frame} {meth : Method} {c : Code} {Q : State → Prop} {b L : Nat} {xs : Nat → Int32} {E F : mEv} {A G : Nat → Prop} (B : lwB p s m c b L xs E F A G) {ca sl : Nat} (hca : ca ≤ 600000) (hsl : sl ≤ 7302250)
    (fin : ∀ (H : Heap) (ls : Array Slot), W p l e room_1 s m #[Value.ref b] below meth c H [] 600000 7302250 Q (F0 m 1071 ls [.int 1])) :
    ∀ (n i N : Nat) (C M : mSt) (H : Heap) (ls : Array Slot), L < i + 6 * n → 1 ≤ n → i ≤ 391 → N + n ≤ 1000 → Rel N C M → mHold mLC E C H → mHold mLM F M H → va_S (fun q : Nat => s.heap.size ≤ q) s.heap H [] → lv_has ls 4 [(0, .ref b), (1, .ref (mAdC E 0 0)), (2, .ref (mAdM F 0 0)), (3, .int (nI i))] → W p l e room_1 s m #[Value.ref b] below meth c H [] ca sl Q (F0 m 28 ls []) := by
  have B' := B
  obtain ⟨Cx, hGC, hGM, hOC, hOM, hX, hbl, hAU, hGU, hdis, hL⟩ := B
  have hx := Cx.1
  have hb := Cx.2.1
  have hbA : ¬ (fun q : Nat => s.heap.size ≤ q) b := Nat.not_le.mpr hbl
  intro n
  induction n with
  | zero =>
    intro i N C M H ls h1 h2
    exact absurd h2 (by omega)
  | succ n ih =>
    intro i N C M H ls h1 h2 hi hN hR hHC hHM hU hl
    refine lv_iload_n hx hb dL_law_28 rfl (lv_at hl 3 rfl) ?_
    refine lv_aload_n hx hb dL_law_29 rfl (lv_at hl 0 rfl) ?_
    refine va_slen hx hb hX hbl hbA hU dL_law_30 ?_
    refine lv_bipush (v := 6) hx hb dL_law_31 (by decide) ?_
    refine lv_isub hx hb dL_law_33 ?_
    refine lv_icmp_gt (tgt := 1070) hx hb dL_law_34 (by decide) (fun hg => ?_) (fun hg => ?_)
    · refine lv_iconst (v := 1) hx hb dL_law_1070 (by decide) ?_
      refine W.widen (k := 600000) (n := 7302250) hca hsl ?_
      exact fin _ _
    · obtain ⟨n', e1, e2⟩ := sub_le (x := nI i) (a := L) (b := 6) (by omega) (by decide) (nI_pos (by omega)) (Int32.not_lt.mp hg)
      have e3 : i = n' := (nI_eq (by omega) (by omega)).mp e1
      have hi5 : i + 5 < L := by omega
      have K : ∀ (C' M' : mSt) (H1 : Heap), Rel (N + 1) C' M' → mHold mLC E C' H1 → mHold mLM F M' H1 → va_S (fun q : Nat => s.heap.size ≤ q) s.heap H1 [] → W p l e room_1 s m #[Value.ref b] below meth c H1 [] ca sl Q (F0 m 1064 ls []) := by
        intro C' M' H1 k1 k2 k3 k4
        refine lv_iinc (v := nI (i + 6)) (lv' := [(3, .int (nI (i + 6))), (0, .ref b), (1, .ref (mAdC E 0 0)), (2, .ref (mAdM F 0 0))]) hx hb dL_law_1064 hl (k := 3) rfl (nI_add i 6) (by decide) rfl (fun ls hl => ?_)
        refine lv_goto (tgt := 28) hx hb dL_law_1067 (by decide) ?_
        exact ih (i + 6) (N + 1) C' M' H1 ls (by omega) (by omega) (by omega) (by omega) k1 k2 k3 k4 (lv_sub hl [1, 2, 3, 0] rfl)
      refine lv_aload_n hx hb dL_law_37 rfl (lv_at hl 0 rfl) ?_
      refine lv_iload_n hx hb dL_law_38 rfl (lv_at hl 3 rfl) ?_
      refine va_sld hx hb hX hbl hbA hU (vp_in_nI (by omega) (by omega)) dL_law_39 ?_
      refine lv_bipush (v := 63) hx hb dL_law_40 (by decide) ?_
      refine lv_iand hx hb dL_law_42 ?_
      rcases pk_ix (xs (nI i).toNatClampNeg &&& 63) (n := 34) (by decide) with hsw | hsw | ⟨jsw, hjsw, esw⟩
      · refine lv_tableOut (tgt := 1064) hx hb dL_law_43 (Or.inl (by have h := Int32.lt_iff_toInt_lt.mp hsw; rwa [Int32.toInt_zero] at h)) (by decide) ?_
        exact K C M H ⟨hR.1, hR.2.mono (Nat.le_succ _)⟩ hHC hHM hU
      · refine lv_tableOut (tgt := 1064) hx hb dL_law_43 (Or.inr (by have h := Int32.le_iff_toInt_le.mp hsw; rw [nI_toInt (by decide)] at h; omega)) (by decide) ?_
        exact K C M H ⟨hR.1, hR.2.mono (Nat.le_succ _)⟩ hHC hHM hU
      · rcases (show jsw = 0 ∨ jsw = 1 ∨ jsw = 2 ∨ jsw = 3 ∨ jsw = 4 ∨ jsw = 5 ∨ jsw = 6 ∨ jsw = 7 ∨ jsw = 8 ∨ jsw = 9 ∨ jsw = 10 ∨ jsw = 11 ∨ jsw = 12 ∨ jsw = 13 ∨ jsw = 14 ∨ jsw = 15 ∨ jsw = 16 ∨ jsw = 17 ∨ jsw = 18 ∨ jsw = 19 ∨ jsw = 20 ∨ jsw = 21 ∨ jsw = 22 ∨ jsw = 23 ∨ jsw = 24 ∨ jsw = 25 ∨ jsw = 26 ∨ jsw = 27 ∨ jsw = 28 ∨ jsw = 29 ∨ jsw = 30 ∨ jsw = 31 ∨ jsw = 32 ∨ jsw = 33 by omega) with rfl | rfl | rfl | rfl | rfl | rfl | rfl | rfl | rfl | rfl | rfl | rfl | rfl | rfl | rfl | rfl | rfl | rfl | rfl | rfl | rfl | rfl | rfl | rfl | rfl | rfl | rfl | rfl | rfl | rfl | rfl | rfl | rfl | rfl
        · refine lv_tableIn (off := 149) (tgt := 192) hx hb dL_law_43 (by rw [esw]; decide) (by rw [esw]; decide) (by rw [esw]; decide) (by decide) ?_
          exact lw_c_feed B' hca hsl hR (by omega) hHC hHM hU hl hi5 K
        · refine lv_tableIn (off := 212) (tgt := 255) hx hb dL_law_43 (by rw [esw]; decide) (by rw [esw]; decide) (by rw [esw]; decide) (by decide) ?_
          exact lw_c_end B' hca hsl hR (by omega) hHC hHM hU hl hi5 K
        · refine lv_tableIn (off := 235) (tgt := 278) hx hb dL_law_43 (by rw [esw]; decide) (by rw [esw]; decide) (by rw [esw]; decide) (by decide) ?_
          exact lw_c_octet B' hca hsl hR (by omega) hHC hHM hU hl hi5 K
        · refine lv_tableIn (off := 258) (tgt := 301) hx hb dL_law_43 (by rw [esw]; decide) (by rw [esw]; decide) (by rw [esw]; decide) (by decide) ?_
          exact lw_c_back B' hca hsl hR (by omega) hHC hHM hU hl hi5 K
        · refine lv_tableIn (off := 271) (tgt := 314) hx hb dL_law_43 (by rw [esw]; decide) (by rw [esw]; decide) (by rw [esw]; decide) (by decide) ?_
          exact lw_c_hash B' hca hsl hR (by omega) hHC hHM hU hl hi5 K
        · refine lv_tableIn (off := 284) (tgt := 327) hx hb dL_law_43 (by rw [esw]; decide) (by rw [esw]; decide) (by rw [esw]; decide) (by decide) ?_
          exact lw_c_key B' hca hsl hR (by omega) hHC hHM hU hl hi5 K
        · refine lv_tableIn (off := 297) (tgt := 340) hx hb dL_law_43 (by rw [esw]; decide) (by rw [esw]; decide) (by rw [esw]; decide) (by decide) ?_
          exact lw_c_extend B' hca hsl hR (by omega) hHC hHM hU hl hi5 K
        · refine lv_tableIn (off := 320) (tgt := 363) hx hb dL_law_43 (by rw [esw]; decide) (by rw [esw]; decide) (by rw [esw]; decide) (by decide) ?_
          exact lw_c_reset B' hca hsl hR (by omega) hHC hHM hU hl hi5 K
        · refine lv_tableIn (off := 343) (tgt := 386) hx hb dL_law_43 (by rw [esw]; decide) (by rw [esw]; decide) (by rw [esw]; decide) (by decide) ?_
          exact lw_c_state B' hca hsl hR (by omega) hHC hHM hU hl hi5 K
        · refine lv_tableIn (off := 366) (tgt := 409) hx hb dL_law_43 (by rw [esw]; decide) (by rw [esw]; decide) (by rw [esw]; decide) (by decide) ?_
          exact lw_c_quote B' hca hsl hR (by omega) hHC hHM hU hl hi5 K
        · refine lv_tableIn (off := 389) (tgt := 432) hx hb dL_law_43 (by rw [esw]; decide) (by rw [esw]; decide) (by rw [esw]; decide) (by decide) ?_
          exact lw_c_open B' hca hsl hR (by omega) hHC hHM hU hl hi5 K
        · refine lv_tableIn (off := 412) (tgt := 455) hx hb dL_law_43 (by rw [esw]; decide) (by rw [esw]; decide) (by rw [esw]; decide) (by decide) ?_
          exact lw_c_policyState B' hca hsl hR (by omega) hHC hHM hU hl hi5 K
        · refine lv_tableIn (off := 445) (tgt := 488) hx hb dL_law_43 (by rw [esw]; decide) (by rw [esw]; decide) (by rw [esw]; decide) (by decide) ?_
          exact lw_c_policyAuth B' hca hsl hR (by omega) hHC hHM hU hl hi5 K
        · refine lv_tableIn (off := 468) (tgt := 511) hx hb dL_law_43 (by rw [esw]; decide) (by rw [esw]; decide) (by rw [esw]; decide) (by decide) ?_
          exact lw_c_policyCode B' hca hsl hR (by omega) hHC hHM hU hl hi5 K
        · refine lv_tableIn (off := 501) (tgt := 544) hx hb dL_law_43 (by rw [esw]; decide) (by rw [esw]; decide) (by rw [esw]; decide) (by decide) ?_
          exact lw_c_policyTime B' hca hsl hR (by omega) hHC hHM hU hl hi5 K
        · refine lv_tableIn (off := 534) (tgt := 577) hx hb dL_law_43 (by rw [esw]; decide) (by rw [esw]; decide) (by rw [esw]; decide) (by decide) ?_
          exact lw_c_policyOr B' hca hsl hR (by omega) hHC hHM hU hl hi5 K
        · refine lv_tableIn (off := 557) (tgt := 600) hx hb dL_law_43 (by rw [esw]; decide) (by rw [esw]; decide) (by rw [esw]; decide) (by decide) ?_
          exact lw_c_digest B' hca hsl hR (by omega) hHC hHM hU hl hi5 K
        · refine lv_tableIn (off := 580) (tgt := 623) hx hb dL_law_43 (by rw [esw]; decide) (by rw [esw]; decide) (by rw [esw]; decide) (by decide) ?_
          exact lw_c_seal B' hca hsl hR (by omega) hHC hHM hU hl hi5 K
        · refine lv_tableIn (off := 603) (tgt := 646) hx hb dL_law_43 (by rw [esw]; decide) (by rw [esw]; decide) (by rw [esw]; decide) (by decide) ?_
          exact lw_c_load B' hca hsl hR (by omega) hHC hHM hU hl hi5 K
        · refine lv_tableIn (off := 616) (tgt := 659) hx hb dL_law_43 (by rw [esw]; decide) (by rw [esw]; decide) (by rw [esw]; decide) (by decide) ?_
          exact lw_c_unseal B' hca hsl hR (by omega) hHC hHM hU hl hi5 K
        · refine lv_tableIn (off := 649) (tgt := 692) hx hb dL_law_43 (by rw [esw]; decide) (by rw [esw]; decide) (by rw [esw]; decide) (by decide) ?_
          exact lw_c_flush B' hca hsl hR (by omega) hHC hHM hU hl hi5 K
        · refine lv_tableIn (off := 672) (tgt := 715) hx hb dL_law_43 (by rw [esw]; decide) (by rw [esw]; decide) (by rw [esw]; decide) (by decide) ?_
          exact lw_c_define B' hca hsl hR (by omega) hHC hHM hU hl hi5 K
        · refine lv_tableIn (off := 725) (tgt := 768) hx hb dL_law_43 (by rw [esw]; decide) (by rw [esw]; decide) (by rw [esw]; decide) (by decide) ?_
          exact lw_c_undefine B' hca hsl hR (by omega) hHC hHM hU hl hi5 K
        · refine lv_tableIn (off := 748) (tgt := 791) hx hb dL_law_43 (by rw [esw]; decide) (by rw [esw]; decide) (by rw [esw]; decide) (by decide) ?_
          exact lw_c_write B' hca hsl hR (by omega) hHC hHM hU hl hi5 K
        · refine lv_tableIn (off := 791) (tgt := 834) hx hb dL_law_43 (by rw [esw]; decide) (by rw [esw]; decide) (by rw [esw]; decide) (by decide) ?_
          exact lw_c_count B' hca hsl hR (by omega) hHC hHM hU hl hi5 K
        · refine lv_tableIn (off := 824) (tgt := 867) hx hb dL_law_43 (by rw [esw]; decide) (by rw [esw]; decide) (by rw [esw]; decide) (by decide) ?_
          exact lw_c_chain B' hca hsl hR (by omega) hHC hHM hU hl hi5 K
        · refine lv_tableIn (off := 857) (tgt := 900) hx hb dL_law_43 (by rw [esw]; decide) (by rw [esw]; decide) (by rw [esw]; decide) (by decide) ?_
          exact lw_c_read B' hca hsl hR (by omega) hHC hHM hU hl hi5 K
        · refine lv_tableIn (off := 890) (tgt := 933) hx hb dL_law_43 (by rw [esw]; decide) (by rw [esw]; decide) (by rw [esw]; decide) (by decide) ?_
          exact lw_c_shut B' hca hsl hR (by omega) hHC hHM hU hl hi5 K
        · refine lv_tableIn (off := 923) (tgt := 966) hx hb dL_law_43 (by rw [esw]; decide) (by rw [esw]; decide) (by rw [esw]; decide) (by decide) ?_
          exact lw_c_own B' hca hsl hR (by omega) hHC hHM hU hl hi5 K
        · refine lv_tableIn (off := 936) (tgt := 979) hx hb dL_law_43 (by rw [esw]; decide) (by rw [esw]; decide) (by rw [esw]; decide) (by decide) ?_
          exact lw_c_unlock B' hca hsl hR (by omega) hHC hHM hU hl hi5 K
        · refine lv_tableIn (off := 949) (tgt := 992) hx hb dL_law_43 (by rw [esw]; decide) (by rw [esw]; decide) (by rw [esw]; decide) (by decide) ?_
          exact lw_c_clear B' hca hsl hR (by omega) hHC hHM hU hl hi5 K
        · refine lv_tableIn (off := 962) (tgt := 1005) hx hb dL_law_43 (by rw [esw]; decide) (by rw [esw]; decide) (by rw [esw]; decide) (by decide) ?_
          exact lw_c_tick B' hca hsl hR (by omega) hHC hHM hU hl hi5 K
        · refine lv_tableIn (off := 985) (tgt := 1028) hx hb dL_law_43 (by rw [esw]; decide) (by rw [esw]; decide) (by rw [esw]; decide) (by decide) ?_
          exact lw_c_restart B' hca hsl hR (by omega) hHC hHM hU hl hi5 K
        · refine lv_tableIn (off := 998) (tgt := 1041) hx hb dL_law_43 (by rw [esw]; decide) (by rw [esw]; decide) (by rw [esw]; decide) (by decide) ?_
          exact lw_c_look B' hca hsl hR (by omega) hHC hHM hU hl hi5 K
