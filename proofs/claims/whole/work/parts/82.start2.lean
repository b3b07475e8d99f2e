/-! ===== the law, from its entry ===== -/
theorem hold_new {Y : mLY} {E : mEv} {S : mSt} {H H1 : Heap} {z : Nat} (h : mHold Y E S H) (hz : H.size = z) (ho : ∀ q, q < z → H1[q]? = H[q]?) : mHold Y E S H1 := va_P.kept h (fun k q hq => ho q.1 (Nat.lt_of_lt_of_eq (h k q hq).lt hz))
set_option maxHeartbeats 4000000 in
set_option maxRecDepth 100000 in
theorem whole_start {p : Program} {e : Env} {s : State} {m : MethodId} {below : List Frame} {meth : Method} {c : Code} (l : Launch) {b L : Nat} {xs : Nat → Int32} (hL : L ≤ 385) (C0 : lw_At p s m meth c b L xs) : W p l e room_1 s m #[Value.ref b] below meth c s.heap [] 0 0 (lw_Z below #[Value.ref b] s) (entryFrame m ([Value.ref b] : List Value).toArray 4) := by
  obtain ⟨hx, hb, hr, hml, hown, hts, hX, hbl, hlocks, hgv⟩ := id C0
  have hw : ∀ w ∈ mv_ws, w.before #[Value.ref b] s = true := fun w h => hts w (List.mem_filter.mp h).1
  have Cx : CallFix p m c cL_law 4 s #[Value.ref b] (Cond.initialized RX7 :: mv_ws) RL := ⟨hx, hb, hml, hown, List.forall_mem_cons.mpr ⟨hw _ q_in_X7, hw⟩⟩
  obtain ⟨D, T, hGG⟩ := lw_env hts hgv
  obtain ⟨E, hE⟩ : ∃ E : mEv, E = (D, T, s.heap.size) := ⟨_, rfl⟩
  obtain ⟨F, hF⟩ : ∃ F : mEv, F = (D, T, s.heap.size + 101) := ⟨_, rfl⟩
  have hGE : mG E (fun q : Nat => s.heap.size ≤ q) s := by rw [hE]; exact hGG _
  have hGF : mG F (fun q : Nat => s.heap.size ≤ q) s := by rw [hF]; exact hGG _
  have hE2 : s.heap.size = E.2.2 := by rw [hE]
  have hF2 : F.2.2 = E.2.2 + 101 := by rw [hE, hF]
  have hNx := tb_nx hts
  have hK := hGE.1
  have hKF := hGF.1
  have hS : va_S (fun q : Nat => s.heap.size ≤ q) s.heap s.heap [] := va_S.rf
  have hl := lv_entry ([.ref b]) (n := 4) (Nat.le_of_ble_eq_true rfl)
  rw [lg_entry_eq]
  generalize (lg_sl ([.ref b]) ++ List.replicate (4 - (lg_sl ([.ref b])).length) Slot.unset).toArray = ls at hl ⊢
  have hl : lv_has ls 4 [(0, .ref b)] := hl
  refine cx_new Cx hK hS q_X7 tyX7 tyX7_ok q_cl_L_7 q_is_X7 q_in_X7 (ci := 7) rfl (fs := [.null, .null, .null, .null, .null, .null, .null, .null, .null, .null, .null, .null, .long 0, .int 0, .int 0, .int 0]) (fun j hj => by rcases (show j = 0 ∨ j = 1 ∨ j = 2 ∨ j = 3 ∨ j = 4 ∨ j = 5 ∨ j = 6 ∨ j = 7 ∨ j = 8 ∨ j = 9 ∨ j = 10 ∨ j = 11 ∨ j = 12 ∨ j = 13 ∨ j = 14 ∨ j = 15 by omega) with rfl | rfl | rfl | rfl | rfl | rfl | rfl | rfl | rfl | rfl | rfl | rfl | rfl | rfl | rfl | rfl <;> rfl) (Nat.le_of_ble_eq_true rfl) (Nat.le_of_ble_eq_true rfl) dL_law_0 hE2 (fun H c0 hz ho hS => ?_)
  clear ho
  refine lv_dup hx hb dL_law_3 rfl ?_
  refine lv_aload_n hx hb dL_law_4 rfl (lv_at hl 0 rfl) ?_
  refine lv_iconst (v := 0) hx hb dL_law_5 (by decide) ?_
  refine lw_cell Cx hX hbl hL hS hl.1 ⟨(Nat.le_of_ble_eq_true rfl), (Nat.le_of_ble_eq_true rfl)⟩ (Nat.le_of_ble_eq_true rfl) ⟨(Nat.le_of_ble_eq_true rfl), (Nat.le_of_ble_eq_true rfl)⟩ dL_law_6 (fun H locs hz1 ho hS => ?_)
  refine cx_sz (fun hle => ?_)
  replace c0 := c0.kept (ho _ c0.lt)
  replace hz : H.size = E.2.2 + 1 := by
    have hle : H.size ≤ s.heap.size + 1 := hle
    omega
  clear hz1 ho hle
  refine cx_call Cx hK hS (B := fun U => mG E (aU E) U ∧ mNx U) (rest := [.ref E.2.2]) (fun U g mk a h => ⟨h.1.blind g mk a, h.2⟩) (fun U hU hWm => ⟨(hGE.go hS hU hWm).narrow (fun q h => by unfold aU at h; omega), hNx.1.warmM hWm, hNx.2.1.warmM hWm, hNx.2.2.1.warmM hWm, hNx.2.2.2.1.warmM hWm, hNx.2.2.2.2.1.moved hWm.alike, hNx.2.2.2.2.2.1.moved hWm.alike, hNx.2.2.2.2.2.2.moved hWm.alike⟩) (k_X7 l E (cV L xs)) ⟨rfl, rfl⟩ q_co_X7_init q_ml_L_15 q_im_X7_init q_in_X7 rfl hd_X7_init ⟨(Nat.le_of_ble_eq_true rfl), (Nat.le_of_ble_eq_true rfl)⟩ rfl hl.1 rfl (Nat.le_of_ble_eq_true rfl) ⟨(Nat.le_of_ble_eq_true rfl), (Nat.le_of_ble_eq_true rfl)⟩ hz c0 (fun q h => by unfold aU at h; omega) dL_law_9 (fun H locs hres hz1 ho hS => ?_)
  refine W.eq (g2 := F0 m 12 ls [.ref E.2.2]) rfl ?_
  clear c0 hz ho
  obtain ⟨C, hHC, c8, c11, c12, hsC⟩ := hres
  refine lv_astore_n (lv' := [(1, .ref E.2.2), (0, .ref b)]) hx hb dL_law_12 rfl hl (by decide) rfl (fun ls hl => ?_)
  have hz : H.size = F.2.2 := by omega
  clear hz1
  refine cx_new Cx hKF hS q_X8 tyX8 tyX8_ok q_cl_L_18 q_is_X8 q_in_X8 (ci := 8) rfl (fs := [.null, .int 0, .null, .int 0, .null, .int 0, .null, .null, .null, .null, .null, .int 0, .null, .null, .null, .null, .int 0, .int 0, .int 0, .int 0, .long 0, .null, .null, .null, .null, .null, .null, .null, .null, .null, .null, .null, .null, .null, .null, .null, .null, .null]) (fun j hj => by rcases (show j = 0 ∨ j = 1 ∨ j = 2 ∨ j = 3 ∨ j = 4 ∨ j = 5 ∨ j = 6 ∨ j = 7 ∨ j = 8 ∨ j = 9 ∨ j = 10 ∨ j = 11 ∨ j = 12 ∨ j = 13 ∨ j = 14 ∨ j = 15 ∨ j = 16 ∨ j = 17 ∨ j = 18 ∨ j = 19 ∨ j = 20 ∨ j = 21 ∨ j = 22 ∨ j = 23 ∨ j = 24 ∨ j = 25 ∨ j = 26 ∨ j = 27 ∨ j = 28 ∨ j = 29 ∨ j = 30 ∨ j = 31 ∨ j = 32 ∨ j = 33 ∨ j = 34 ∨ j = 35 ∨ j = 36 ∨ j = 37 by omega) with rfl | rfl | rfl | rfl | rfl | rfl | rfl | rfl | rfl | rfl | rfl | rfl | rfl | rfl | rfl | rfl | rfl | rfl | rfl | rfl | rfl | rfl | rfl | rfl | rfl | rfl | rfl | rfl | rfl | rfl | rfl | rfl | rfl | rfl | rfl | rfl | rfl | rfl <;> rfl) (Nat.le_of_ble_eq_true rfl) (Nat.le_of_ble_eq_true rfl) dL_law_13 hz (fun H c0 hz1 ho hS => ?_)
  replace hHC := hold_new hHC hz ho
  replace hz : H.size = F.2.2 + 1 := hz1
  clear ho hz1
  refine lv_dup hx hb dL_law_16 rfl ?_
  refine lv_aload_n hx hb dL_law_17 rfl (lv_at hl 1 rfl) ?_
  refine lv_iconst (v := 0) hx hb dL_law_18 (by decide) ?_
  refine lw_cell Cx hX hbl hL hS hl.1 ⟨(Nat.le_of_ble_eq_true rfl), (Nat.le_of_ble_eq_true rfl)⟩ (Nat.le_of_ble_eq_true rfl) ⟨(Nat.le_of_ble_eq_true rfl), (Nat.le_of_ble_eq_true rfl)⟩ dL_law_19 (fun H locs hz1 ho hS => ?_)
  refine cx_sz (fun hle => ?_)
  replace c0 := c0.kept (ho _ c0.lt)
  replace hHC := hold_new hHC rfl ho
  replace hz : H.size = F.2.2 + 1 := by
    have hle : H.size ≤ s.heap.size + 102 := hle
    omega
  clear hz1 ho hle
  refine cx_call Cx hKF hS (B := fun U => mG F (aM F) U) (rest := [.ref F.2.2]) (fun U g mk a h => h.blind g mk a) (fun U hU hWm => (hGF.go hS hU hWm).narrow (fun q h => by unfold aM at h; omega)) (k_X8 l F (cV L xs)) ⟨rfl, rfl⟩ q_co_X8_init q_ml_L_20 q_im_X8_init q_in_X8 rfl hd_X8_init ⟨(Nat.le_of_ble_eq_true rfl), (Nat.le_of_ble_eq_true rfl)⟩ rfl hl.1 rfl (Nat.le_of_ble_eq_true rfl) ⟨(Nat.le_of_ble_eq_true rfl), (Nat.le_of_ble_eq_true rfl)⟩ hz c0 (fun q h => by unfold aM at h; omega) dL_law_22 (fun H locs hres hz1 ho hS => ?_)
  refine W.eq (g2 := F0 m 25 ls [.ref F.2.2]) rfl ?_
  replace hHC := va_P.kept hHC (fun k q hq => ho q.1 (Nat.lt_of_lt_of_eq (hHC k q hq).lt hz) (fun h => by
    have h1 := ((ownC E).2 C).2 k q hq
    unfold aC at h1
    unfold aM at h
    omega))
  clear c0 hz ho hz1
  obtain ⟨M, hHM, m13, m14, m15, hsM⟩ := hres
  refine lv_astore_n (lv' := [(2, .ref F.2.2), (1, .ref E.2.2), (0, .ref b)]) hx hb dL_law_25 rfl hl (by decide) rfl (fun ls hl => ?_)
  refine lv_iconst (v := 1) hx hb dL_law_26 (by decide) ?_
  refine lv_istore_n (lv' := [(3, .int 1), (2, .ref F.2.2), (1, .ref E.2.2), (0, .ref b)]) hx hb dL_law_27 rfl hl (by decide) rfl (fun ls hl => ?_)
  have hR := rel_init c8 c11 c12 hsC m13 m14 m15 hsM
  refine va_forget (fun q hq => hS.2.2 q hq) ?_
  have hB : lwB p s m c b L xs E F (aC E) (aM F) := ⟨Cx, hGE.narrow (fun q h => by unfold aC at h; omega), hGF.narrow (fun q h => by unfold aM at h; omega), ownC E, ownM F, hX, hbl, fun q h => by (unfold aC at h; omega), fun q h => by (unfold aM at h; omega), fun q h g => by (unfold aC at h; unfold aM at g; omega), hL⟩
  exact law_loop hB (Nat.le_of_ble_eq_true rfl) (Nat.le_of_ble_eq_true rfl) (fun H ls => lw_ret hx hb hr hlocks dL_law_1071) 65 1 0 C M H ls (by omega) (by decide) (by decide) (by decide) hR hHC hHM ⟨hS.1, hS.2.1, fun q h => by cases h⟩ (lv_sub hl [3, 2, 1, 0] rfl)
