/-! ===== the small constructors ===== -/
set_option maxHeartbeats 4000000 in
set_option maxRecDepth 100000 in
theorem k_X0 (l : Launch) (E : mEv) (a z n : Nat) (haz : a < z) (hn9 : n ≤ 1000) : Met l yX0_init (Cond.code yX0_init cX0_init 2 none :: mv_ws) ({ frames := 1, cells := 1, slots := n, locals := 12 } : Room) (cPr E (fun _ => True) z (fun H => cAt E a (.inr (0, [.null, .int 0])) H) [.ref a, .int (nI n)]) (cPo (cA a z) z 1 (fun H => cAt E a (.inr (0, [.ref z, .int 0])) H ∧ cAt E z (.inl (E.2.1 0, n, .inl (fun _ => 0))) H)) 1 n (cA a z) := by
  refine Met.ofW (cc := cX0_init) (maxL := 2) (ret := none) (by decide) rfl ?_
  intro p e s m args below meth c s₁ B hml hv
  obtain ⟨rfl, ⟨hK, hBB⟩, hz, h0⟩ := hv
  have hx := B.exec
  have hb := B.bytes
  have hr := B.returns
  have hlocks := B.notSynchronized
  have hin2 : meth.name = "<init>" := (name_of_methodNamed B.named B.method).1
  have Cx : CallFix p m c cX0_init 2 s ([.ref a, .int (nI n)] : List Value).toArray (Cond.code yX0_init cX0_init 2 none :: mv_ws) RX0 := ⟨hx, hb, hml, findClass_of_methodNamed B.named, atoms_spec (ws := Cond.code yX0_init cX0_init 2 none :: mv_ws) B.pre⟩
  have hS : va_S (cA a z) s.heap s.heap [] := va_S.rf
  have hl := lv_entry ([.ref a, .int (nI n)]) (n := 2) (Nat.le_of_ble_eq_true rfl)
  rw [lg_entry_eq]
  generalize (lg_sl ([.ref a, .int (nI n)]) ++ List.replicate (2 - (lg_sl ([.ref a, .int (nI n)])).length) Slot.unset).toArray = ls at hl ⊢
  have hl : lv_has ls 2 [(0, .ref a), (1, .int (nI n))] := hl
  have hz : s.heap.size = z := hz
  have hz00 := hz
  refine lv_aload_n hx hb dX0_init_0 rfl (lv_at hl 0 rfl) ?_
  refine cx_obj Cx q_ml_X0_1 hl.1 ⟨(Nat.le_of_ble_eq_true rfl), (Nat.le_of_ble_eq_true rfl)⟩ dX0_init_1 ?_
  refine lv_aload_n hx hb dX0_init_4 rfl (lv_at hl 0 rfl) ?_
  refine lv_iload_n hx hb dX0_init_5 rfl (lv_at hl 1 rfl) ?_
  refine cx_newa Cx hK hS (ty := .byte) rfl 0 rfl rfl q_ac_byte (N := n) (f := .inl (fun _ => 0)) rfl (nI_pos (by omega)) (nI_clamp (by omega)) (show n * 1 ≤ 536870912 by omega) (Nat.le_of_ble_eq_true rfl) (Nat.le_of_eq (Nat.zero_add n)) dX0_init_6 hz (fun H hnew hz1 ho hS => ?_)
  have hzo := hz
  have h0 := h0.kept (ho _ (Nat.lt_of_lt_of_eq h0.lt hzo))
  have c1 : cAt E z (.inl (E.2.1 0, n, .inl (fun _ => 0))) H := hnew
  have hz : H.size = (z + 1) := hz1
  clear hz1 ho hzo hnew
  refine cx_putF Cx hK hS q_X0 tyX0 tyX0_ok nmX0 h0 (Or.inl rfl) rfl 0 (by decide) q_fl_X0_7 rfl hin2 rfl (ty := tyX0 0) (tyX0_ok 0 (by decide)) rfl rfl (Nat.le_of_ble_eq_true rfl) dX0_init_8 (fun H locs h0 hz1 ho hS => ?_)
  have h0 : cAt E a (.inr (0, [.ref z, .int 0])) H := h0
  have c1 := c1.kept (ho _ (by omega))
  have hz : H.size = (z + 1) := hz1.trans hz
  clear hz1 ho
  refine W.widen (k := 1) (n := n) (by omega) (by omega) ?_
  exact cx_ret Cx hr hS hz ⟨h0, c1⟩ dX0_init_11 hlocks

set_option maxHeartbeats 4000000 in
set_option maxRecDepth 100000 in
theorem k_X2 (l : Launch) (E : mEv) (a z : Nat) (haz : a < z) : Met l yX2_init (Cond.code yX2_init cX2_init 1 none :: mv_ws) ({ frames := 1, cells := 2, slots := 288, locals := 12 } : Room) (cPr E (fun _ => True) z (fun H => cAt E a (.inr (2, [.null, .null, .int 0])) H) [.ref a]) (cPo (cA a z) z 2 (fun H => cAt E a (.inr (2, [.ref z, .ref (z + 1), .int 0])) H ∧ cAt E z (.inl (E.2.1 0, 256, .inl (fun _ => 0))) H ∧ cAt E (z + 1) (.inl (E.2.1 0, 32, .inl (fun _ => 0))) H)) 2 288 (cA a z) := by
  refine Met.ofW (cc := cX2_init) (maxL := 1) (ret := none) (by decide) rfl ?_
  intro p e s m args below meth c s₁ B hml hv
  obtain ⟨rfl, ⟨hK, hBB⟩, hz, h0⟩ := hv
  have hx := B.exec
  have hb := B.bytes
  have hr := B.returns
  have hlocks := B.notSynchronized
  have hin2 : meth.name = "<init>" := (name_of_methodNamed B.named B.method).1
  have Cx : CallFix p m c cX2_init 1 s ([.ref a] : List Value).toArray (Cond.code yX2_init cX2_init 1 none :: mv_ws) RX2 := ⟨hx, hb, hml, findClass_of_methodNamed B.named, atoms_spec (ws := Cond.code yX2_init cX2_init 1 none :: mv_ws) B.pre⟩
  have hS : va_S (cA a z) s.heap s.heap [] := va_S.rf
  have hl := lv_entry ([.ref a]) (n := 1) (Nat.le_of_ble_eq_true rfl)
  rw [lg_entry_eq]
  generalize (lg_sl ([.ref a]) ++ List.replicate (1 - (lg_sl ([.ref a])).length) Slot.unset).toArray = ls at hl ⊢
  have hl : lv_has ls 1 [(0, .ref a)] := hl
  have hz : s.heap.size = z := hz
  have hz00 := hz
  refine lv_aload_n hx hb dX2_init_0 rfl (lv_at hl 0 rfl) ?_
  refine cx_obj Cx q_ml_X2_3 hl.1 ⟨(Nat.le_of_ble_eq_true rfl), (Nat.le_of_ble_eq_true rfl)⟩ dX2_init_1 ?_
  refine lv_aload_n hx hb dX2_init_4 rfl (lv_at hl 0 rfl) ?_
  refine lv_sipush (v := 256) hx hb dX2_init_5 (by decide) ?_
  refine cx_newa Cx hK hS (ty := .byte) rfl 0 rfl rfl q_ac_byte (N := 256) (f := .inl (fun _ => 0)) rfl (by decide) rfl (by decide) (Nat.le_of_ble_eq_true rfl) (Nat.le_of_ble_eq_true rfl) dX2_init_8 hz (fun H hnew hz1 ho hS => ?_)
  have hzo := hz
  have h0 := h0.kept (ho _ (Nat.lt_of_lt_of_eq h0.lt hzo))
  have c1 : cAt E z (.inl (E.2.1 0, 256, .inl (fun _ => 0))) H := hnew
  have hz : H.size = (z + 1) := hz1
  clear hz1 ho hzo hnew
  refine cx_putF Cx hK hS q_X2 tyX2 tyX2_ok nmX2 h0 (Or.inl rfl) rfl 0 (by decide) q_fl_X2_11 rfl hin2 rfl (ty := tyX2 0) (tyX2_ok 0 (by decide)) rfl rfl (Nat.le_of_ble_eq_true rfl) dX2_init_10 (fun H locs h0 hz1 ho hS => ?_)
  have h0 : cAt E a (.inr (2, [.ref z, .null, .int 0])) H := h0
  have c1 := c1.kept (ho _ (by omega))
  have hz : H.size = (z + 1) := hz1.trans hz
  clear hz1 ho
  refine lv_aload_n hx hb dX2_init_13 rfl (lv_at hl 0 rfl) ?_
  refine lv_bipush (v := 32) hx hb dX2_init_14 (by decide) ?_
  refine cx_newa Cx hK hS (ty := .byte) rfl 0 rfl rfl q_ac_byte (N := 32) (f := .inl (fun _ => 0)) rfl (by decide) rfl (by decide) (Nat.le_of_ble_eq_true rfl) (Nat.le_of_ble_eq_true rfl) dX2_init_16 hz (fun H hnew hz1 ho hS => ?_)
  have hzo := hz
  have c1 := c1.kept (ho _ (Nat.lt_of_lt_of_eq c1.lt hzo))
  have h0 := h0.kept (ho _ (Nat.lt_of_lt_of_eq h0.lt hzo))
  have c2 : cAt E (z + 1) (.inl (E.2.1 0, 32, .inl (fun _ => 0))) H := hnew
  have hz : H.size = (z + 2) := hz1
  clear hz1 ho hzo hnew
  refine cx_putF Cx hK hS q_X2 tyX2 tyX2_ok nmX2 h0 (Or.inl rfl) rfl 1 (by decide) q_fl_X2_15 rfl hin2 rfl (ty := tyX2 1) (tyX2_ok 1 (by decide)) rfl rfl (Nat.le_of_ble_eq_true rfl) dX2_init_18 (fun H locs h0 hz1 ho hS => ?_)
  have h0 : cAt E a (.inr (2, [.ref z, .ref (z + 1), .int 0])) H := h0
  have c1 := c1.kept (ho _ (by omega))
  have c2 := c2.kept (ho _ (by omega))
  have hz : H.size = (z + 2) := hz1.trans hz
  clear hz1 ho
  exact cx_ret Cx hr hS hz ⟨h0, c1, c2⟩ dX2_init_21 hlocks

set_option maxHeartbeats 4000000 in
set_option maxRecDepth 100000 in
theorem k_X4 (l : Launch) (E : mEv) (a z : Nat) (haz : a < z) : Met l yX4_init (Cond.code yX4_init cX4_init 1 none :: mv_ws) ({ frames := 1, cells := 1, slots := 32, locals := 12 } : Room) (cPr E (fun _ => True) z (fun H => cAt E a (.inr (4, [.null, .int 0, .int 0, .int 0, .int 0, .int 0, .int 0, .int 0])) H) [.ref a]) (cPo (cA a z) z 1 (fun H => cAt E a (.inr (4, [.ref z, .int 0, .int 0, .int 0, .int 0, .int 0, .int 0, .int 0])) H ∧ cAt E z (.inl (E.2.1 0, 32, .inl (fun _ => 0))) H)) 1 32 (cA a z) := by
  refine Met.ofW (cc := cX4_init) (maxL := 1) (ret := none) (by decide) rfl ?_
  intro p e s m args below meth c s₁ B hml hv
  obtain ⟨rfl, ⟨hK, hBB⟩, hz, h0⟩ := hv
  have hx := B.exec
  have hb := B.bytes
  have hr := B.returns
  have hlocks := B.notSynchronized
  have hin2 : meth.name = "<init>" := (name_of_methodNamed B.named B.method).1
  have Cx : CallFix p m c cX4_init 1 s ([.ref a] : List Value).toArray (Cond.code yX4_init cX4_init 1 none :: mv_ws) RX4 := ⟨hx, hb, hml, findClass_of_methodNamed B.named, atoms_spec (ws := Cond.code yX4_init cX4_init 1 none :: mv_ws) B.pre⟩
  have hS : va_S (cA a z) s.heap s.heap [] := va_S.rf
  have hl := lv_entry ([.ref a]) (n := 1) (Nat.le_of_ble_eq_true rfl)
  rw [lg_entry_eq]
  generalize (lg_sl ([.ref a]) ++ List.replicate (1 - (lg_sl ([.ref a])).length) Slot.unset).toArray = ls at hl ⊢
  have hl : lv_has ls 1 [(0, .ref a)] := hl
  have hz : s.heap.size = z := hz
  have hz00 := hz
  refine lv_aload_n hx hb dX4_init_0 rfl (lv_at hl 0 rfl) ?_
  refine cx_obj Cx q_ml_X4_3 hl.1 ⟨(Nat.le_of_ble_eq_true rfl), (Nat.le_of_ble_eq_true rfl)⟩ dX4_init_1 ?_
  refine lv_aload_n hx hb dX4_init_4 rfl (lv_at hl 0 rfl) ?_
  refine lv_bipush (v := 32) hx hb dX4_init_5 (by decide) ?_
  refine cx_newa Cx hK hS (ty := .byte) rfl 0 rfl rfl q_ac_byte (N := 32) (f := .inl (fun _ => 0)) rfl (by decide) rfl (by decide) (Nat.le_of_ble_eq_true rfl) (Nat.le_of_ble_eq_true rfl) dX4_init_7 hz (fun H hnew hz1 ho hS => ?_)
  have hzo := hz
  have h0 := h0.kept (ho _ (Nat.lt_of_lt_of_eq h0.lt hzo))
  have c1 : cAt E z (.inl (E.2.1 0, 32, .inl (fun _ => 0))) H := hnew
  have hz : H.size = (z + 1) := hz1
  clear hz1 ho hzo hnew
  refine cx_putF Cx hK hS q_X4 tyX4 tyX4_ok nmX4 h0 (Or.inl rfl) rfl 0 (by decide) q_fl_X4_9 rfl hin2 rfl (ty := tyX4 0) (tyX4_ok 0 (by decide)) rfl rfl (Nat.le_of_ble_eq_true rfl) dX4_init_9 (fun H locs h0 hz1 ho hS => ?_)
  have h0 : cAt E a (.inr (4, [.ref z, .int 0, .int 0, .int 0, .int 0, .int 0, .int 0, .int 0])) H := h0
  have c1 := c1.kept (ho _ (by omega))
  have hz : H.size = (z + 1) := hz1.trans hz
  clear hz1 ho
  exact cx_ret Cx hr hS hz ⟨h0, c1⟩ dX4_init_12 hlocks

set_option maxHeartbeats 4000000 in
set_option maxRecDepth 100000 in
theorem k_X1 (l : Launch) (E : mEv) (a z : Nat) (haz : a < z) : Met l yX1_init (Cond.code yX1_init cX1_init 1 none :: mv_ws) ({ frames := 2, cells := 5, slots := 618, locals := 33 } : Room) (cPr E (fun _ => True) z (fun H => cAt E a (.inr (1, [.null, .null, .null, .null])) H) [.ref a]) (cPo (cA a z) z 5 (fun H => cAt E a (.inr (1, [.ref z, .ref (z + 2), .ref (z + 3), .ref (z + 4)])) H ∧ cAt E z (.inr (0, [.ref (z + 1), .int 0])) H ∧ cAt E (z + 1) (.inl (E.2.1 0, 512, .inl (fun _ => 0))) H ∧ cAt E (z + 2) (.inl (E.2.1 1, 8, .inl (fun _ => 0))) H ∧ cAt E (z + 3) (.inl (E.2.1 1, 64, .inl (fun _ => 0))) H ∧ cAt E (z + 4) (.inl (E.2.1 0, 32, .inl (fun _ => 0))) H)) 5 618 (cA a z) := by
  refine Met.ofW (cc := cX1_init) (maxL := 1) (ret := none) (by decide) rfl ?_
  intro p e s m args below meth c s₁ B hml hv
  obtain ⟨rfl, ⟨hK, hBB⟩, hz, h0⟩ := hv
  have hx := B.exec
  have hb := B.bytes
  have hr := B.returns
  have hlocks := B.notSynchronized
  have hin2 : meth.name = "<init>" := (name_of_methodNamed B.named B.method).1
  have Cx : CallFix p m c cX1_init 1 s ([.ref a] : List Value).toArray (Cond.code yX1_init cX1_init 1 none :: mv_ws) RX1 := ⟨hx, hb, hml, findClass_of_methodNamed B.named, atoms_spec (ws := Cond.code yX1_init cX1_init 1 none :: mv_ws) B.pre⟩
  have hS : va_S (cA a z) s.heap s.heap [] := va_S.rf
  have hl := lv_entry ([.ref a]) (n := 1) (Nat.le_of_ble_eq_true rfl)
  rw [lg_entry_eq]
  generalize (lg_sl ([.ref a]) ++ List.replicate (1 - (lg_sl ([.ref a])).length) Slot.unset).toArray = ls at hl ⊢
  have hl : lv_has ls 1 [(0, .ref a)] := hl
  have hz : s.heap.size = z := hz
  have hz00 := hz
  refine lv_aload_n hx hb dX1_init_0 rfl (lv_at hl 0 rfl) ?_
  refine cx_obj Cx q_ml_X1_3 hl.1 ⟨(Nat.le_of_ble_eq_true rfl), (Nat.le_of_ble_eq_true rfl)⟩ dX1_init_1 ?_
  refine lv_aload_n hx hb dX1_init_4 rfl (lv_at hl 0 rfl) ?_
  refine cx_new Cx hK hS q_X0 tyX0 tyX0_ok q_cl_X1_9 q_is_X0 q_in_X0 (ci := 0) rfl (fs := [.null, .int 0]) (fun j hj => by rcases (show j = 0 ∨ j = 1 by omega) with rfl | rfl <;> rfl) (Nat.le_of_ble_eq_true rfl) (Nat.le_of_ble_eq_true rfl) dX1_init_5 hz (fun H hnew hz1 ho hS => ?_)
  have hzo := hz
  have h0 := h0.kept (ho _ (Nat.lt_of_lt_of_eq h0.lt hzo))
  have c1 : cAt E z (.inr (0, [.null, .int 0])) H := hnew
  have hz : H.size = (z + 1) := hz1
  clear hz1 ho hzo hnew
  refine lv_dup hx hb dX1_init_8 rfl ?_
  refine lv_sipush (v := 512) hx hb dX1_init_9 (by decide) ?_
  refine cx_call Cx hK hS (B := fun _ => True) (rest := [.ref z, .ref a]) (fun _ _ _ _ h => h) (fun _ _ _ => trivial) (k_X0 l E z (z + 1) 512 (by omega) (by omega)) ⟨rfl, rfl⟩ q_co_X0_init q_ml_X1_13 q_im_X0_init q_in_X0 rfl hd_X0_init ⟨(Nat.le_of_ble_eq_true rfl), (Nat.le_of_ble_eq_true rfl)⟩ rfl hl.1 rfl (Nat.le_of_ble_eq_true rfl) ⟨(Nat.le_of_ble_eq_true rfl), (Nat.le_of_ble_eq_true rfl)⟩ hz c1 (fun q hq => by simp only [cA] at hq ⊢; omega) dX1_init_12 (fun H locs hres hz1 ho hS => ?_)
  refine W.eq (g2 := F0 m 15 ls [.ref z, .ref a]) rfl ?_
  have hzo := hz
  have h0 := h0.kept (ho _ (Nat.lt_of_lt_of_eq h0.lt hzo) (by simp only [cA]; omega))
  obtain ⟨hr1, hr2⟩ := hres
  have c2 : cAt E z (.inr (0, [.ref (z + 1), .int 0])) H := hr1
  have c3 : cAt E (z + 1) (.inl (E.2.1 0, 512, .inl (fun _ => 0))) H := hr2
  clear hr1 hr2
  have hz : H.size = (z + 2) := by rw [hz1]
  clear hz1 ho hzo
  refine cx_putF Cx hK hS q_X1 tyX1 tyX1_ok nmX1 h0 (Or.inl rfl) rfl 0 (by decide) q_fl_X1_16 rfl hin2 rfl (ty := tyX1 0) (tyX1_ok 0 (by decide)) rfl rfl (Nat.le_of_ble_eq_true rfl) dX1_init_15 (fun H locs h0 hz1 ho hS => ?_)
  have h0 : cAt E a (.inr (1, [.ref z, .null, .null, .null])) H := h0
  have c2 := c2.kept (ho _ (by omega))
  have c3 := c3.kept (ho _ (by omega))
  have hz : H.size = (z + 2) := hz1.trans hz
  clear hz1 ho
  refine lv_aload_n hx hb dX1_init_18 rfl (lv_at hl 0 rfl) ?_
  refine lv_bipush (v := 8) hx hb dX1_init_19 (by decide) ?_
  refine cx_newa Cx hK hS (ty := .int) rfl 1 rfl rfl q_ac_int (N := 8) (f := .inl (fun _ => 0)) rfl (by decide) rfl (by decide) (Nat.le_of_ble_eq_true rfl) (Nat.le_of_ble_eq_true rfl) dX1_init_21 hz (fun H hnew hz1 ho hS => ?_)
  have hzo := hz
  have c2 := c2.kept (ho _ (Nat.lt_of_lt_of_eq c2.lt hzo))
  have c3 := c3.kept (ho _ (Nat.lt_of_lt_of_eq c3.lt hzo))
  have h0 := h0.kept (ho _ (Nat.lt_of_lt_of_eq h0.lt hzo))
  have c4 : cAt E (z + 2) (.inl (E.2.1 1, 8, .inl (fun _ => 0))) H := hnew
  have hz : H.size = (z + 3) := hz1
  clear hz1 ho hzo hnew
  refine cx_putF Cx hK hS q_X1 tyX1 tyX1_ok nmX1 h0 (Or.inl rfl) rfl 1 (by decide) q_fl_X1_20 rfl hin2 rfl (ty := tyX1 1) (tyX1_ok 1 (by decide)) rfl rfl (Nat.le_of_ble_eq_true rfl) dX1_init_23 (fun H locs h0 hz1 ho hS => ?_)
  have h0 : cAt E a (.inr (1, [.ref z, .ref (z + 2), .null, .null])) H := h0
  have c2 := c2.kept (ho _ (by omega))
  have c3 := c3.kept (ho _ (by omega))
  have c4 := c4.kept (ho _ (by omega))
  have hz : H.size = (z + 3) := hz1.trans hz
  clear hz1 ho
  refine lv_aload_n hx hb dX1_init_26 rfl (lv_at hl 0 rfl) ?_
  refine lv_bipush (v := 64) hx hb dX1_init_27 (by decide) ?_
  refine cx_newa Cx hK hS (ty := .int) rfl 1 rfl rfl q_ac_int (N := 64) (f := .inl (fun _ => 0)) rfl (by decide) rfl (by decide) (Nat.le_of_ble_eq_true rfl) (Nat.le_of_ble_eq_true rfl) dX1_init_29 hz (fun H hnew hz1 ho hS => ?_)
  have hzo := hz
  have c2 := c2.kept (ho _ (Nat.lt_of_lt_of_eq c2.lt hzo))
  have c3 := c3.kept (ho _ (Nat.lt_of_lt_of_eq c3.lt hzo))
  have c4 := c4.kept (ho _ (Nat.lt_of_lt_of_eq c4.lt hzo))
  have h0 := h0.kept (ho _ (Nat.lt_of_lt_of_eq h0.lt hzo))
  have c5 : cAt E (z + 3) (.inl (E.2.1 1, 64, .inl (fun _ => 0))) H := hnew
  have hz : H.size = (z + 4) := hz1
  clear hz1 ho hzo hnew
  refine cx_putF Cx hK hS q_X1 tyX1 tyX1_ok nmX1 h0 (Or.inl rfl) rfl 2 (by decide) q_fl_X1_24 rfl hin2 rfl (ty := tyX1 2) (tyX1_ok 2 (by decide)) rfl rfl (Nat.le_of_ble_eq_true rfl) dX1_init_31 (fun H locs h0 hz1 ho hS => ?_)
  have h0 : cAt E a (.inr (1, [.ref z, .ref (z + 2), .ref (z + 3), .null])) H := h0
  have c2 := c2.kept (ho _ (by omega))
  have c3 := c3.kept (ho _ (by omega))
  have c4 := c4.kept (ho _ (by omega))
  have c5 := c5.kept (ho _ (by omega))
  have hz : H.size = (z + 4) := hz1.trans hz
  clear hz1 ho
  refine lv_aload_n hx hb dX1_init_34 rfl (lv_at hl 0 rfl) ?_
  refine lv_bipush (v := 32) hx hb dX1_init_35 (by decide) ?_
  refine cx_newa Cx hK hS (ty := .byte) rfl 0 rfl rfl q_ac_byte (N := 32) (f := .inl (fun _ => 0)) rfl (by decide) rfl (by decide) (Nat.le_of_ble_eq_true rfl) (Nat.le_of_ble_eq_true rfl) dX1_init_37 hz (fun H hnew hz1 ho hS => ?_)
  have hzo := hz
  have c2 := c2.kept (ho _ (Nat.lt_of_lt_of_eq c2.lt hzo))
  have c3 := c3.kept (ho _ (Nat.lt_of_lt_of_eq c3.lt hzo))
  have c4 := c4.kept (ho _ (Nat.lt_of_lt_of_eq c4.lt hzo))
  have c5 := c5.kept (ho _ (Nat.lt_of_lt_of_eq c5.lt hzo))
  have h0 := h0.kept (ho _ (Nat.lt_of_lt_of_eq h0.lt hzo))
  have c6 : cAt E (z + 4) (.inl (E.2.1 0, 32, .inl (fun _ => 0))) H := hnew
  have hz : H.size = (z + 5) := hz1
  clear hz1 ho hzo hnew
  refine cx_putF Cx hK hS q_X1 tyX1 tyX1_ok nmX1 h0 (Or.inl rfl) rfl 3 (by decide) q_fl_X1_27 rfl hin2 rfl (ty := tyX1 3) (tyX1_ok 3 (by decide)) rfl rfl (Nat.le_of_ble_eq_true rfl) dX1_init_39 (fun H locs h0 hz1 ho hS => ?_)
  have h0 : cAt E a (.inr (1, [.ref z, .ref (z + 2), .ref (z + 3), .ref (z + 4)])) H := h0
  have c2 := c2.kept (ho _ (by omega))
  have c3 := c3.kept (ho _ (by omega))
  have c4 := c4.kept (ho _ (by omega))
  have c5 := c5.kept (ho _ (by omega))
  have c6 := c6.kept (ho _ (by omega))
  have hz : H.size = (z + 5) := hz1.trans hz
  clear hz1 ho
  exact cx_ret Cx hr hS hz ⟨h0, c2, c3, c4, c5, c6⟩ dX1_init_42 hlocks

set_option maxHeartbeats 4000000 in
set_option maxRecDepth 100000 in
theorem k_X5 (l : Launch) (E : mEv) (a z n : Nat) (haz : a < z) (hn9 : n ≤ 1000) : Met l yX5_init (Cond.code yX5_init cX5_init 2 none :: mv_ws) ({ frames := 2, cells := 4, slots := (66 + n), locals := 33 } : Room) (cPr E (fun _ => True) z (fun H => cAt E a (.inr (5, [.null, .null, .null, .int 0])) H) [.ref a, .int (nI n)]) (cPo (cA a z) z 4 (fun H => cAt E a (.inr (5, [.ref z, .ref (z + 1), .ref (z + 2), .int 0])) H ∧ cAt E z (.inl (E.2.1 0, 32, .inl (fun _ => 0))) H ∧ cAt E (z + 1) (.inl (E.2.1 0, 32, .inl (fun _ => 0))) H ∧ cAt E (z + 2) (.inr (0, [.ref (z + 3), .int 0])) H ∧ cAt E (z + 3) (.inl (E.2.1 0, n, .inl (fun _ => 0))) H)) 4 (66 + n) (cA a z) := by
  refine Met.ofW (cc := cX5_init) (maxL := 2) (ret := none) (by decide) rfl ?_
  intro p e s m args below meth c s₁ B hml hv
  obtain ⟨rfl, ⟨hK, hBB⟩, hz, h0⟩ := hv
  have hx := B.exec
  have hb := B.bytes
  have hr := B.returns
  have hlocks := B.notSynchronized
  have hin2 : meth.name = "<init>" := (name_of_methodNamed B.named B.method).1
  have Cx : CallFix p m c cX5_init 2 s ([.ref a, .int (nI n)] : List Value).toArray (Cond.code yX5_init cX5_init 2 none :: mv_ws) RX5 := ⟨hx, hb, hml, findClass_of_methodNamed B.named, atoms_spec (ws := Cond.code yX5_init cX5_init 2 none :: mv_ws) B.pre⟩
  have hS : va_S (cA a z) s.heap s.heap [] := va_S.rf
  have hl := lv_entry ([.ref a, .int (nI n)]) (n := 2) (Nat.le_of_ble_eq_true rfl)
  rw [lg_entry_eq]
  generalize (lg_sl ([.ref a, .int (nI n)]) ++ List.replicate (2 - (lg_sl ([.ref a, .int (nI n)])).length) Slot.unset).toArray = ls at hl ⊢
  have hl : lv_has ls 2 [(0, .ref a), (1, .int (nI n))] := hl
  have hz : s.heap.size = z := hz
  have hz00 := hz
  refine lv_aload_n hx hb dX5_init_0 rfl (lv_at hl 0 rfl) ?_
  refine cx_obj Cx q_ml_X5_3 hl.1 ⟨(Nat.le_of_ble_eq_true rfl), (Nat.le_of_ble_eq_true rfl)⟩ dX5_init_1 ?_
  refine lv_aload_n hx hb dX5_init_4 rfl (lv_at hl 0 rfl) ?_
  refine lv_bipush (v := 32) hx hb dX5_init_5 (by decide) ?_
  refine cx_newa Cx hK hS (ty := .byte) rfl 0 rfl rfl q_ac_byte (N := 32) (f := .inl (fun _ => 0)) rfl (by decide) rfl (by decide) (Nat.le_of_ble_eq_true rfl) (show _ ≤ 66 + n by omega) dX5_init_7 hz (fun H hnew hz1 ho hS => ?_)
  have hzo := hz
  have h0 := h0.kept (ho _ (Nat.lt_of_lt_of_eq h0.lt hzo))
  have c1 : cAt E z (.inl (E.2.1 0, 32, .inl (fun _ => 0))) H := hnew
  have hz : H.size = (z + 1) := hz1
  clear hz1 ho hzo hnew
  refine cx_putF Cx hK hS q_X5 tyX5 tyX5_ok nmX5 h0 (Or.inl rfl) rfl 0 (by decide) q_fl_X5_9 rfl hin2 rfl (ty := tyX5 0) (tyX5_ok 0 (by decide)) rfl rfl (Nat.le_of_ble_eq_true rfl) dX5_init_9 (fun H locs h0 hz1 ho hS => ?_)
  have h0 : cAt E a (.inr (5, [.ref z, .null, .null, .int 0])) H := h0
  have c1 := c1.kept (ho _ (by omega))
  have hz : H.size = (z + 1) := hz1.trans hz
  clear hz1 ho
  refine lv_aload_n hx hb dX5_init_12 rfl (lv_at hl 0 rfl) ?_
  refine lv_bipush (v := 32) hx hb dX5_init_13 (by decide) ?_
  refine cx_newa Cx hK hS (ty := .byte) rfl 0 rfl rfl q_ac_byte (N := 32) (f := .inl (fun _ => 0)) rfl (by decide) rfl (by decide) (Nat.le_of_ble_eq_true rfl) (show _ ≤ 66 + n by omega) dX5_init_15 hz (fun H hnew hz1 ho hS => ?_)
  have hzo := hz
  have c1 := c1.kept (ho _ (Nat.lt_of_lt_of_eq c1.lt hzo))
  have h0 := h0.kept (ho _ (Nat.lt_of_lt_of_eq h0.lt hzo))
  have c2 : cAt E (z + 1) (.inl (E.2.1 0, 32, .inl (fun _ => 0))) H := hnew
  have hz : H.size = (z + 2) := hz1
  clear hz1 ho hzo hnew
  refine cx_putF Cx hK hS q_X5 tyX5 tyX5_ok nmX5 h0 (Or.inl rfl) rfl 1 (by decide) q_fl_X5_15 rfl hin2 rfl (ty := tyX5 1) (tyX5_ok 1 (by decide)) rfl rfl (Nat.le_of_ble_eq_true rfl) dX5_init_17 (fun H locs h0 hz1 ho hS => ?_)
  have h0 : cAt E a (.inr (5, [.ref z, .ref (z + 1), .null, .int 0])) H := h0
  have c1 := c1.kept (ho _ (by omega))
  have c2 := c2.kept (ho _ (by omega))
  have hz : H.size = (z + 2) := hz1.trans hz
  clear hz1 ho
  refine lv_aload_n hx hb dX5_init_20 rfl (lv_at hl 0 rfl) ?_
  refine cx_new Cx hK hS q_X0 tyX0 tyX0_ok q_cl_X5_18 q_is_X0 q_in_X0 (ci := 0) rfl (fs := [.null, .int 0]) (fun j hj => by rcases (show j = 0 ∨ j = 1 by omega) with rfl | rfl <;> rfl) (Nat.le_of_ble_eq_true rfl) (show _ ≤ 66 + n by omega) dX5_init_21 hz (fun H hnew hz1 ho hS => ?_)
  have hzo := hz
  have c1 := c1.kept (ho _ (Nat.lt_of_lt_of_eq c1.lt hzo))
  have c2 := c2.kept (ho _ (Nat.lt_of_lt_of_eq c2.lt hzo))
  have h0 := h0.kept (ho _ (Nat.lt_of_lt_of_eq h0.lt hzo))
  have c3 : cAt E (z + 2) (.inr (0, [.null, .int 0])) H := hnew
  have hz : H.size = (z + 3) := hz1
  clear hz1 ho hzo hnew
  refine lv_dup hx hb dX5_init_24 rfl ?_
  refine lv_iload_n hx hb dX5_init_25 rfl (lv_at hl 1 rfl) ?_
  refine cx_call Cx hK hS (B := fun _ => True) (rest := [.ref (z + 2), .ref a]) (fun _ _ _ _ h => h) (fun _ _ _ => trivial) (k_X0 l E (z + 2) (z + 3) n (by omega) (by omega)) ⟨rfl, rfl⟩ q_co_X0_init q_ml_X5_20 q_im_X0_init q_in_X0 rfl hd_X0_init ⟨(Nat.le_of_ble_eq_true rfl), (Nat.le_of_ble_eq_true rfl)⟩ rfl hl.1 rfl (Nat.le_of_ble_eq_true rfl) ⟨(Nat.le_of_ble_eq_true rfl), (show _ ≤ 66 + n by omega)⟩ hz c3 (fun q hq => by simp only [cA] at hq ⊢; omega) dX5_init_26 (fun H locs hres hz1 ho hS => ?_)
  refine W.eq (g2 := F0 m 29 ls [.ref (z + 2), .ref a]) rfl ?_
  have hzo := hz
  have c1 := c1.kept (ho _ (Nat.lt_of_lt_of_eq c1.lt hzo) (by simp only [cA]; omega))
  have c2 := c2.kept (ho _ (Nat.lt_of_lt_of_eq c2.lt hzo) (by simp only [cA]; omega))
  have h0 := h0.kept (ho _ (Nat.lt_of_lt_of_eq h0.lt hzo) (by simp only [cA]; omega))
  obtain ⟨hr1, hr2⟩ := hres
  have c4 : cAt E (z + 2) (.inr (0, [.ref (z + 3), .int 0])) H := hr1
  have c5 : cAt E (z + 3) (.inl (E.2.1 0, n, .inl (fun _ => 0))) H := hr2
  clear hr1 hr2
  have hz : H.size = (z + 4) := by rw [hz1]
  clear hz1 ho hzo
  refine cx_putF Cx hK hS q_X5 tyX5 tyX5_ok nmX5 h0 (Or.inl rfl) rfl 2 (by decide) q_fl_X5_23 rfl hin2 rfl (ty := tyX5 2) (tyX5_ok 2 (by decide)) rfl rfl (Nat.le_of_ble_eq_true rfl) dX5_init_29 (fun H locs h0 hz1 ho hS => ?_)
  have h0 : cAt E a (.inr (5, [.ref z, .ref (z + 1), .ref (z + 2), .int 0])) H := h0
  have c1 := c1.kept (ho _ (by omega))
  have c2 := c2.kept (ho _ (by omega))
  have c4 := c4.kept (ho _ (by omega))
  have c5 := c5.kept (ho _ (by omega))
  have hz : H.size = (z + 4) := hz1.trans hz
  clear hz1 ho
  exact cx_ret Cx hr hS hz ⟨h0, c1, c2, c4, c5⟩ dX5_init_32 hlocks

set_option maxHeartbeats 4000000 in
set_option maxRecDepth 100000 in
theorem k_X6 (l : Launch) (E : mEv) (a z : Nat) (haz : a < z) : Met l yX6_init (Cond.code yX6_init cX6_init 1 none :: mv_ws) ({ frames := 3, cells := 5, slots := 134, locals := 54 } : Room) (cPr E (fun _ => True) z (fun H => cAt E a (.inr (6, [.null, .int 0, .int 0, .int 0, .long 0])) H) [.ref a]) (cPo (cA a z) z 5 (fun H => cAt E a (.inr (6, [.ref z, .int 0, .int 0, .int 0, .long 0])) H ∧ cAt E z (.inr (5, [.ref (z + 1), .ref (z + 2), .ref (z + 3), .int 0])) H ∧ cAt E (z + 1) (.inl (E.2.1 0, 32, .inl (fun _ => 0))) H ∧ cAt E (z + 2) (.inl (E.2.1 0, 32, .inl (fun _ => 0))) H ∧ cAt E (z + 3) (.inr (0, [.ref (z + 4), .int 0])) H ∧ cAt E (z + 4) (.inl (E.2.1 0, 64, .inl (fun _ => 0))) H)) 5 134 (cA a z) := by
  refine Met.ofW (cc := cX6_init) (maxL := 1) (ret := none) (by decide) rfl ?_
  intro p e s m args below meth c s₁ B hml hv
  obtain ⟨rfl, ⟨hK, hBB⟩, hz, h0⟩ := hv
  have hx := B.exec
  have hb := B.bytes
  have hr := B.returns
  have hlocks := B.notSynchronized
  have hin2 : meth.name = "<init>" := (name_of_methodNamed B.named B.method).1
  have Cx : CallFix p m c cX6_init 1 s ([.ref a] : List Value).toArray (Cond.code yX6_init cX6_init 1 none :: mv_ws) RX6 := ⟨hx, hb, hml, findClass_of_methodNamed B.named, atoms_spec (ws := Cond.code yX6_init cX6_init 1 none :: mv_ws) B.pre⟩
  have hS : va_S (cA a z) s.heap s.heap [] := va_S.rf
  have hl := lv_entry ([.ref a]) (n := 1) (Nat.le_of_ble_eq_true rfl)
  rw [lg_entry_eq]
  generalize (lg_sl ([.ref a]) ++ List.replicate (1 - (lg_sl ([.ref a])).length) Slot.unset).toArray = ls at hl ⊢
  have hl : lv_has ls 1 [(0, .ref a)] := hl
  have hz : s.heap.size = z := hz
  have hz00 := hz
  refine lv_aload_n hx hb dX6_init_0 rfl (lv_at hl 0 rfl) ?_
  refine cx_obj Cx q_ml_X6_3 hl.1 ⟨(Nat.le_of_ble_eq_true rfl), (Nat.le_of_ble_eq_true rfl)⟩ dX6_init_1 ?_
  refine lv_aload_n hx hb dX6_init_4 rfl (lv_at hl 0 rfl) ?_
  refine cx_new Cx hK hS q_X5 tyX5 tyX5_ok q_cl_X6_9 q_is_X5 q_in_X5 (ci := 5) rfl (fs := [.null, .null, .null, .int 0]) (fun j hj => by rcases (show j = 0 ∨ j = 1 ∨ j = 2 ∨ j = 3 by omega) with rfl | rfl | rfl | rfl <;> rfl) (Nat.le_of_ble_eq_true rfl) (Nat.le_of_ble_eq_true rfl) dX6_init_5 hz (fun H hnew hz1 ho hS => ?_)
  have hzo := hz
  have h0 := h0.kept (ho _ (Nat.lt_of_lt_of_eq h0.lt hzo))
  have c1 : cAt E z (.inr (5, [.null, .null, .null, .int 0])) H := hnew
  have hz : H.size = (z + 1) := hz1
  clear hz1 ho hzo hnew
  refine lv_dup hx hb dX6_init_8 rfl ?_
  refine lv_bipush (v := 64) hx hb dX6_init_9 (by decide) ?_
  refine cx_call Cx hK hS (B := fun _ => True) (rest := [.ref z, .ref a]) (fun _ _ _ _ h => h) (fun _ _ _ => trivial) (k_X5 l E z (z + 1) 64 (by omega) (by decide)) ⟨rfl, rfl⟩ q_co_X5_init q_ml_X6_11 q_im_X5_init q_in_X5 rfl hd_X5_init ⟨(Nat.le_of_ble_eq_true rfl), (Nat.le_of_ble_eq_true rfl)⟩ rfl hl.1 rfl (Nat.le_of_ble_eq_true rfl) ⟨(Nat.le_of_ble_eq_true rfl), (Nat.le_of_ble_eq_true rfl)⟩ hz c1 (fun q hq => by simp only [cA] at hq ⊢; omega) dX6_init_11 (fun H locs hres hz1 ho hS => ?_)
  refine W.eq (g2 := F0 m 14 ls [.ref z, .ref a]) rfl ?_
  have hzo := hz
  have h0 := h0.kept (ho _ (Nat.lt_of_lt_of_eq h0.lt hzo) (by simp only [cA]; omega))
  obtain ⟨hr0, hr1, hr2, hr3, hr4⟩ := hres
  have c2 : cAt E z (.inr (5, [.ref (z + 1), .ref (z + 2), .ref (z + 3), .int 0])) H := hr0
  have c3 : cAt E (z + 1) (.inl (E.2.1 0, 32, .inl (fun _ => 0))) H := hr1
  have c4 : cAt E (z + 2) (.inl (E.2.1 0, 32, .inl (fun _ => 0))) H := hr2
  have c5 : cAt E (z + 3) (.inr (0, [.ref (z + 4), .int 0])) H := hr3
  have c6 : cAt E (z + 4) (.inl (E.2.1 0, 64, .inl (fun _ => 0))) H := hr4
  clear hr0 hr1 hr2 hr3 hr4
  have hz : H.size = (z + 5) := by rw [hz1]
  clear hz1 ho hzo
  refine cx_putF Cx hK hS q_X6 tyX6 tyX6_ok nmX6 h0 (Or.inl rfl) rfl 0 (by decide) q_fl_X6_14 rfl hin2 rfl (ty := tyX6 0) (tyX6_ok 0 (by decide)) rfl rfl (Nat.le_of_ble_eq_true rfl) dX6_init_14 (fun H locs h0 hz1 ho hS => ?_)
  have h0 : cAt E a (.inr (6, [.ref z, .int 0, .int 0, .int 0, .long 0])) H := h0
  have c2 := c2.kept (ho _ (by omega))
  have c3 := c3.kept (ho _ (by omega))
  have c4 := c4.kept (ho _ (by omega))
  have c5 := c5.kept (ho _ (by omega))
  have c6 := c6.kept (ho _ (by omega))
  have hz : H.size = (z + 5) := hz1.trans hz
  clear hz1 ho
  exact cx_ret Cx hr hS hz ⟨h0, c2, c3, c4, c5, c6⟩ dX6_init_17 hlocks
