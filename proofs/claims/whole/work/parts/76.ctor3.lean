/-! ===== the reference's constructor ===== -/
def mKs : List Nat := [1, 3, 5, 7, 8, 9, 10, 11, 13, 14, 15, 16, 22, 23, 24, 25, 26, 27, 28, 29, 30, 31, 32, 33, 34, 35, 36, 37, 38]
theorem mKs_inj : ∀ q ∈ mKs, ∀ r ∈ mKs, mOffM q = mOffM r → q = r := by decide +kernel
theorem mKs_pos : ∀ q ∈ mKs, 1 ≤ mOffM q := by decide +kernel
def aM (E : mEv) : Nat → Prop := fun q => E.2.2 ≤ q ∧ q < E.2.2 + 30
theorem ownM (E : mEv) : mOwn mLM E (aM E) := own_of (fun q => mOffM q.1) mGoodM (fun q => by show E.2.2 + mOffM q.1 + 0 * q.2 = _; rw [Nat.zero_mul, Nat.add_zero]) (by decide +kernel) (fun q hq => by
  have h := (show ∀ q ∈ mPM, mOffM q.1 < 30 by decide +kernel) q hq
  exact ⟨by omega, by omega⟩)
set_option maxHeartbeats 4000000 in
set_option maxRecDepth 100000 in
theorem k_X8 (l : Launch) (E : mEv) (x : Int32) : Met l yX8_init (Cond.code yX8_init cX8_init 2 none :: mv_ws) ({ frames := 4, cells := 29, slots := 6000, locals := 112 } : Room) (cPr E (fun U => mG E (aM E) U) (E.2.2 + 1) (fun H => cAt E E.2.2 (.inr (8, [.null, .int 0, .null, .int 0, .null, .int 0, .null, .null, .null, .null, .null, .int 0, .null, .null, .null, .null, .int 0, .int 0, .int 0, .int 0, .long 0, .null, .null, .null, .null, .null, .null, .null, .null, .null, .null, .null, .null, .null, .null, .null, .null, .null])) H) [.ref E.2.2, .int x]) (cPo (aM E) (E.2.2 + 1) 29 (fun H => ∃ S', mHold mLM E S' H ∧ (∀ j, j < 32 → S'.2.1 13 0 j = shaL (sdL x) j) ∧ (∀ j, j < 32 → S'.2.1 14 0 j = shaL [] j) ∧ (∀ j, j < 32 → S'.2.1 15 0 j = shaL [] j) ∧ nSame (fun k j => scM k j ∨ k = 13 ∨ k = 14 ∨ k = 15) mS0 S')) 29 6000 (aM E) := by
  refine Met.ofW (cc := cX8_init) (maxL := 2) (ret := none) (by decide) rfl ?_
  intro p e s m args below meth c s₁ B hml hv
  obtain ⟨rfl, ⟨hK, hBB⟩, hz, h0⟩ := hv
  have hx := B.exec
  have hb := B.bytes
  have hr := B.returns
  have hlocks := B.notSynchronized
  have hin2 : meth.name = "<init>" := (name_of_methodNamed B.named B.method).1
  have Cx : CallFix p m c cX8_init 2 s ([.ref E.2.2, .int x] : List Value).toArray (Cond.code yX8_init cX8_init 2 none :: mv_ws) RX8 := ⟨hx, hb, hml, findClass_of_methodNamed B.named, atoms_spec (ws := Cond.code yX8_init cX8_init 2 none :: mv_ws) B.pre⟩
  have hS : va_S (aM E) s.heap s.heap [] := va_S.rf
  have hF : ∀ q, q ∈ mKs → mOffM q ≤ 0 → cAt E (mAdM E q 0) (mWM E mS0 q 0) s.heap := fun q hm hle => by
    have h := mKs_pos q hm
    omega
  have hne : ∀ q, q ∈ mKs → mAdM E q 0 ≠ E.2.2 := fun q hm => by
    have h := mKs_pos q hm
    unfold mAdM
    omega
  have hl := lv_entry ([.ref E.2.2, .int x]) (n := 2) (Nat.le_of_ble_eq_true rfl)
  rw [lg_entry_eq]
  generalize (lg_sl ([.ref E.2.2, .int x]) ++ List.replicate (2 - (lg_sl ([.ref E.2.2, .int x])).length) Slot.unset).toArray = ls at hl ⊢
  have hl : lv_has ls 2 [(0, .ref E.2.2), (1, .int x)] := hl
  have hz : s.heap.size = (E.2.2 + 1) := hz
  have hz00 := hz
  refine lv_aload_n hx hb dX8_init_0 rfl (lv_at hl 0 rfl) ?_
  refine cx_obj Cx q_ml_X8_1 hl.1 ⟨(Nat.le_of_ble_eq_true rfl), (Nat.le_of_ble_eq_true rfl)⟩ dX8_init_1 ?_
  refine lv_aload_n hx hb dX8_init_4 rfl (lv_at hl 0 rfl) ?_
  refine lv_sipush (v := 400) hx hb dX8_init_5 (by decide) ?_
  refine cx_newa Cx hK hS (ty := .byte) rfl 0 rfl rfl q_ac_byte (N := 400) (f := .inl (fun _ => 0)) rfl (by decide) rfl (by decide) (Nat.le_of_ble_eq_true rfl) (Nat.le_of_ble_eq_true rfl) dX8_init_8 hz (fun H hnew hz1 ho hS => ?_)
  have hzo := hz
  have h0 := h0.kept (ho _ (Nat.lt_of_lt_of_eq h0.lt hzo))
  have hF := fun q hm hle => (hF q hm hle).kept (ho _ (Nat.lt_of_lt_of_eq (hF q hm hle).lt hzo))
  have hF : ∀ q, q ∈ mKs → mOffM q ≤ 1 → cAt E (mAdM E q 0) (mWM E mS0 q 0) H := fun q hm hle => by
    rcases Nat.lt_or_ge (mOffM q) 1 with h | h
    · exact hF q hm (by omega)
    · obtain rfl : q = 1 := mKs_inj q hm 1 (by decide +kernel) (show mOffM q = 1 by omega)
      exact hnew
  have hz : H.size = (E.2.2 + 2) := hz1
  clear hz1 ho hzo hnew
  refine cx_putF Cx hK hS q_X8 tyX8 tyX8_ok nmX8 h0 ⟨by omega, by omega⟩ rfl 0 (by decide) q_fl_X8_9 rfl hin2 rfl (ty := tyX8 0) (tyX8_ok 0 (by decide)) rfl rfl (Nat.le_of_ble_eq_true rfl) dX8_init_10 (fun H locs h0 hz1 ho hS => ?_)
  have h0 : cAt E E.2.2 (.inr (8, [.ref (E.2.2 + 1), .int 0, .null, .int 0, .null, .int 0, .null, .null, .null, .null, .null, .int 0, .null, .null, .null, .null, .int 0, .int 0, .int 0, .int 0, .long 0, .null, .null, .null, .null, .null, .null, .null, .null, .null, .null, .null, .null, .null, .null, .null, .null, .null])) H := h0
  have hF := fun q hm hle => (hF q hm hle).kept (ho _ (hne q hm))
  have hz : H.size = (E.2.2 + 2) := hz1.trans hz
  clear hz1 ho
  refine lv_aload_n hx hb dX8_init_13 rfl (lv_at hl 0 rfl) ?_
  refine lv_sipush (v := 512) hx hb dX8_init_14 (by decide) ?_
  refine cx_newa Cx hK hS (ty := .byte) rfl 0 rfl rfl q_ac_byte (N := 512) (f := .inl (fun _ => 0)) rfl (by decide) rfl (by decide) (Nat.le_of_ble_eq_true rfl) (Nat.le_of_ble_eq_true rfl) dX8_init_17 hz (fun H hnew hz1 ho hS => ?_)
  have hzo := hz
  have h0 := h0.kept (ho _ (Nat.lt_of_lt_of_eq h0.lt hzo))
  have hF := fun q hm hle => (hF q hm hle).kept (ho _ (Nat.lt_of_lt_of_eq (hF q hm hle).lt hzo))
  have hF : ∀ q, q ∈ mKs → mOffM q ≤ 2 → cAt E (mAdM E q 0) (mWM E mS0 q 0) H := fun q hm hle => by
    rcases Nat.lt_or_ge (mOffM q) 2 with h | h
    · exact hF q hm (by omega)
    · obtain rfl : q = 3 := mKs_inj q hm 3 (by decide +kernel) (show mOffM q = 2 by omega)
      exact hnew
  have hz : H.size = (E.2.2 + 3) := hz1
  clear hz1 ho hzo hnew
  refine cx_putF Cx hK hS q_X8 tyX8 tyX8_ok nmX8 h0 ⟨by omega, by omega⟩ rfl 2 (by decide) q_fl_X8_13 rfl hin2 rfl (ty := tyX8 2) (tyX8_ok 2 (by decide)) rfl rfl (Nat.le_of_ble_eq_true rfl) dX8_init_19 (fun H locs h0 hz1 ho hS => ?_)
  have h0 : cAt E E.2.2 (.inr (8, [.ref (E.2.2 + 1), .int 0, .ref (E.2.2 + 2), .int 0, .null, .int 0, .null, .null, .null, .null, .null, .int 0, .null, .null, .null, .null, .int 0, .int 0, .int 0, .int 0, .long 0, .null, .null, .null, .null, .null, .null, .null, .null, .null, .null, .null, .null, .null, .null, .null, .null, .null])) H := h0
  have hF := fun q hm hle => (hF q hm hle).kept (ho _ (hne q hm))
  have hz : H.size = (E.2.2 + 3) := hz1.trans hz
  clear hz1 ho
  refine lv_aload_n hx hb dX8_init_22 rfl (lv_at hl 0 rfl) ?_
  refine lv_sipush (v := 1024) hx hb dX8_init_23 (by decide) ?_
  refine cx_newa Cx hK hS (ty := .byte) rfl 0 rfl rfl q_ac_byte (N := 1024) (f := .inl (fun _ => 0)) rfl (by decide) rfl (by decide) (Nat.le_of_ble_eq_true rfl) (Nat.le_of_ble_eq_true rfl) dX8_init_26 hz (fun H hnew hz1 ho hS => ?_)
  have hzo := hz
  have h0 := h0.kept (ho _ (Nat.lt_of_lt_of_eq h0.lt hzo))
  have hF := fun q hm hle => (hF q hm hle).kept (ho _ (Nat.lt_of_lt_of_eq (hF q hm hle).lt hzo))
  have hF : ∀ q, q ∈ mKs → mOffM q ≤ 3 → cAt E (mAdM E q 0) (mWM E mS0 q 0) H := fun q hm hle => by
    rcases Nat.lt_or_ge (mOffM q) 3 with h | h
    · exact hF q hm (by omega)
    · obtain rfl : q = 5 := mKs_inj q hm 5 (by decide +kernel) (show mOffM q = 3 by omega)
      exact hnew
  have hz : H.size = (E.2.2 + 4) := hz1
  clear hz1 ho hzo hnew
  refine cx_putF Cx hK hS q_X8 tyX8 tyX8_ok nmX8 h0 ⟨by omega, by omega⟩ rfl 4 (by decide) q_fl_X8_16 rfl hin2 rfl (ty := tyX8 4) (tyX8_ok 4 (by decide)) rfl rfl (Nat.le_of_ble_eq_true rfl) dX8_init_28 (fun H locs h0 hz1 ho hS => ?_)
  have h0 : cAt E E.2.2 (.inr (8, [.ref (E.2.2 + 1), .int 0, .ref (E.2.2 + 2), .int 0, .ref (E.2.2 + 3), .int 0, .null, .null, .null, .null, .null, .int 0, .null, .null, .null, .null, .int 0, .int 0, .int 0, .int 0, .long 0, .null, .null, .null, .null, .null, .null, .null, .null, .null, .null, .null, .null, .null, .null, .null, .null, .null])) H := h0
  have hF := fun q hm hle => (hF q hm hle).kept (ho _ (hne q hm))
  have hz : H.size = (E.2.2 + 4) := hz1.trans hz
  clear hz1 ho
  refine lv_aload_n hx hb dX8_init_31 rfl (lv_at hl 0 rfl) ?_
  refine lv_bipush (v := 8) hx hb dX8_init_32 (by decide) ?_
  refine cx_newa Cx hK hS (ty := .long) rfl 2 rfl rfl q_ac_long (N := 8) (f := .inr (.inl (fun _ => 0))) rfl (by decide) rfl (by decide) (Nat.le_of_ble_eq_true rfl) (Nat.le_of_ble_eq_true rfl) dX8_init_34 hz (fun H hnew hz1 ho hS => ?_)
  have hzo := hz
  have h0 := h0.kept (ho _ (Nat.lt_of_lt_of_eq h0.lt hzo))
  have hF := fun q hm hle => (hF q hm hle).kept (ho _ (Nat.lt_of_lt_of_eq (hF q hm hle).lt hzo))
  have hF : ∀ q, q ∈ mKs → mOffM q ≤ 4 → cAt E (mAdM E q 0) (mWM E mS0 q 0) H := fun q hm hle => by
    rcases Nat.lt_or_ge (mOffM q) 4 with h | h
    · exact hF q hm (by omega)
    · obtain rfl : q = 7 := mKs_inj q hm 7 (by decide +kernel) (show mOffM q = 4 by omega)
      exact hnew
  have hz : H.size = (E.2.2 + 5) := hz1
  clear hz1 ho hzo hnew
  refine cx_putF Cx hK hS q_X8 tyX8 tyX8_ok nmX8 h0 ⟨by omega, by omega⟩ rfl 6 (by decide) q_fl_X8_19 rfl hin2 rfl (ty := tyX8 6) (tyX8_ok 6 (by decide)) rfl rfl (Nat.le_of_ble_eq_true rfl) dX8_init_36 (fun H locs h0 hz1 ho hS => ?_)
  have h0 : cAt E E.2.2 (.inr (8, [.ref (E.2.2 + 1), .int 0, .ref (E.2.2 + 2), .int 0, .ref (E.2.2 + 3), .int 0, .ref (E.2.2 + 4), .null, .null, .null, .null, .int 0, .null, .null, .null, .null, .int 0, .int 0, .int 0, .int 0, .long 0, .null, .null, .null, .null, .null, .null, .null, .null, .null, .null, .null, .null, .null, .null, .null, .null, .null])) H := h0
  have hF := fun q hm hle => (hF q hm hle).kept (ho _ (hne q hm))
  have hz : H.size = (E.2.2 + 5) := hz1.trans hz
  clear hz1 ho
  refine lv_aload_n hx hb dX8_init_39 rfl (lv_at hl 0 rfl) ?_
  refine lv_bipush (v := 64) hx hb dX8_init_40 (by decide) ?_
  refine cx_newa Cx hK hS (ty := .long) rfl 2 rfl rfl q_ac_long (N := 64) (f := .inr (.inl (fun _ => 0))) rfl (by decide) rfl (by decide) (Nat.le_of_ble_eq_true rfl) (Nat.le_of_ble_eq_true rfl) dX8_init_42 hz (fun H hnew hz1 ho hS => ?_)
  have hzo := hz
  have h0 := h0.kept (ho _ (Nat.lt_of_lt_of_eq h0.lt hzo))
  have hF := fun q hm hle => (hF q hm hle).kept (ho _ (Nat.lt_of_lt_of_eq (hF q hm hle).lt hzo))
  have hF : ∀ q, q ∈ mKs → mOffM q ≤ 5 → cAt E (mAdM E q 0) (mWM E mS0 q 0) H := fun q hm hle => by
    rcases Nat.lt_or_ge (mOffM q) 5 with h | h
    · exact hF q hm (by omega)
    · obtain rfl : q = 8 := mKs_inj q hm 8 (by decide +kernel) (show mOffM q = 5 by omega)
      exact hnew
  have hz : H.size = (E.2.2 + 6) := hz1
  clear hz1 ho hzo hnew
  refine cx_putF Cx hK hS q_X8 tyX8 tyX8_ok nmX8 h0 ⟨by omega, by omega⟩ rfl 7 (by decide) q_fl_X8_23 rfl hin2 rfl (ty := tyX8 7) (tyX8_ok 7 (by decide)) rfl rfl (Nat.le_of_ble_eq_true rfl) dX8_init_44 (fun H locs h0 hz1 ho hS => ?_)
  have h0 : cAt E E.2.2 (.inr (8, [.ref (E.2.2 + 1), .int 0, .ref (E.2.2 + 2), .int 0, .ref (E.2.2 + 3), .int 0, .ref (E.2.2 + 4), .ref (E.2.2 + 5), .null, .null, .null, .int 0, .null, .null, .null, .null, .int 0, .int 0, .int 0, .int 0, .long 0, .null, .null, .null, .null, .null, .null, .null, .null, .null, .null, .null, .null, .null, .null, .null, .null, .null])) H := h0
  have hF := fun q hm hle => (hF q hm hle).kept (ho _ (hne q hm))
  have hz : H.size = (E.2.2 + 6) := hz1.trans hz
  clear hz1 ho
  refine lv_aload_n hx hb dX8_init_47 rfl (lv_at hl 0 rfl) ?_
  refine lv_bipush (v := 32) hx hb dX8_init_48 (by decide) ?_
  refine cx_newa Cx hK hS (ty := .byte) rfl 0 rfl rfl q_ac_byte (N := 32) (f := .inl (fun _ => 0)) rfl (by decide) rfl (by decide) (Nat.le_of_ble_eq_true rfl) (Nat.le_of_ble_eq_true rfl) dX8_init_50 hz (fun H hnew hz1 ho hS => ?_)
  have hzo := hz
  have h0 := h0.kept (ho _ (Nat.lt_of_lt_of_eq h0.lt hzo))
  have hF := fun q hm hle => (hF q hm hle).kept (ho _ (Nat.lt_of_lt_of_eq (hF q hm hle).lt hzo))
  have hF : ∀ q, q ∈ mKs → mOffM q ≤ 6 → cAt E (mAdM E q 0) (mWM E mS0 q 0) H := fun q hm hle => by
    rcases Nat.lt_or_ge (mOffM q) 6 with h | h
    · exact hF q hm (by omega)
    · obtain rfl : q = 9 := mKs_inj q hm 9 (by decide +kernel) (show mOffM q = 6 by omega)
      exact hnew
  have hz : H.size = (E.2.2 + 7) := hz1
  clear hz1 ho hzo hnew
  refine cx_putF Cx hK hS q_X8 tyX8 tyX8_ok nmX8 h0 ⟨by omega, by omega⟩ rfl 8 (by decide) q_fl_X8_26 rfl hin2 rfl (ty := tyX8 8) (tyX8_ok 8 (by decide)) rfl rfl (Nat.le_of_ble_eq_true rfl) dX8_init_52 (fun H locs h0 hz1 ho hS => ?_)
  have h0 : cAt E E.2.2 (.inr (8, [.ref (E.2.2 + 1), .int 0, .ref (E.2.2 + 2), .int 0, .ref (E.2.2 + 3), .int 0, .ref (E.2.2 + 4), .ref (E.2.2 + 5), .ref (E.2.2 + 6), .null, .null, .int 0, .null, .null, .null, .null, .int 0, .int 0, .int 0, .int 0, .long 0, .null, .null, .null, .null, .null, .null, .null, .null, .null, .null, .null, .null, .null, .null, .null, .null, .null])) H := h0
  have hF := fun q hm hle => (hF q hm hle).kept (ho _ (hne q hm))
  have hz : H.size = (E.2.2 + 7) := hz1.trans hz
  clear hz1 ho
  refine lv_aload_n hx hb dX8_init_55 rfl (lv_at hl 0 rfl) ?_
  refine lv_bipush (v := 32) hx hb dX8_init_56 (by decide) ?_
  refine cx_newa Cx hK hS (ty := .byte) rfl 0 rfl rfl q_ac_byte (N := 32) (f := .inl (fun _ => 0)) rfl (by decide) rfl (by decide) (Nat.le_of_ble_eq_true rfl) (Nat.le_of_ble_eq_true rfl) dX8_init_58 hz (fun H hnew hz1 ho hS => ?_)
  have hzo := hz
  have h0 := h0.kept (ho _ (Nat.lt_of_lt_of_eq h0.lt hzo))
  have hF := fun q hm hle => (hF q hm hle).kept (ho _ (Nat.lt_of_lt_of_eq (hF q hm hle).lt hzo))
  have hF : ∀ q, q ∈ mKs → mOffM q ≤ 7 → cAt E (mAdM E q 0) (mWM E mS0 q 0) H := fun q hm hle => by
    rcases Nat.lt_or_ge (mOffM q) 7 with h | h
    · exact hF q hm (by omega)
    · obtain rfl : q = 10 := mKs_inj q hm 10 (by decide +kernel) (show mOffM q = 7 by omega)
      exact hnew
  have hz : H.size = (E.2.2 + 8) := hz1
  clear hz1 ho hzo hnew
  refine cx_putF Cx hK hS q_X8 tyX8 tyX8_ok nmX8 h0 ⟨by omega, by omega⟩ rfl 9 (by decide) q_fl_X8_29 rfl hin2 rfl (ty := tyX8 9) (tyX8_ok 9 (by decide)) rfl rfl (Nat.le_of_ble_eq_true rfl) dX8_init_60 (fun H locs h0 hz1 ho hS => ?_)
  have h0 : cAt E E.2.2 (.inr (8, [.ref (E.2.2 + 1), .int 0, .ref (E.2.2 + 2), .int 0, .ref (E.2.2 + 3), .int 0, .ref (E.2.2 + 4), .ref (E.2.2 + 5), .ref (E.2.2 + 6), .ref (E.2.2 + 7), .null, .int 0, .null, .null, .null, .null, .int 0, .int 0, .int 0, .int 0, .long 0, .null, .null, .null, .null, .null, .null, .null, .null, .null, .null, .null, .null, .null, .null, .null, .null, .null])) H := h0
  have hF := fun q hm hle => (hF q hm hle).kept (ho _ (hne q hm))
  have hz : H.size = (E.2.2 + 8) := hz1.trans hz
  clear hz1 ho
  refine lv_aload_n hx hb dX8_init_63 rfl (lv_at hl 0 rfl) ?_
  refine lv_sipush (v := 1024) hx hb dX8_init_64 (by decide) ?_
  refine cx_newa Cx hK hS (ty := .byte) rfl 0 rfl rfl q_ac_byte (N := 1024) (f := .inl (fun _ => 0)) rfl (by decide) rfl (by decide) (Nat.le_of_ble_eq_true rfl) (Nat.le_of_ble_eq_true rfl) dX8_init_67 hz (fun H hnew hz1 ho hS => ?_)
  have hzo := hz
  have h0 := h0.kept (ho _ (Nat.lt_of_lt_of_eq h0.lt hzo))
  have hF := fun q hm hle => (hF q hm hle).kept (ho _ (Nat.lt_of_lt_of_eq (hF q hm hle).lt hzo))
  have hF : ∀ q, q ∈ mKs → mOffM q ≤ 8 → cAt E (mAdM E q 0) (mWM E mS0 q 0) H := fun q hm hle => by
    rcases Nat.lt_or_ge (mOffM q) 8 with h | h
    · exact hF q hm (by omega)
    · obtain rfl : q = 11 := mKs_inj q hm 11 (by decide +kernel) (show mOffM q = 8 by omega)
      exact hnew
  have hz : H.size = (E.2.2 + 9) := hz1
  clear hz1 ho hzo hnew
  refine cx_putF Cx hK hS q_X8 tyX8 tyX8_ok nmX8 h0 ⟨by omega, by omega⟩ rfl 10 (by decide) q_fl_X8_32 rfl hin2 rfl (ty := tyX8 10) (tyX8_ok 10 (by decide)) rfl rfl (Nat.le_of_ble_eq_true rfl) dX8_init_69 (fun H locs h0 hz1 ho hS => ?_)
  have h0 : cAt E E.2.2 (.inr (8, [.ref (E.2.2 + 1), .int 0, .ref (E.2.2 + 2), .int 0, .ref (E.2.2 + 3), .int 0, .ref (E.2.2 + 4), .ref (E.2.2 + 5), .ref (E.2.2 + 6), .ref (E.2.2 + 7), .ref (E.2.2 + 8), .int 0, .null, .null, .null, .null, .int 0, .int 0, .int 0, .int 0, .long 0, .null, .null, .null, .null, .null, .null, .null, .null, .null, .null, .null, .null, .null, .null, .null, .null, .null])) H := h0
  have hF := fun q hm hle => (hF q hm hle).kept (ho _ (hne q hm))
  have hz : H.size = (E.2.2 + 9) := hz1.trans hz
  clear hz1 ho
  refine lv_aload_n hx hb dX8_init_72 rfl (lv_at hl 0 rfl) ?_
  refine lv_bipush (v := 32) hx hb dX8_init_73 (by decide) ?_
  refine cx_newa Cx hK hS (ty := .byte) rfl 0 rfl rfl q_ac_byte (N := 32) (f := .inl (fun _ => 0)) rfl (by decide) rfl (by decide) (Nat.le_of_ble_eq_true rfl) (Nat.le_of_ble_eq_true rfl) dX8_init_75 hz (fun H hnew hz1 ho hS => ?_)
  have hzo := hz
  have h0 := h0.kept (ho _ (Nat.lt_of_lt_of_eq h0.lt hzo))
  have hF := fun q hm hle => (hF q hm hle).kept (ho _ (Nat.lt_of_lt_of_eq (hF q hm hle).lt hzo))
  have hF : ∀ q, q ∈ mKs → mOffM q ≤ 9 → cAt E (mAdM E q 0) (mWM E mS0 q 0) H := fun q hm hle => by
    rcases Nat.lt_or_ge (mOffM q) 9 with h | h
    · exact hF q hm (by omega)
    · obtain rfl : q = 13 := mKs_inj q hm 13 (by decide +kernel) (show mOffM q = 9 by omega)
      exact hnew
  have hz : H.size = (E.2.2 + 10) := hz1
  clear hz1 ho hzo hnew
  refine cx_putF Cx hK hS q_X8 tyX8 tyX8_ok nmX8 h0 ⟨by omega, by omega⟩ rfl 12 (by decide) q_fl_X8_35 rfl hin2 rfl (ty := tyX8 12) (tyX8_ok 12 (by decide)) rfl rfl (Nat.le_of_ble_eq_true rfl) dX8_init_77 (fun H locs h0 hz1 ho hS => ?_)
  have h0 : cAt E E.2.2 (.inr (8, [.ref (E.2.2 + 1), .int 0, .ref (E.2.2 + 2), .int 0, .ref (E.2.2 + 3), .int 0, .ref (E.2.2 + 4), .ref (E.2.2 + 5), .ref (E.2.2 + 6), .ref (E.2.2 + 7), .ref (E.2.2 + 8), .int 0, .ref (E.2.2 + 9), .null, .null, .null, .int 0, .int 0, .int 0, .int 0, .long 0, .null, .null, .null, .null, .null, .null, .null, .null, .null, .null, .null, .null, .null, .null, .null, .null, .null])) H := h0
  have hF := fun q hm hle => (hF q hm hle).kept (ho _ (hne q hm))
  have hz : H.size = (E.2.2 + 10) := hz1.trans hz
  clear hz1 ho
  refine lv_aload_n hx hb dX8_init_80 rfl (lv_at hl 0 rfl) ?_
  refine lv_bipush (v := 32) hx hb dX8_init_81 (by decide) ?_
  refine cx_newa Cx hK hS (ty := .byte) rfl 0 rfl rfl q_ac_byte (N := 32) (f := .inl (fun _ => 0)) rfl (by decide) rfl (by decide) (Nat.le_of_ble_eq_true rfl) (Nat.le_of_ble_eq_true rfl) dX8_init_83 hz (fun H hnew hz1 ho hS => ?_)
  have hzo := hz
  have h0 := h0.kept (ho _ (Nat.lt_of_lt_of_eq h0.lt hzo))
  have hF := fun q hm hle => (hF q hm hle).kept (ho _ (Nat.lt_of_lt_of_eq (hF q hm hle).lt hzo))
  have hF : ∀ q, q ∈ mKs → mOffM q ≤ 10 → cAt E (mAdM E q 0) (mWM E mS0 q 0) H := fun q hm hle => by
    rcases Nat.lt_or_ge (mOffM q) 10 with h | h
    · exact hF q hm (by omega)
    · obtain rfl : q = 14 := mKs_inj q hm 14 (by decide +kernel) (show mOffM q = 10 by omega)
      exact hnew
  have hz : H.size = (E.2.2 + 11) := hz1
  clear hz1 ho hzo hnew
  refine cx_putF Cx hK hS q_X8 tyX8 tyX8_ok nmX8 h0 ⟨by omega, by omega⟩ rfl 13 (by decide) q_fl_X8_38 rfl hin2 rfl (ty := tyX8 13) (tyX8_ok 13 (by decide)) rfl rfl (Nat.le_of_ble_eq_true rfl) dX8_init_85 (fun H locs h0 hz1 ho hS => ?_)
  have h0 : cAt E E.2.2 (.inr (8, [.ref (E.2.2 + 1), .int 0, .ref (E.2.2 + 2), .int 0, .ref (E.2.2 + 3), .int 0, .ref (E.2.2 + 4), .ref (E.2.2 + 5), .ref (E.2.2 + 6), .ref (E.2.2 + 7), .ref (E.2.2 + 8), .int 0, .ref (E.2.2 + 9), .ref (E.2.2 + 10), .null, .null, .int 0, .int 0, .int 0, .int 0, .long 0, .null, .null, .null, .null, .null, .null, .null, .null, .null, .null, .null, .null, .null, .null, .null, .null, .null])) H := h0
  have hF := fun q hm hle => (hF q hm hle).kept (ho _ (hne q hm))
  have hz : H.size = (E.2.2 + 11) := hz1.trans hz
  clear hz1 ho
  refine lv_aload_n hx hb dX8_init_88 rfl (lv_at hl 0 rfl) ?_
  refine lv_bipush (v := 32) hx hb dX8_init_89 (by decide) ?_
  refine cx_newa Cx hK hS (ty := .byte) rfl 0 rfl rfl q_ac_byte (N := 32) (f := .inl (fun _ => 0)) rfl (by decide) rfl (by decide) (Nat.le_of_ble_eq_true rfl) (Nat.le_of_ble_eq_true rfl) dX8_init_91 hz (fun H hnew hz1 ho hS => ?_)
  have hzo := hz
  have h0 := h0.kept (ho _ (Nat.lt_of_lt_of_eq h0.lt hzo))
  have hF := fun q hm hle => (hF q hm hle).kept (ho _ (Nat.lt_of_lt_of_eq (hF q hm hle).lt hzo))
  have hF : ∀ q, q ∈ mKs → mOffM q ≤ 11 → cAt E (mAdM E q 0) (mWM E mS0 q 0) H := fun q hm hle => by
    rcases Nat.lt_or_ge (mOffM q) 11 with h | h
    · exact hF q hm (by omega)
    · obtain rfl : q = 15 := mKs_inj q hm 15 (by decide +kernel) (show mOffM q = 11 by omega)
      exact hnew
  have hz : H.size = (E.2.2 + 12) := hz1
  clear hz1 ho hzo hnew
  refine cx_putF Cx hK hS q_X8 tyX8 tyX8_ok nmX8 h0 ⟨by omega, by omega⟩ rfl 14 (by decide) q_fl_X8_41 rfl hin2 rfl (ty := tyX8 14) (tyX8_ok 14 (by decide)) rfl rfl (Nat.le_of_ble_eq_true rfl) dX8_init_93 (fun H locs h0 hz1 ho hS => ?_)
  have h0 : cAt E E.2.2 (.inr (8, [.ref (E.2.2 + 1), .int 0, .ref (E.2.2 + 2), .int 0, .ref (E.2.2 + 3), .int 0, .ref (E.2.2 + 4), .ref (E.2.2 + 5), .ref (E.2.2 + 6), .ref (E.2.2 + 7), .ref (E.2.2 + 8), .int 0, .ref (E.2.2 + 9), .ref (E.2.2 + 10), .ref (E.2.2 + 11), .null, .int 0, .int 0, .int 0, .int 0, .long 0, .null, .null, .null, .null, .null, .null, .null, .null, .null, .null, .null, .null, .null, .null, .null, .null, .null])) H := h0
  have hF := fun q hm hle => (hF q hm hle).kept (ho _ (hne q hm))
  have hz : H.size = (E.2.2 + 12) := hz1.trans hz
  clear hz1 ho
  refine lv_aload_n hx hb dX8_init_96 rfl (lv_at hl 0 rfl) ?_
  refine lv_sipush (v := 256) hx hb dX8_init_97 (by decide) ?_
  refine cx_newa Cx hK hS (ty := .byte) rfl 0 rfl rfl q_ac_byte (N := 256) (f := .inl (fun _ => 0)) rfl (by decide) rfl (by decide) (Nat.le_of_ble_eq_true rfl) (Nat.le_of_ble_eq_true rfl) dX8_init_100 hz (fun H hnew hz1 ho hS => ?_)
  have hzo := hz
  have h0 := h0.kept (ho _ (Nat.lt_of_lt_of_eq h0.lt hzo))
  have hF := fun q hm hle => (hF q hm hle).kept (ho _ (Nat.lt_of_lt_of_eq (hF q hm hle).lt hzo))
  have hF : ∀ q, q ∈ mKs → mOffM q ≤ 12 → cAt E (mAdM E q 0) (mWM E mS0 q 0) H := fun q hm hle => by
    rcases Nat.lt_or_ge (mOffM q) 12 with h | h
    · exact hF q hm (by omega)
    · obtain rfl : q = 16 := mKs_inj q hm 16 (by decide +kernel) (show mOffM q = 12 by omega)
      exact hnew
  have hz : H.size = (E.2.2 + 13) := hz1
  clear hz1 ho hzo hnew
  refine cx_putF Cx hK hS q_X8 tyX8 tyX8_ok nmX8 h0 ⟨by omega, by omega⟩ rfl 15 (by decide) q_fl_X8_44 rfl hin2 rfl (ty := tyX8 15) (tyX8_ok 15 (by decide)) rfl rfl (Nat.le_of_ble_eq_true rfl) dX8_init_102 (fun H locs h0 hz1 ho hS => ?_)
  have h0 : cAt E E.2.2 (.inr (8, [.ref (E.2.2 + 1), .int 0, .ref (E.2.2 + 2), .int 0, .ref (E.2.2 + 3), .int 0, .ref (E.2.2 + 4), .ref (E.2.2 + 5), .ref (E.2.2 + 6), .ref (E.2.2 + 7), .ref (E.2.2 + 8), .int 0, .ref (E.2.2 + 9), .ref (E.2.2 + 10), .ref (E.2.2 + 11), .ref (E.2.2 + 12), .int 0, .int 0, .int 0, .int 0, .long 0, .null, .null, .null, .null, .null, .null, .null, .null, .null, .null, .null, .null, .null, .null, .null, .null, .null])) H := h0
  have hF := fun q hm hle => (hF q hm hle).kept (ho _ (hne q hm))
  have hz : H.size = (E.2.2 + 13) := hz1.trans hz
  clear hz1 ho
  refine lv_aload_n hx hb dX8_init_105 rfl (lv_at hl 0 rfl) ?_
  refine lv_iconst (v := 4) hx hb dX8_init_106 (by decide) ?_
  refine cx_newa Cx hK hS (ty := .boolean) rfl 3 rfl rfl q_ac_boolean (N := 4) (f := .inl (fun _ => 0)) rfl (by decide) rfl (by decide) (Nat.le_of_ble_eq_true rfl) (Nat.le_of_ble_eq_true rfl) dX8_init_107 hz (fun H hnew hz1 ho hS => ?_)
  have hzo := hz
  have h0 := h0.kept (ho _ (Nat.lt_of_lt_of_eq h0.lt hzo))
  have hF := fun q hm hle => (hF q hm hle).kept (ho _ (Nat.lt_of_lt_of_eq (hF q hm hle).lt hzo))
  have hF : ∀ q, q ∈ mKs → mOffM q ≤ 13 → cAt E (mAdM E q 0) (mWM E mS0 q 0) H := fun q hm hle => by
    rcases Nat.lt_or_ge (mOffM q) 13 with h | h
    · exact hF q hm (by omega)
    · obtain rfl : q = 22 := mKs_inj q hm 22 (by decide +kernel) (show mOffM q = 13 by omega)
      exact hnew
  have hz : H.size = (E.2.2 + 14) := hz1
  clear hz1 ho hzo hnew
  refine cx_putF Cx hK hS q_X8 tyX8 tyX8_ok nmX8 h0 ⟨by omega, by omega⟩ rfl 21 (by decide) q_fl_X8_47 rfl hin2 rfl (ty := tyX8 21) (tyX8_ok 21 (by decide)) rfl rfl (Nat.le_of_ble_eq_true rfl) dX8_init_109 (fun H locs h0 hz1 ho hS => ?_)
  have h0 : cAt E E.2.2 (.inr (8, [.ref (E.2.2 + 1), .int 0, .ref (E.2.2 + 2), .int 0, .ref (E.2.2 + 3), .int 0, .ref (E.2.2 + 4), .ref (E.2.2 + 5), .ref (E.2.2 + 6), .ref (E.2.2 + 7), .ref (E.2.2 + 8), .int 0, .ref (E.2.2 + 9), .ref (E.2.2 + 10), .ref (E.2.2 + 11), .ref (E.2.2 + 12), .int 0, .int 0, .int 0, .int 0, .long 0, .ref (E.2.2 + 13), .null, .null, .null, .null, .null, .null, .null, .null, .null, .null, .null, .null, .null, .null, .null, .null])) H := h0
  have hF := fun q hm hle => (hF q hm hle).kept (ho _ (hne q hm))
  have hz : H.size = (E.2.2 + 14) := hz1.trans hz
  clear hz1 ho
  refine lv_aload_n hx hb dX8_init_112 rfl (lv_at hl 0 rfl) ?_
  refine lv_sipush (v := 128) hx hb dX8_init_113 (by decide) ?_
  refine cx_newa Cx hK hS (ty := .byte) rfl 0 rfl rfl q_ac_byte (N := 128) (f := .inl (fun _ => 0)) rfl (by decide) rfl (by decide) (Nat.le_of_ble_eq_true rfl) (Nat.le_of_ble_eq_true rfl) dX8_init_116 hz (fun H hnew hz1 ho hS => ?_)
  have hzo := hz
  have h0 := h0.kept (ho _ (Nat.lt_of_lt_of_eq h0.lt hzo))
  have hF := fun q hm hle => (hF q hm hle).kept (ho _ (Nat.lt_of_lt_of_eq (hF q hm hle).lt hzo))
  have hF : ∀ q, q ∈ mKs → mOffM q ≤ 14 → cAt E (mAdM E q 0) (mWM E mS0 q 0) H := fun q hm hle => by
    rcases Nat.lt_or_ge (mOffM q) 14 with h | h
    · exact hF q hm (by omega)
    · obtain rfl : q = 23 := mKs_inj q hm 23 (by decide +kernel) (show mOffM q = 14 by omega)
      exact hnew
  have hz : H.size = (E.2.2 + 15) := hz1
  clear hz1 ho hzo hnew
  refine cx_putF Cx hK hS q_X8 tyX8 tyX8_ok nmX8 h0 ⟨by omega, by omega⟩ rfl 22 (by decide) q_fl_X8_51 rfl hin2 rfl (ty := tyX8 22) (tyX8_ok 22 (by decide)) rfl rfl (Nat.le_of_ble_eq_true rfl) dX8_init_118 (fun H locs h0 hz1 ho hS => ?_)
  have h0 : cAt E E.2.2 (.inr (8, [.ref (E.2.2 + 1), .int 0, .ref (E.2.2 + 2), .int 0, .ref (E.2.2 + 3), .int 0, .ref (E.2.2 + 4), .ref (E.2.2 + 5), .ref (E.2.2 + 6), .ref (E.2.2 + 7), .ref (E.2.2 + 8), .int 0, .ref (E.2.2 + 9), .ref (E.2.2 + 10), .ref (E.2.2 + 11), .ref (E.2.2 + 12), .int 0, .int 0, .int 0, .int 0, .long 0, .ref (E.2.2 + 13), .ref (E.2.2 + 14), .null, .null, .null, .null, .null, .null, .null, .null, .null, .null, .null, .null, .null, .null, .null])) H := h0
  have hF := fun q hm hle => (hF q hm hle).kept (ho _ (hne q hm))
  have hz : H.size = (E.2.2 + 15) := hz1.trans hz
  clear hz1 ho
  refine lv_aload_n hx hb dX8_init_121 rfl (lv_at hl 0 rfl) ?_
  refine lv_iconst (v := 4) hx hb dX8_init_122 (by decide) ?_
  refine cx_newa Cx hK hS (ty := .boolean) rfl 3 rfl rfl q_ac_boolean (N := 4) (f := .inl (fun _ => 0)) rfl (by decide) rfl (by decide) (Nat.le_of_ble_eq_true rfl) (Nat.le_of_ble_eq_true rfl) dX8_init_123 hz (fun H hnew hz1 ho hS => ?_)
  have hzo := hz
  have h0 := h0.kept (ho _ (Nat.lt_of_lt_of_eq h0.lt hzo))
  have hF := fun q hm hle => (hF q hm hle).kept (ho _ (Nat.lt_of_lt_of_eq (hF q hm hle).lt hzo))
  have hF : ∀ q, q ∈ mKs → mOffM q ≤ 15 → cAt E (mAdM E q 0) (mWM E mS0 q 0) H := fun q hm hle => by
    rcases Nat.lt_or_ge (mOffM q) 15 with h | h
    · exact hF q hm (by omega)
    · obtain rfl : q = 24 := mKs_inj q hm 24 (by decide +kernel) (show mOffM q = 15 by omega)
      exact hnew
  have hz : H.size = (E.2.2 + 16) := hz1
  clear hz1 ho hzo hnew
  refine cx_putF Cx hK hS q_X8 tyX8 tyX8_ok nmX8 h0 ⟨by omega, by omega⟩ rfl 23 (by decide) q_fl_X8_54 rfl hin2 rfl (ty := tyX8 23) (tyX8_ok 23 (by decide)) rfl rfl (Nat.le_of_ble_eq_true rfl) dX8_init_125 (fun H locs h0 hz1 ho hS => ?_)
  have h0 : cAt E E.2.2 (.inr (8, [.ref (E.2.2 + 1), .int 0, .ref (E.2.2 + 2), .int 0, .ref (E.2.2 + 3), .int 0, .ref (E.2.2 + 4), .ref (E.2.2 + 5), .ref (E.2.2 + 6), .ref (E.2.2 + 7), .ref (E.2.2 + 8), .int 0, .ref (E.2.2 + 9), .ref (E.2.2 + 10), .ref (E.2.2 + 11), .ref (E.2.2 + 12), .int 0, .int 0, .int 0, .int 0, .long 0, .ref (E.2.2 + 13), .ref (E.2.2 + 14), .ref (E.2.2 + 15), .null, .null, .null, .null, .null, .null, .null, .null, .null, .null, .null, .null, .null, .null])) H := h0
  have hF := fun q hm hle => (hF q hm hle).kept (ho _ (hne q hm))
  have hz : H.size = (E.2.2 + 16) := hz1.trans hz
  clear hz1 ho
  refine lv_aload_n hx hb dX8_init_128 rfl (lv_at hl 0 rfl) ?_
  refine lv_iconst (v := 4) hx hb dX8_init_129 (by decide) ?_
  refine cx_newa Cx hK hS (ty := .boolean) rfl 3 rfl rfl q_ac_boolean (N := 4) (f := .inl (fun _ => 0)) rfl (by decide) rfl (by decide) (Nat.le_of_ble_eq_true rfl) (Nat.le_of_ble_eq_true rfl) dX8_init_130 hz (fun H hnew hz1 ho hS => ?_)
  have hzo := hz
  have h0 := h0.kept (ho _ (Nat.lt_of_lt_of_eq h0.lt hzo))
  have hF := fun q hm hle => (hF q hm hle).kept (ho _ (Nat.lt_of_lt_of_eq (hF q hm hle).lt hzo))
  have hF : ∀ q, q ∈ mKs → mOffM q ≤ 16 → cAt E (mAdM E q 0) (mWM E mS0 q 0) H := fun q hm hle => by
    rcases Nat.lt_or_ge (mOffM q) 16 with h | h
    · exact hF q hm (by omega)
    · obtain rfl : q = 25 := mKs_inj q hm 25 (by decide +kernel) (show mOffM q = 16 by omega)
      exact hnew
  have hz : H.size = (E.2.2 + 17) := hz1
  clear hz1 ho hzo hnew
  refine cx_putF Cx hK hS q_X8 tyX8 tyX8_ok nmX8 h0 ⟨by omega, by omega⟩ rfl 24 (by decide) q_fl_X8_57 rfl hin2 rfl (ty := tyX8 24) (tyX8_ok 24 (by decide)) rfl rfl (Nat.le_of_ble_eq_true rfl) dX8_init_132 (fun H locs h0 hz1 ho hS => ?_)
  have h0 : cAt E E.2.2 (.inr (8, [.ref (E.2.2 + 1), .int 0, .ref (E.2.2 + 2), .int 0, .ref (E.2.2 + 3), .int 0, .ref (E.2.2 + 4), .ref (E.2.2 + 5), .ref (E.2.2 + 6), .ref (E.2.2 + 7), .ref (E.2.2 + 8), .int 0, .ref (E.2.2 + 9), .ref (E.2.2 + 10), .ref (E.2.2 + 11), .ref (E.2.2 + 12), .int 0, .int 0, .int 0, .int 0, .long 0, .ref (E.2.2 + 13), .ref (E.2.2 + 14), .ref (E.2.2 + 15), .ref (E.2.2 + 16), .null, .null, .null, .null, .null, .null, .null, .null, .null, .null, .null, .null, .null])) H := h0
  have hF := fun q hm hle => (hF q hm hle).kept (ho _ (hne q hm))
  have hz : H.size = (E.2.2 + 17) := hz1.trans hz
  clear hz1 ho
  refine lv_aload_n hx hb dX8_init_135 rfl (lv_at hl 0 rfl) ?_
  refine lv_iconst (v := 4) hx hb dX8_init_136 (by decide) ?_
  refine cx_newa Cx hK hS (ty := .boolean) rfl 3 rfl rfl q_ac_boolean (N := 4) (f := .inl (fun _ => 0)) rfl (by decide) rfl (by decide) (Nat.le_of_ble_eq_true rfl) (Nat.le_of_ble_eq_true rfl) dX8_init_137 hz (fun H hnew hz1 ho hS => ?_)
  have hzo := hz
  have h0 := h0.kept (ho _ (Nat.lt_of_lt_of_eq h0.lt hzo))
  have hF := fun q hm hle => (hF q hm hle).kept (ho _ (Nat.lt_of_lt_of_eq (hF q hm hle).lt hzo))
  have hF : ∀ q, q ∈ mKs → mOffM q ≤ 17 → cAt E (mAdM E q 0) (mWM E mS0 q 0) H := fun q hm hle => by
    rcases Nat.lt_or_ge (mOffM q) 17 with h | h
    · exact hF q hm (by omega)
    · obtain rfl : q = 26 := mKs_inj q hm 26 (by decide +kernel) (show mOffM q = 17 by omega)
      exact hnew
  have hz : H.size = (E.2.2 + 18) := hz1
  clear hz1 ho hzo hnew
  refine cx_putF Cx hK hS q_X8 tyX8 tyX8_ok nmX8 h0 ⟨by omega, by omega⟩ rfl 25 (by decide) q_fl_X8_60 rfl hin2 rfl (ty := tyX8 25) (tyX8_ok 25 (by decide)) rfl rfl (Nat.le_of_ble_eq_true rfl) dX8_init_139 (fun H locs h0 hz1 ho hS => ?_)
  have h0 : cAt E E.2.2 (.inr (8, [.ref (E.2.2 + 1), .int 0, .ref (E.2.2 + 2), .int 0, .ref (E.2.2 + 3), .int 0, .ref (E.2.2 + 4), .ref (E.2.2 + 5), .ref (E.2.2 + 6), .ref (E.2.2 + 7), .ref (E.2.2 + 8), .int 0, .ref (E.2.2 + 9), .ref (E.2.2 + 10), .ref (E.2.2 + 11), .ref (E.2.2 + 12), .int 0, .int 0, .int 0, .int 0, .long 0, .ref (E.2.2 + 13), .ref (E.2.2 + 14), .ref (E.2.2 + 15), .ref (E.2.2 + 16), .ref (E.2.2 + 17), .null, .null, .null, .null, .null, .null, .null, .null, .null, .null, .null, .null])) H := h0
  have hF := fun q hm hle => (hF q hm hle).kept (ho _ (hne q hm))
  have hz : H.size = (E.2.2 + 18) := hz1.trans hz
  clear hz1 ho
  refine lv_aload_n hx hb dX8_init_142 rfl (lv_at hl 0 rfl) ?_
  refine lv_iconst (v := 4) hx hb dX8_init_143 (by decide) ?_
  refine cx_newa Cx hK hS (ty := .boolean) rfl 3 rfl rfl q_ac_boolean (N := 4) (f := .inl (fun _ => 0)) rfl (by decide) rfl (by decide) (Nat.le_of_ble_eq_true rfl) (Nat.le_of_ble_eq_true rfl) dX8_init_144 hz (fun H hnew hz1 ho hS => ?_)
  have hzo := hz
  have h0 := h0.kept (ho _ (Nat.lt_of_lt_of_eq h0.lt hzo))
  have hF := fun q hm hle => (hF q hm hle).kept (ho _ (Nat.lt_of_lt_of_eq (hF q hm hle).lt hzo))
  have hF : ∀ q, q ∈ mKs → mOffM q ≤ 18 → cAt E (mAdM E q 0) (mWM E mS0 q 0) H := fun q hm hle => by
    rcases Nat.lt_or_ge (mOffM q) 18 with h | h
    · exact hF q hm (by omega)
    · obtain rfl : q = 27 := mKs_inj q hm 27 (by decide +kernel) (show mOffM q = 18 by omega)
      exact hnew
  have hz : H.size = (E.2.2 + 19) := hz1
  clear hz1 ho hzo hnew
  refine cx_putF Cx hK hS q_X8 tyX8 tyX8_ok nmX8 h0 ⟨by omega, by omega⟩ rfl 26 (by decide) q_fl_X8_63 rfl hin2 rfl (ty := tyX8 26) (tyX8_ok 26 (by decide)) rfl rfl (Nat.le_of_ble_eq_true rfl) dX8_init_146 (fun H locs h0 hz1 ho hS => ?_)
  have h0 : cAt E E.2.2 (.inr (8, [.ref (E.2.2 + 1), .int 0, .ref (E.2.2 + 2), .int 0, .ref (E.2.2 + 3), .int 0, .ref (E.2.2 + 4), .ref (E.2.2 + 5), .ref (E.2.2 + 6), .ref (E.2.2 + 7), .ref (E.2.2 + 8), .int 0, .ref (E.2.2 + 9), .ref (E.2.2 + 10), .ref (E.2.2 + 11), .ref (E.2.2 + 12), .int 0, .int 0, .int 0, .int 0, .long 0, .ref (E.2.2 + 13), .ref (E.2.2 + 14), .ref (E.2.2 + 15), .ref (E.2.2 + 16), .ref (E.2.2 + 17), .ref (E.2.2 + 18), .null, .null, .null, .null, .null, .null, .null, .null, .null, .null, .null])) H := h0
  have hF := fun q hm hle => (hF q hm hle).kept (ho _ (hne q hm))
  have hz : H.size = (E.2.2 + 19) := hz1.trans hz
  clear hz1 ho
  refine lv_aload_n hx hb dX8_init_149 rfl (lv_at hl 0 rfl) ?_
  refine lv_iconst (v := 4) hx hb dX8_init_150 (by decide) ?_
  refine cx_newa Cx hK hS (ty := .int) rfl 1 rfl rfl q_ac_int (N := 4) (f := .inl (fun _ => 0)) rfl (by decide) rfl (by decide) (Nat.le_of_ble_eq_true rfl) (Nat.le_of_ble_eq_true rfl) dX8_init_151 hz (fun H hnew hz1 ho hS => ?_)
  have hzo := hz
  have h0 := h0.kept (ho _ (Nat.lt_of_lt_of_eq h0.lt hzo))
  have hF := fun q hm hle => (hF q hm hle).kept (ho _ (Nat.lt_of_lt_of_eq (hF q hm hle).lt hzo))
  have hF : ∀ q, q ∈ mKs → mOffM q ≤ 19 → cAt E (mAdM E q 0) (mWM E mS0 q 0) H := fun q hm hle => by
    rcases Nat.lt_or_ge (mOffM q) 19 with h | h
    · exact hF q hm (by omega)
    · obtain rfl : q = 28 := mKs_inj q hm 28 (by decide +kernel) (show mOffM q = 19 by omega)
      exact hnew
  have hz : H.size = (E.2.2 + 20) := hz1
  clear hz1 ho hzo hnew
  refine cx_putF Cx hK hS q_X8 tyX8 tyX8_ok nmX8 h0 ⟨by omega, by omega⟩ rfl 27 (by decide) q_fl_X8_66 rfl hin2 rfl (ty := tyX8 27) (tyX8_ok 27 (by decide)) rfl rfl (Nat.le_of_ble_eq_true rfl) dX8_init_153 (fun H locs h0 hz1 ho hS => ?_)
  have h0 : cAt E E.2.2 (.inr (8, [.ref (E.2.2 + 1), .int 0, .ref (E.2.2 + 2), .int 0, .ref (E.2.2 + 3), .int 0, .ref (E.2.2 + 4), .ref (E.2.2 + 5), .ref (E.2.2 + 6), .ref (E.2.2 + 7), .ref (E.2.2 + 8), .int 0, .ref (E.2.2 + 9), .ref (E.2.2 + 10), .ref (E.2.2 + 11), .ref (E.2.2 + 12), .int 0, .int 0, .int 0, .int 0, .long 0, .ref (E.2.2 + 13), .ref (E.2.2 + 14), .ref (E.2.2 + 15), .ref (E.2.2 + 16), .ref (E.2.2 + 17), .ref (E.2.2 + 18), .ref (E.2.2 + 19), .null, .null, .null, .null, .null, .null, .null, .null, .null, .null])) H := h0
  have hF := fun q hm hle => (hF q hm hle).kept (ho _ (hne q hm))
  have hz : H.size = (E.2.2 + 20) := hz1.trans hz
  clear hz1 ho
  refine lv_aload_n hx hb dX8_init_156 rfl (lv_at hl 0 rfl) ?_
  refine lv_iconst (v := 4) hx hb dX8_init_157 (by decide) ?_
  refine cx_newa Cx hK hS (ty := .int) rfl 1 rfl rfl q_ac_int (N := 4) (f := .inl (fun _ => 0)) rfl (by decide) rfl (by decide) (Nat.le_of_ble_eq_true rfl) (Nat.le_of_ble_eq_true rfl) dX8_init_158 hz (fun H hnew hz1 ho hS => ?_)
  have hzo := hz
  have h0 := h0.kept (ho _ (Nat.lt_of_lt_of_eq h0.lt hzo))
  have hF := fun q hm hle => (hF q hm hle).kept (ho _ (Nat.lt_of_lt_of_eq (hF q hm hle).lt hzo))
  have hF : ∀ q, q ∈ mKs → mOffM q ≤ 20 → cAt E (mAdM E q 0) (mWM E mS0 q 0) H := fun q hm hle => by
    rcases Nat.lt_or_ge (mOffM q) 20 with h | h
    · exact hF q hm (by omega)
    · obtain rfl : q = 29 := mKs_inj q hm 29 (by decide +kernel) (show mOffM q = 20 by omega)
      exact hnew
  have hz : H.size = (E.2.2 + 21) := hz1
  clear hz1 ho hzo hnew
  refine cx_putF Cx hK hS q_X8 tyX8 tyX8_ok nmX8 h0 ⟨by omega, by omega⟩ rfl 28 (by decide) q_fl_X8_70 rfl hin2 rfl (ty := tyX8 28) (tyX8_ok 28 (by decide)) rfl rfl (Nat.le_of_ble_eq_true rfl) dX8_init_160 (fun H locs h0 hz1 ho hS => ?_)
  have h0 : cAt E E.2.2 (.inr (8, [.ref (E.2.2 + 1), .int 0, .ref (E.2.2 + 2), .int 0, .ref (E.2.2 + 3), .int 0, .ref (E.2.2 + 4), .ref (E.2.2 + 5), .ref (E.2.2 + 6), .ref (E.2.2 + 7), .ref (E.2.2 + 8), .int 0, .ref (E.2.2 + 9), .ref (E.2.2 + 10), .ref (E.2.2 + 11), .ref (E.2.2 + 12), .int 0, .int 0, .int 0, .int 0, .long 0, .ref (E.2.2 + 13), .ref (E.2.2 + 14), .ref (E.2.2 + 15), .ref (E.2.2 + 16), .ref (E.2.2 + 17), .ref (E.2.2 + 18), .ref (E.2.2 + 19), .ref (E.2.2 + 20), .null, .null, .null, .null, .null, .null, .null, .null, .null])) H := h0
  have hF := fun q hm hle => (hF q hm hle).kept (ho _ (hne q hm))
  have hz : H.size = (E.2.2 + 21) := hz1.trans hz
  clear hz1 ho
  refine lv_aload_n hx hb dX8_init_163 rfl (lv_at hl 0 rfl) ?_
  refine lv_bipush (v := 12) hx hb dX8_init_164 (by decide) ?_
  refine cx_newa Cx hK hS (ty := .boolean) rfl 3 rfl rfl q_ac_boolean (N := 12) (f := .inl (fun _ => 0)) rfl (by decide) rfl (by decide) (Nat.le_of_ble_eq_true rfl) (Nat.le_of_ble_eq_true rfl) dX8_init_166 hz (fun H hnew hz1 ho hS => ?_)
  have hzo := hz
  have h0 := h0.kept (ho _ (Nat.lt_of_lt_of_eq h0.lt hzo))
  have hF := fun q hm hle => (hF q hm hle).kept (ho _ (Nat.lt_of_lt_of_eq (hF q hm hle).lt hzo))
  have hF : ∀ q, q ∈ mKs → mOffM q ≤ 21 → cAt E (mAdM E q 0) (mWM E mS0 q 0) H := fun q hm hle => by
    rcases Nat.lt_or_ge (mOffM q) 21 with h | h
    · exact hF q hm (by omega)
    · obtain rfl : q = 30 := mKs_inj q hm 30 (by decide +kernel) (show mOffM q = 21 by omega)
      exact hnew
  have hz : H.size = (E.2.2 + 22) := hz1
  clear hz1 ho hzo hnew
  refine cx_putF Cx hK hS q_X8 tyX8 tyX8_ok nmX8 h0 ⟨by omega, by omega⟩ rfl 29 (by decide) q_fl_X8_73 rfl hin2 rfl (ty := tyX8 29) (tyX8_ok 29 (by decide)) rfl rfl (Nat.le_of_ble_eq_true rfl) dX8_init_168 (fun H locs h0 hz1 ho hS => ?_)
  have h0 : cAt E E.2.2 (.inr (8, [.ref (E.2.2 + 1), .int 0, .ref (E.2.2 + 2), .int 0, .ref (E.2.2 + 3), .int 0, .ref (E.2.2 + 4), .ref (E.2.2 + 5), .ref (E.2.2 + 6), .ref (E.2.2 + 7), .ref (E.2.2 + 8), .int 0, .ref (E.2.2 + 9), .ref (E.2.2 + 10), .ref (E.2.2 + 11), .ref (E.2.2 + 12), .int 0, .int 0, .int 0, .int 0, .long 0, .ref (E.2.2 + 13), .ref (E.2.2 + 14), .ref (E.2.2 + 15), .ref (E.2.2 + 16), .ref (E.2.2 + 17), .ref (E.2.2 + 18), .ref (E.2.2 + 19), .ref (E.2.2 + 20), .ref (E.2.2 + 21), .null, .null, .null, .null, .null, .null, .null, .null])) H := h0
  have hF := fun q hm hle => (hF q hm hle).kept (ho _ (hne q hm))
  have hz : H.size = (E.2.2 + 22) := hz1.trans hz
  clear hz1 ho
  refine lv_aload_n hx hb dX8_init_171 rfl (lv_at hl 0 rfl) ?_
  refine lv_sipush (v := 384) hx hb dX8_init_172 (by decide) ?_
  refine cx_newa Cx hK hS (ty := .byte) rfl 0 rfl rfl q_ac_byte (N := 384) (f := .inl (fun _ => 0)) rfl (by decide) rfl (by decide) (Nat.le_of_ble_eq_true rfl) (Nat.le_of_ble_eq_true rfl) dX8_init_175 hz (fun H hnew hz1 ho hS => ?_)
  have hzo := hz
  have h0 := h0.kept (ho _ (Nat.lt_of_lt_of_eq h0.lt hzo))
  have hF := fun q hm hle => (hF q hm hle).kept (ho _ (Nat.lt_of_lt_of_eq (hF q hm hle).lt hzo))
  have hF : ∀ q, q ∈ mKs → mOffM q ≤ 22 → cAt E (mAdM E q 0) (mWM E mS0 q 0) H := fun q hm hle => by
    rcases Nat.lt_or_ge (mOffM q) 22 with h | h
    · exact hF q hm (by omega)
    · obtain rfl : q = 31 := mKs_inj q hm 31 (by decide +kernel) (show mOffM q = 22 by omega)
      exact hnew
  have hz : H.size = (E.2.2 + 23) := hz1
  clear hz1 ho hzo hnew
  refine cx_putF Cx hK hS q_X8 tyX8 tyX8_ok nmX8 h0 ⟨by omega, by omega⟩ rfl 30 (by decide) q_fl_X8_76 rfl hin2 rfl (ty := tyX8 30) (tyX8_ok 30 (by decide)) rfl rfl (Nat.le_of_ble_eq_true rfl) dX8_init_177 (fun H locs h0 hz1 ho hS => ?_)
  have h0 : cAt E E.2.2 (.inr (8, [.ref (E.2.2 + 1), .int 0, .ref (E.2.2 + 2), .int 0, .ref (E.2.2 + 3), .int 0, .ref (E.2.2 + 4), .ref (E.2.2 + 5), .ref (E.2.2 + 6), .ref (E.2.2 + 7), .ref (E.2.2 + 8), .int 0, .ref (E.2.2 + 9), .ref (E.2.2 + 10), .ref (E.2.2 + 11), .ref (E.2.2 + 12), .int 0, .int 0, .int 0, .int 0, .long 0, .ref (E.2.2 + 13), .ref (E.2.2 + 14), .ref (E.2.2 + 15), .ref (E.2.2 + 16), .ref (E.2.2 + 17), .ref (E.2.2 + 18), .ref (E.2.2 + 19), .ref (E.2.2 + 20), .ref (E.2.2 + 21), .ref (E.2.2 + 22), .null, .null, .null, .null, .null, .null, .null])) H := h0
  have hF := fun q hm hle => (hF q hm hle).kept (ho _ (hne q hm))
  have hz : H.size = (E.2.2 + 23) := hz1.trans hz
  clear hz1 ho
  refine lv_aload_n hx hb dX8_init_180 rfl (lv_at hl 0 rfl) ?_
  refine lv_sipush (v := 384) hx hb dX8_init_181 (by decide) ?_
  refine cx_newa Cx hK hS (ty := .byte) rfl 0 rfl rfl q_ac_byte (N := 384) (f := .inl (fun _ => 0)) rfl (by decide) rfl (by decide) (Nat.le_of_ble_eq_true rfl) (Nat.le_of_ble_eq_true rfl) dX8_init_184 hz (fun H hnew hz1 ho hS => ?_)
  have hzo := hz
  have h0 := h0.kept (ho _ (Nat.lt_of_lt_of_eq h0.lt hzo))
  have hF := fun q hm hle => (hF q hm hle).kept (ho _ (Nat.lt_of_lt_of_eq (hF q hm hle).lt hzo))
  have hF : ∀ q, q ∈ mKs → mOffM q ≤ 23 → cAt E (mAdM E q 0) (mWM E mS0 q 0) H := fun q hm hle => by
    rcases Nat.lt_or_ge (mOffM q) 23 with h | h
    · exact hF q hm (by omega)
    · obtain rfl : q = 32 := mKs_inj q hm 32 (by decide +kernel) (show mOffM q = 23 by omega)
      exact hnew
  have hz : H.size = (E.2.2 + 24) := hz1
  clear hz1 ho hzo hnew
  refine cx_putF Cx hK hS q_X8 tyX8 tyX8_ok nmX8 h0 ⟨by omega, by omega⟩ rfl 31 (by decide) q_fl_X8_79 rfl hin2 rfl (ty := tyX8 31) (tyX8_ok 31 (by decide)) rfl rfl (Nat.le_of_ble_eq_true rfl) dX8_init_186 (fun H locs h0 hz1 ho hS => ?_)
  have h0 : cAt E E.2.2 (.inr (8, [.ref (E.2.2 + 1), .int 0, .ref (E.2.2 + 2), .int 0, .ref (E.2.2 + 3), .int 0, .ref (E.2.2 + 4), .ref (E.2.2 + 5), .ref (E.2.2 + 6), .ref (E.2.2 + 7), .ref (E.2.2 + 8), .int 0, .ref (E.2.2 + 9), .ref (E.2.2 + 10), .ref (E.2.2 + 11), .ref (E.2.2 + 12), .int 0, .int 0, .int 0, .int 0, .long 0, .ref (E.2.2 + 13), .ref (E.2.2 + 14), .ref (E.2.2 + 15), .ref (E.2.2 + 16), .ref (E.2.2 + 17), .ref (E.2.2 + 18), .ref (E.2.2 + 19), .ref (E.2.2 + 20), .ref (E.2.2 + 21), .ref (E.2.2 + 22), .ref (E.2.2 + 23), .null, .null, .null, .null, .null, .null])) H := h0
  have hF := fun q hm hle => (hF q hm hle).kept (ho _ (hne q hm))
  have hz : H.size = (E.2.2 + 24) := hz1.trans hz
  clear hz1 ho
  refine lv_aload_n hx hb dX8_init_189 rfl (lv_at hl 0 rfl) ?_
  refine lv_sipush (v := 1536) hx hb dX8_init_190 (by decide) ?_
  refine cx_newa Cx hK hS (ty := .byte) rfl 0 rfl rfl q_ac_byte (N := 1536) (f := .inl (fun _ => 0)) rfl (by decide) rfl (by decide) (Nat.le_of_ble_eq_true rfl) (Nat.le_of_ble_eq_true rfl) dX8_init_193 hz (fun H hnew hz1 ho hS => ?_)
  have hzo := hz
  have h0 := h0.kept (ho _ (Nat.lt_of_lt_of_eq h0.lt hzo))
  have hF := fun q hm hle => (hF q hm hle).kept (ho _ (Nat.lt_of_lt_of_eq (hF q hm hle).lt hzo))
  have hF : ∀ q, q ∈ mKs → mOffM q ≤ 24 → cAt E (mAdM E q 0) (mWM E mS0 q 0) H := fun q hm hle => by
    rcases Nat.lt_or_ge (mOffM q) 24 with h | h
    · exact hF q hm (by omega)
    · obtain rfl : q = 33 := mKs_inj q hm 33 (by decide +kernel) (show mOffM q = 24 by omega)
      exact hnew
  have hz : H.size = (E.2.2 + 25) := hz1
  clear hz1 ho hzo hnew
  refine cx_putF Cx hK hS q_X8 tyX8 tyX8_ok nmX8 h0 ⟨by omega, by omega⟩ rfl 32 (by decide) q_fl_X8_82 rfl hin2 rfl (ty := tyX8 32) (tyX8_ok 32 (by decide)) rfl rfl (Nat.le_of_ble_eq_true rfl) dX8_init_195 (fun H locs h0 hz1 ho hS => ?_)
  have h0 : cAt E E.2.2 (.inr (8, [.ref (E.2.2 + 1), .int 0, .ref (E.2.2 + 2), .int 0, .ref (E.2.2 + 3), .int 0, .ref (E.2.2 + 4), .ref (E.2.2 + 5), .ref (E.2.2 + 6), .ref (E.2.2 + 7), .ref (E.2.2 + 8), .int 0, .ref (E.2.2 + 9), .ref (E.2.2 + 10), .ref (E.2.2 + 11), .ref (E.2.2 + 12), .int 0, .int 0, .int 0, .int 0, .long 0, .ref (E.2.2 + 13), .ref (E.2.2 + 14), .ref (E.2.2 + 15), .ref (E.2.2 + 16), .ref (E.2.2 + 17), .ref (E.2.2 + 18), .ref (E.2.2 + 19), .ref (E.2.2 + 20), .ref (E.2.2 + 21), .ref (E.2.2 + 22), .ref (E.2.2 + 23), .ref (E.2.2 + 24), .null, .null, .null, .null, .null])) H := h0
  have hF := fun q hm hle => (hF q hm hle).kept (ho _ (hne q hm))
  have hz : H.size = (E.2.2 + 25) := hz1.trans hz
  clear hz1 ho
  refine lv_aload_n hx hb dX8_init_198 rfl (lv_at hl 0 rfl) ?_
  refine lv_bipush (v := 12) hx hb dX8_init_199 (by decide) ?_
  refine cx_newa Cx hK hS (ty := .int) rfl 1 rfl rfl q_ac_int (N := 12) (f := .inl (fun _ => 0)) rfl (by decide) rfl (by decide) (Nat.le_of_ble_eq_true rfl) (Nat.le_of_ble_eq_true rfl) dX8_init_201 hz (fun H hnew hz1 ho hS => ?_)
  have hzo := hz
  have h0 := h0.kept (ho _ (Nat.lt_of_lt_of_eq h0.lt hzo))
  have hF := fun q hm hle => (hF q hm hle).kept (ho _ (Nat.lt_of_lt_of_eq (hF q hm hle).lt hzo))
  have hF : ∀ q, q ∈ mKs → mOffM q ≤ 25 → cAt E (mAdM E q 0) (mWM E mS0 q 0) H := fun q hm hle => by
    rcases Nat.lt_or_ge (mOffM q) 25 with h | h
    · exact hF q hm (by omega)
    · obtain rfl : q = 34 := mKs_inj q hm 34 (by decide +kernel) (show mOffM q = 25 by omega)
      exact hnew
  have hz : H.size = (E.2.2 + 26) := hz1
  clear hz1 ho hzo hnew
  refine cx_putF Cx hK hS q_X8 tyX8 tyX8_ok nmX8 h0 ⟨by omega, by omega⟩ rfl 33 (by decide) q_fl_X8_85 rfl hin2 rfl (ty := tyX8 33) (tyX8_ok 33 (by decide)) rfl rfl (Nat.le_of_ble_eq_true rfl) dX8_init_203 (fun H locs h0 hz1 ho hS => ?_)
  have h0 : cAt E E.2.2 (.inr (8, [.ref (E.2.2 + 1), .int 0, .ref (E.2.2 + 2), .int 0, .ref (E.2.2 + 3), .int 0, .ref (E.2.2 + 4), .ref (E.2.2 + 5), .ref (E.2.2 + 6), .ref (E.2.2 + 7), .ref (E.2.2 + 8), .int 0, .ref (E.2.2 + 9), .ref (E.2.2 + 10), .ref (E.2.2 + 11), .ref (E.2.2 + 12), .int 0, .int 0, .int 0, .int 0, .long 0, .ref (E.2.2 + 13), .ref (E.2.2 + 14), .ref (E.2.2 + 15), .ref (E.2.2 + 16), .ref (E.2.2 + 17), .ref (E.2.2 + 18), .ref (E.2.2 + 19), .ref (E.2.2 + 20), .ref (E.2.2 + 21), .ref (E.2.2 + 22), .ref (E.2.2 + 23), .ref (E.2.2 + 24), .ref (E.2.2 + 25), .null, .null, .null, .null])) H := h0
  have hF := fun q hm hle => (hF q hm hle).kept (ho _ (hne q hm))
  have hz : H.size = (E.2.2 + 26) := hz1.trans hz
  clear hz1 ho
  refine lv_aload_n hx hb dX8_init_206 rfl (lv_at hl 0 rfl) ?_
  refine lv_bipush (v := 12) hx hb dX8_init_207 (by decide) ?_
  refine cx_newa Cx hK hS (ty := .int) rfl 1 rfl rfl q_ac_int (N := 12) (f := .inl (fun _ => 0)) rfl (by decide) rfl (by decide) (Nat.le_of_ble_eq_true rfl) (Nat.le_of_ble_eq_true rfl) dX8_init_209 hz (fun H hnew hz1 ho hS => ?_)
  have hzo := hz
  have h0 := h0.kept (ho _ (Nat.lt_of_lt_of_eq h0.lt hzo))
  have hF := fun q hm hle => (hF q hm hle).kept (ho _ (Nat.lt_of_lt_of_eq (hF q hm hle).lt hzo))
  have hF : ∀ q, q ∈ mKs → mOffM q ≤ 26 → cAt E (mAdM E q 0) (mWM E mS0 q 0) H := fun q hm hle => by
    rcases Nat.lt_or_ge (mOffM q) 26 with h | h
    · exact hF q hm (by omega)
    · obtain rfl : q = 35 := mKs_inj q hm 35 (by decide +kernel) (show mOffM q = 26 by omega)
      exact hnew
  have hz : H.size = (E.2.2 + 27) := hz1
  clear hz1 ho hzo hnew
  refine cx_putF Cx hK hS q_X8 tyX8 tyX8_ok nmX8 h0 ⟨by omega, by omega⟩ rfl 34 (by decide) q_fl_X8_88 rfl hin2 rfl (ty := tyX8 34) (tyX8_ok 34 (by decide)) rfl rfl (Nat.le_of_ble_eq_true rfl) dX8_init_211 (fun H locs h0 hz1 ho hS => ?_)
  have h0 : cAt E E.2.2 (.inr (8, [.ref (E.2.2 + 1), .int 0, .ref (E.2.2 + 2), .int 0, .ref (E.2.2 + 3), .int 0, .ref (E.2.2 + 4), .ref (E.2.2 + 5), .ref (E.2.2 + 6), .ref (E.2.2 + 7), .ref (E.2.2 + 8), .int 0, .ref (E.2.2 + 9), .ref (E.2.2 + 10), .ref (E.2.2 + 11), .ref (E.2.2 + 12), .int 0, .int 0, .int 0, .int 0, .long 0, .ref (E.2.2 + 13), .ref (E.2.2 + 14), .ref (E.2.2 + 15), .ref (E.2.2 + 16), .ref (E.2.2 + 17), .ref (E.2.2 + 18), .ref (E.2.2 + 19), .ref (E.2.2 + 20), .ref (E.2.2 + 21), .ref (E.2.2 + 22), .ref (E.2.2 + 23), .ref (E.2.2 + 24), .ref (E.2.2 + 25), .ref (E.2.2 + 26), .null, .null, .null])) H := h0
  have hF := fun q hm hle => (hF q hm hle).kept (ho _ (hne q hm))
  have hz : H.size = (E.2.2 + 27) := hz1.trans hz
  clear hz1 ho
  refine lv_aload_n hx hb dX8_init_214 rfl (lv_at hl 0 rfl) ?_
  refine lv_bipush (v := 12) hx hb dX8_init_215 (by decide) ?_
  refine cx_newa Cx hK hS (ty := .boolean) rfl 3 rfl rfl q_ac_boolean (N := 12) (f := .inl (fun _ => 0)) rfl (by decide) rfl (by decide) (Nat.le_of_ble_eq_true rfl) (Nat.le_of_ble_eq_true rfl) dX8_init_217 hz (fun H hnew hz1 ho hS => ?_)
  have hzo := hz
  have h0 := h0.kept (ho _ (Nat.lt_of_lt_of_eq h0.lt hzo))
  have hF := fun q hm hle => (hF q hm hle).kept (ho _ (Nat.lt_of_lt_of_eq (hF q hm hle).lt hzo))
  have hF : ∀ q, q ∈ mKs → mOffM q ≤ 27 → cAt E (mAdM E q 0) (mWM E mS0 q 0) H := fun q hm hle => by
    rcases Nat.lt_or_ge (mOffM q) 27 with h | h
    · exact hF q hm (by omega)
    · obtain rfl : q = 36 := mKs_inj q hm 36 (by decide +kernel) (show mOffM q = 27 by omega)
      exact hnew
  have hz : H.size = (E.2.2 + 28) := hz1
  clear hz1 ho hzo hnew
  refine cx_putF Cx hK hS q_X8 tyX8 tyX8_ok nmX8 h0 ⟨by omega, by omega⟩ rfl 35 (by decide) q_fl_X8_91 rfl hin2 rfl (ty := tyX8 35) (tyX8_ok 35 (by decide)) rfl rfl (Nat.le_of_ble_eq_true rfl) dX8_init_219 (fun H locs h0 hz1 ho hS => ?_)
  have h0 : cAt E E.2.2 (.inr (8, [.ref (E.2.2 + 1), .int 0, .ref (E.2.2 + 2), .int 0, .ref (E.2.2 + 3), .int 0, .ref (E.2.2 + 4), .ref (E.2.2 + 5), .ref (E.2.2 + 6), .ref (E.2.2 + 7), .ref (E.2.2 + 8), .int 0, .ref (E.2.2 + 9), .ref (E.2.2 + 10), .ref (E.2.2 + 11), .ref (E.2.2 + 12), .int 0, .int 0, .int 0, .int 0, .long 0, .ref (E.2.2 + 13), .ref (E.2.2 + 14), .ref (E.2.2 + 15), .ref (E.2.2 + 16), .ref (E.2.2 + 17), .ref (E.2.2 + 18), .ref (E.2.2 + 19), .ref (E.2.2 + 20), .ref (E.2.2 + 21), .ref (E.2.2 + 22), .ref (E.2.2 + 23), .ref (E.2.2 + 24), .ref (E.2.2 + 25), .ref (E.2.2 + 26), .ref (E.2.2 + 27), .null, .null])) H := h0
  have hF := fun q hm hle => (hF q hm hle).kept (ho _ (hne q hm))
  have hz : H.size = (E.2.2 + 28) := hz1.trans hz
  clear hz1 ho
  refine lv_aload_n hx hb dX8_init_222 rfl (lv_at hl 0 rfl) ?_
  refine lv_bipush (v := 12) hx hb dX8_init_223 (by decide) ?_
  refine cx_newa Cx hK hS (ty := .boolean) rfl 3 rfl rfl q_ac_boolean (N := 12) (f := .inl (fun _ => 0)) rfl (by decide) rfl (by decide) (Nat.le_of_ble_eq_true rfl) (Nat.le_of_ble_eq_true rfl) dX8_init_225 hz (fun H hnew hz1 ho hS => ?_)
  have hzo := hz
  have h0 := h0.kept (ho _ (Nat.lt_of_lt_of_eq h0.lt hzo))
  have hF := fun q hm hle => (hF q hm hle).kept (ho _ (Nat.lt_of_lt_of_eq (hF q hm hle).lt hzo))
  have hF : ∀ q, q ∈ mKs → mOffM q ≤ 28 → cAt E (mAdM E q 0) (mWM E mS0 q 0) H := fun q hm hle => by
    rcases Nat.lt_or_ge (mOffM q) 28 with h | h
    · exact hF q hm (by omega)
    · obtain rfl : q = 37 := mKs_inj q hm 37 (by decide +kernel) (show mOffM q = 28 by omega)
      exact hnew
  have hz : H.size = (E.2.2 + 29) := hz1
  clear hz1 ho hzo hnew
  refine cx_putF Cx hK hS q_X8 tyX8 tyX8_ok nmX8 h0 ⟨by omega, by omega⟩ rfl 36 (by decide) q_fl_X8_94 rfl hin2 rfl (ty := tyX8 36) (tyX8_ok 36 (by decide)) rfl rfl (Nat.le_of_ble_eq_true rfl) dX8_init_227 (fun H locs h0 hz1 ho hS => ?_)
  have h0 : cAt E E.2.2 (.inr (8, [.ref (E.2.2 + 1), .int 0, .ref (E.2.2 + 2), .int 0, .ref (E.2.2 + 3), .int 0, .ref (E.2.2 + 4), .ref (E.2.2 + 5), .ref (E.2.2 + 6), .ref (E.2.2 + 7), .ref (E.2.2 + 8), .int 0, .ref (E.2.2 + 9), .ref (E.2.2 + 10), .ref (E.2.2 + 11), .ref (E.2.2 + 12), .int 0, .int 0, .int 0, .int 0, .long 0, .ref (E.2.2 + 13), .ref (E.2.2 + 14), .ref (E.2.2 + 15), .ref (E.2.2 + 16), .ref (E.2.2 + 17), .ref (E.2.2 + 18), .ref (E.2.2 + 19), .ref (E.2.2 + 20), .ref (E.2.2 + 21), .ref (E.2.2 + 22), .ref (E.2.2 + 23), .ref (E.2.2 + 24), .ref (E.2.2 + 25), .ref (E.2.2 + 26), .ref (E.2.2 + 27), .ref (E.2.2 + 28), .null])) H := h0
  have hF := fun q hm hle => (hF q hm hle).kept (ho _ (hne q hm))
  have hz : H.size = (E.2.2 + 29) := hz1.trans hz
  clear hz1 ho
  refine lv_aload_n hx hb dX8_init_230 rfl (lv_at hl 0 rfl) ?_
  refine lv_bipush (v := 32) hx hb dX8_init_231 (by decide) ?_
  refine cx_newa Cx hK hS (ty := .byte) rfl 0 rfl rfl q_ac_byte (N := 32) (f := .inl (fun _ => 0)) rfl (by decide) rfl (by decide) (Nat.le_of_ble_eq_true rfl) (Nat.le_of_ble_eq_true rfl) dX8_init_233 hz (fun H hnew hz1 ho hS => ?_)
  have hzo := hz
  have h0 := h0.kept (ho _ (Nat.lt_of_lt_of_eq h0.lt hzo))
  have hF := fun q hm hle => (hF q hm hle).kept (ho _ (Nat.lt_of_lt_of_eq (hF q hm hle).lt hzo))
  have hF : ∀ q, q ∈ mKs → mOffM q ≤ 29 → cAt E (mAdM E q 0) (mWM E mS0 q 0) H := fun q hm hle => by
    rcases Nat.lt_or_ge (mOffM q) 29 with h | h
    · exact hF q hm (by omega)
    · obtain rfl : q = 38 := mKs_inj q hm 38 (by decide +kernel) (show mOffM q = 29 by omega)
      exact hnew
  have hz : H.size = (E.2.2 + 30) := hz1
  clear hz1 ho hzo hnew
  refine cx_putF Cx hK hS q_X8 tyX8 tyX8_ok nmX8 h0 ⟨by omega, by omega⟩ rfl 37 (by decide) q_fl_X8_97 rfl hin2 rfl (ty := tyX8 37) (tyX8_ok 37 (by decide)) rfl rfl (Nat.le_of_ble_eq_true rfl) dX8_init_235 (fun H locs h0 hz1 ho hS => ?_)
  have h0 : cAt E E.2.2 (.inr (8, [.ref (E.2.2 + 1), .int 0, .ref (E.2.2 + 2), .int 0, .ref (E.2.2 + 3), .int 0, .ref (E.2.2 + 4), .ref (E.2.2 + 5), .ref (E.2.2 + 6), .ref (E.2.2 + 7), .ref (E.2.2 + 8), .int 0, .ref (E.2.2 + 9), .ref (E.2.2 + 10), .ref (E.2.2 + 11), .ref (E.2.2 + 12), .int 0, .int 0, .int 0, .int 0, .long 0, .ref (E.2.2 + 13), .ref (E.2.2 + 14), .ref (E.2.2 + 15), .ref (E.2.2 + 16), .ref (E.2.2 + 17), .ref (E.2.2 + 18), .ref (E.2.2 + 19), .ref (E.2.2 + 20), .ref (E.2.2 + 21), .ref (E.2.2 + 22), .ref (E.2.2 + 23), .ref (E.2.2 + 24), .ref (E.2.2 + 25), .ref (E.2.2 + 26), .ref (E.2.2 + 27), .ref (E.2.2 + 28), .ref (E.2.2 + 29)])) H := h0
  have hF := fun q hm hle => (hF q hm hle).kept (ho _ (hne q hm))
  have hz : H.size = (E.2.2 + 30) := hz1.trans hz
  clear hz1 ho
  have h0 : cAt E (mAdM E 0 0) (mWM E mS0 0 0) H := h0
  have hH : mHold mLM E mS0 H := mHold_of (List.forall_mem_cons.mpr ⟨h0, List.forall_mem_cons.mpr ⟨hF 1 (by decide +kernel) (Nat.le_of_ble_eq_true rfl), List.forall_mem_cons.mpr ⟨hF 3 (by decide +kernel) (Nat.le_of_ble_eq_true rfl), List.forall_mem_cons.mpr ⟨hF 5 (by decide +kernel) (Nat.le_of_ble_eq_true rfl), List.forall_mem_cons.mpr ⟨hF 7 (by decide +kernel) (Nat.le_of_ble_eq_true rfl), List.forall_mem_cons.mpr ⟨hF 8 (by decide +kernel) (Nat.le_of_ble_eq_true rfl), List.forall_mem_cons.mpr ⟨hF 9 (by decide +kernel) (Nat.le_of_ble_eq_true rfl), List.forall_mem_cons.mpr ⟨hF 10 (by decide +kernel) (Nat.le_of_ble_eq_true rfl), List.forall_mem_cons.mpr ⟨hF 11 (by decide +kernel) (Nat.le_of_ble_eq_true rfl), List.forall_mem_cons.mpr ⟨hF 13 (by decide +kernel) (Nat.le_of_ble_eq_true rfl), List.forall_mem_cons.mpr ⟨hF 14 (by decide +kernel) (Nat.le_of_ble_eq_true rfl), List.forall_mem_cons.mpr ⟨hF 15 (by decide +kernel) (Nat.le_of_ble_eq_true rfl), List.forall_mem_cons.mpr ⟨hF 16 (by decide +kernel) (Nat.le_of_ble_eq_true rfl), List.forall_mem_cons.mpr ⟨hF 22 (by decide +kernel) (Nat.le_of_ble_eq_true rfl), List.forall_mem_cons.mpr ⟨hF 23 (by decide +kernel) (Nat.le_of_ble_eq_true rfl), List.forall_mem_cons.mpr ⟨hF 24 (by decide +kernel) (Nat.le_of_ble_eq_true rfl), List.forall_mem_cons.mpr ⟨hF 25 (by decide +kernel) (Nat.le_of_ble_eq_true rfl), List.forall_mem_cons.mpr ⟨hF 26 (by decide +kernel) (Nat.le_of_ble_eq_true rfl), List.forall_mem_cons.mpr ⟨hF 27 (by decide +kernel) (Nat.le_of_ble_eq_true rfl), List.forall_mem_cons.mpr ⟨hF 28 (by decide +kernel) (Nat.le_of_ble_eq_true rfl), List.forall_mem_cons.mpr ⟨hF 29 (by decide +kernel) (Nat.le_of_ble_eq_true rfl), List.forall_mem_cons.mpr ⟨hF 30 (by decide +kernel) (Nat.le_of_ble_eq_true rfl), List.forall_mem_cons.mpr ⟨hF 31 (by decide +kernel) (Nat.le_of_ble_eq_true rfl), List.forall_mem_cons.mpr ⟨hF 32 (by decide +kernel) (Nat.le_of_ble_eq_true rfl), List.forall_mem_cons.mpr ⟨hF 33 (by decide +kernel) (Nat.le_of_ble_eq_true rfl), List.forall_mem_cons.mpr ⟨hF 34 (by decide +kernel) (Nat.le_of_ble_eq_true rfl), List.forall_mem_cons.mpr ⟨hF 35 (by decide +kernel) (Nat.le_of_ble_eq_true rfl), List.forall_mem_cons.mpr ⟨hF 36 (by decide +kernel) (Nat.le_of_ble_eq_true rfl), List.forall_mem_cons.mpr ⟨hF 37 (by decide +kernel) (Nat.le_of_ble_eq_true rfl), List.forall_mem_cons.mpr ⟨hF 38 (by decide +kernel) (Nat.le_of_ble_eq_true rfl), fun _ h => absurd h List.not_mem_nil⟩⟩⟩⟩⟩⟩⟩⟩⟩⟩⟩⟩⟩⟩⟩⟩⟩⟩⟩⟩⟩⟩⟩⟩⟩⟩⟩⟩⟩⟩)
  have hG := hBB
  have hO := ownM E
  clear h0 hF
  have hl : lv_has ls 2 [(0, .ref (mAdM E 0 0)), (1, .int x)] := hl
  refine lv_aload_n hx hb dX8_init_238 rfl (lv_at hl 0 rfl) ?_
  refine lv_iconst (v := 0) hx hb dX8_init_239 (by decide) ?_
  refine p_X8_rowCount Cx hG hO hH hS q_fl_X8_100 dX8_init_240 (fun H locs hH hS => ?_)
  refine lv_aload_n hx hb dX8_init_243 rfl (lv_at hl 0 rfl) ?_
  refine lv_bipush (v := 83) hx hb dX8_init_244 (by decide) ?_
  refine mv_callV (Y := mLM) (C := RX8) (k := 0) (i := 0) (rest := []) Cx hG hH hS (c_X8_add l E (aM E) hO (mM mS0 0 0 5 0) [] nHas.nil 83 (by simp)) q_co_X8_add q_ml_X8_104 q_im_X8_add q_se_X8_add q_in_X8 okM_0 rfl rfl hd_X8_add ⟨Nat.le_of_ble_eq_true rfl, Nat.le_of_ble_eq_true rfl⟩ rfl hl.1 rfl (Nat.le_of_ble_eq_true rfl) ⟨Nat.le_of_ble_eq_true rfl, Nat.le_of_ble_eq_true rfl⟩ dX8_init_246 (fun S246 H locs hP246 hH hS => ?_)
  refine W.eq (g2 := F0 m 249 ls []) rfl ?_
  refine lv_aload_n hx hb dX8_init_249 rfl (lv_at hl 0 rfl) ?_
  refine lv_bipush (v := 69) hx hb dX8_init_250 (by decide) ?_
  refine mv_callV (Y := mLM) (C := RX8) (k := 0) (i := 0) (rest := []) Cx hG hH hS (c_X8_add l E (aM E) hO S246 _ hP246.1 69 (by simp)) q_co_X8_add q_ml_X8_104 q_im_X8_add q_se_X8_add q_in_X8 okM_0 rfl rfl hd_X8_add ⟨Nat.le_of_ble_eq_true rfl, Nat.le_of_ble_eq_true rfl⟩ rfl hl.1 rfl (Nat.le_of_ble_eq_true rfl) ⟨Nat.le_of_ble_eq_true rfl, Nat.le_of_ble_eq_true rfl⟩ dX8_init_252 (fun S252 H locs hP252 hH hS => ?_)
  refine W.eq (g2 := F0 m 255 ls []) rfl ?_
  refine lv_aload_n hx hb dX8_init_255 rfl (lv_at hl 0 rfl) ?_
  refine lv_bipush (v := 69) hx hb dX8_init_256 (by decide) ?_
  refine mv_callV (Y := mLM) (C := RX8) (k := 0) (i := 0) (rest := []) Cx hG hH hS (c_X8_add l E (aM E) hO S252 _ hP252.1 69 (by simp)) q_co_X8_add q_ml_X8_104 q_im_X8_add q_se_X8_add q_in_X8 okM_0 rfl rfl hd_X8_add ⟨Nat.le_of_ble_eq_true rfl, Nat.le_of_ble_eq_true rfl⟩ rfl hl.1 rfl (Nat.le_of_ble_eq_true rfl) ⟨Nat.le_of_ble_eq_true rfl, Nat.le_of_ble_eq_true rfl⟩ dX8_init_258 (fun S258 H locs hP258 hH hS => ?_)
  refine W.eq (g2 := F0 m 261 ls []) rfl ?_
  refine lv_aload_n hx hb dX8_init_261 rfl (lv_at hl 0 rfl) ?_
  refine lv_bipush (v := 68) hx hb dX8_init_262 (by decide) ?_
  refine mv_callV (Y := mLM) (C := RX8) (k := 0) (i := 0) (rest := []) Cx hG hH hS (c_X8_add l E (aM E) hO S258 _ hP258.1 68 (by simp)) q_co_X8_add q_ml_X8_104 q_im_X8_add q_se_X8_add q_in_X8 okM_0 rfl rfl hd_X8_add ⟨Nat.le_of_ble_eq_true rfl, Nat.le_of_ble_eq_true rfl⟩ rfl hl.1 rfl (Nat.le_of_ble_eq_true rfl) ⟨Nat.le_of_ble_eq_true rfl, Nat.le_of_ble_eq_true rfl⟩ dX8_init_264 (fun S264 H locs hP264 hH hS => ?_)
  refine W.eq (g2 := F0 m 267 ls []) rfl ?_
  refine lv_aload_n hx hb dX8_init_267 rfl (lv_at hl 0 rfl) ?_
  refine lv_iload_n hx hb dX8_init_268 rfl (lv_at hl 1 rfl) ?_
  refine mv_callV (Y := mLM) (C := RX8) (k := 0) (i := 0) (rest := []) Cx hG hH hS (c_X8_word l E (aM E) hO S264 _ hP264.1 x (by simp)) q_co_X8_word q_ml_X8_108 q_im_X8_word q_se_X8_word q_in_X8 okM_0 rfl rfl hd_X8_word ⟨Nat.le_of_ble_eq_true rfl, Nat.le_of_ble_eq_true rfl⟩ rfl hl.1 rfl (Nat.le_of_ble_eq_true rfl) ⟨Nat.le_of_ble_eq_true rfl, Nat.le_of_ble_eq_true rfl⟩ dX8_init_269 (fun S269 H locs hP269 hH hS => ?_)
  refine W.eq (g2 := F0 m 272 ls []) rfl ?_
  refine lv_aload_n hx hb dX8_init_272 rfl (lv_at hl 0 rfl) ?_
  refine lv_aload_n hx hb dX8_init_273 rfl (lv_at hl 0 rfl) ?_
  refine g_X8_seed Cx hG hH q_fl_X8_35 dX8_init_274 ?_
  refine lv_iconst (v := 0) hx hb dX8_init_277 (by decide) ?_
  refine mv_eqi (x' := nI 0) (rfl) ?_
  refine mv_callV (Y := mLM) (C := RX8) (k := 0) (i := 0) (rest := []) Cx hG hH hS (c_X8_hashTo l E (aM E) hO S269 13 32 isM_13 (by decide) 0 (by decide) _ hP269.1 (by simp [w4_len])) q_co_X8_hashTo q_ml_X8_111 q_im_X8_hashTo q_se_X8_hashTo q_in_X8 okM_0 rfl rfl hd_X8_hashTo ⟨Nat.le_of_ble_eq_true rfl, Nat.le_of_ble_eq_true rfl⟩ rfl hl.1 rfl (Nat.le_of_ble_eq_true rfl) ⟨Nat.le_of_ble_eq_true rfl, Nat.le_of_ble_eq_true rfl⟩ dX8_init_278 (fun S278 H locs hP278 hH hS => ?_)
  refine W.eq (g2 := F0 m 281 ls []) rfl ?_
  refine lv_aload_n hx hb dX8_init_281 rfl (lv_at hl 0 rfl) ?_
  refine lv_iconst (v := 0) hx hb dX8_init_282 (by decide) ?_
  refine p_X8_rowCount Cx hG hO hH hS q_fl_X8_100 dX8_init_283 (fun H locs hH hS => ?_)
  refine lv_aload_n hx hb dX8_init_286 rfl (lv_at hl 0 rfl) ?_
  refine lv_aload_n hx hb dX8_init_287 rfl (lv_at hl 0 rfl) ?_
  refine g_X8_keyNow Cx hG hH q_fl_X8_38 dX8_init_288 ?_
  refine lv_iconst (v := 0) hx hb dX8_init_291 (by decide) ?_
  refine mv_eqi (x' := nI 0) (rfl) ?_
  refine mv_callV (Y := mLM) (C := RX8) (k := 0) (i := 0) (rest := []) Cx hG hH hS (c_X8_hashTo l E (aM E) hO (mM S278 0 0 5 0) 14 32 isM_14 (by decide) 0 (by decide) [] nHas.nil (by decide)) q_co_X8_hashTo q_ml_X8_111 q_im_X8_hashTo q_se_X8_hashTo q_in_X8 okM_0 rfl rfl hd_X8_hashTo ⟨Nat.le_of_ble_eq_true rfl, Nat.le_of_ble_eq_true rfl⟩ rfl hl.1 rfl (Nat.le_of_ble_eq_true rfl) ⟨Nat.le_of_ble_eq_true rfl, Nat.le_of_ble_eq_true rfl⟩ dX8_init_292 (fun S292 H locs hP292 hH hS => ?_)
  refine W.eq (g2 := F0 m 295 ls []) rfl ?_
  have hr5 : nHas 5 1024 S292 [] := nHas.nil.keep hP292.2 (by simp only [hX]; omega) (fun j => by simp only [hX]; omega)
  refine lv_aload_n hx hb dX8_init_295 rfl (lv_at hl 0 rfl) ?_
  refine lv_aload_n hx hb dX8_init_296 rfl (lv_at hl 0 rfl) ?_
  refine g_X8_owner Cx hG hH q_fl_X8_41 dX8_init_297 ?_
  refine lv_iconst (v := 0) hx hb dX8_init_300 (by decide) ?_
  refine mv_eqi (x' := nI 0) (rfl) ?_
  refine mv_callV (Y := mLM) (C := RX8) (k := 0) (i := 0) (rest := []) Cx hG hH hS (c_X8_hashTo l E (aM E) hO S292 15 32 isM_15 (by decide) 0 (by decide) [] hr5 (by decide)) q_co_X8_hashTo q_ml_X8_111 q_im_X8_hashTo q_se_X8_hashTo q_in_X8 okM_0 rfl rfl hd_X8_hashTo ⟨Nat.le_of_ble_eq_true rfl, Nat.le_of_ble_eq_true rfl⟩ rfl hl.1 rfl (Nat.le_of_ble_eq_true rfl) ⟨Nat.le_of_ble_eq_true rfl, Nat.le_of_ble_eq_true rfl⟩ dX8_init_301 (fun S301 H locs hP301 hH hS => ?_)
  refine W.eq (g2 := F0 m 304 ls []) rfl ?_
  refine cx_sz (fun hle => ?_)
  have h29 : E.2.2 + 29 < H.size := (mHold_at hH (show (38, 0) ∈ mPM by decide +kernel)).lt
  have hle : H.size ≤ s.heap.size + 29 := hle
  rw [hz00] at hle
  have hzf : H.size = E.2.2 + 1 + 29 := Nat.le_antisymm hle (show E.2.2 + 1 + 29 ≤ H.size by rw [Nat.add_assoc]; exact h29)
  have f13 : ∀ j, j < 32 → S301.2.1 13 0 j = shaL (sdL x) j := fun j hj => by
    have h := hP278.1 j hj
    rw [Nat.zero_add] at h
    have h1 := (hP292.2 13 j (by simp only [scM, nX, hX]; omega)).2.1
    have h2 := (hP301.2 13 j (by simp only [scM, nX, hX]; omega)).2.1
    rw [h2, h1]
    exact h
  have f14 : ∀ j, j < 32 → S301.2.1 14 0 j = shaL [] j := fun j hj => by
    have h := hP292.1 j hj
    rw [Nat.zero_add] at h
    rw [(hP301.2 14 j (by simp only [scM, nX, hX]; omega)).2.1]
    exact h
  have f15 : ∀ j, j < 32 → S301.2.1 15 0 j = shaL [] j := fun j hj => by
    have h := hP301.1 j hj
    rw [Nat.zero_add] at h
    exact h
  have fS : nSame (fun k j => scM k j ∨ k = 13 ∨ k = 14 ∨ k = 15) mS0 S301 := (((((((((nSame.M (X := (fun k j => scM k j ∨ k = 13 ∨ k = 14 ∨ k = 15)) (by simp [scM, nX, hX])).tr (hP246.2.wk (fun k j h => by simp only [scM, nX, hX] at h ⊢; omega))).tr (hP252.2.wk (fun k j h => by simp only [scM, nX, hX] at h ⊢; omega))).tr (hP258.2.wk (fun k j h => by simp only [scM, nX, hX] at h ⊢; omega))).tr (hP264.2.wk (fun k j h => by simp only [scM, nX, hX] at h ⊢; omega))).tr (hP269.2.wk (fun k j h => by simp only [scM, nX, hX] at h ⊢; omega))).tr (hP278.2.wk (fun k j h => by simp only [scM, nX, hX] at h ⊢; omega))).tr (nSame.M (X := (fun k j => scM k j ∨ k = 13 ∨ k = 14 ∨ k = 15)) (by simp [scM, nX, hX]))).tr (hP292.2.wk (fun k j h => by simp only [scM, nX, hX] at h ⊢; omega))).tr (hP301.2.wk (fun k j h => by simp only [scM, nX, hX] at h ⊢; omega))
  refine W.widen (k := 29) (n := 6000) (Nat.le_of_ble_eq_true rfl) (Nat.le_of_ble_eq_true rfl) ?_
  exact cx_ret Cx hr hS hzf ⟨S301, hH, f13, f14, f15, fS⟩ dX8_init_304 hlocks
