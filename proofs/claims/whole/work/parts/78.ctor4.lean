/-! ===== the vault's constructor ===== -/
def aU (E : mEv) : Nat → Prop := fun q => E.2.2 ≤ q
theorem ownU (E : mEv) : mOwn mLC E (aU E) := own_of (fun q => mOff q.1 q.2) mGoodC (fun _ => rfl) (by decide +kernel) (fun q _ => by unfold aU; omega)
def mNx (U : State) : Prop := va_Nw (.methodLinkNest RX7 9 yX1_init RX7) U ∧ va_Nw (.methodLinkNest RX7 52 yX2_init RX7) U ∧ va_Nw (.methodLinkNest RX7 63 yX4_init RX7) U ∧ va_Nw (.methodLinkNest RX7 77 yX6_init RX7) U ∧ va_AO RX4 U ∧ va_AO RX5 U ∧ va_AO RX6 U
set_option maxHeartbeats 4000000 in
set_option maxRecDepth 100000 in
theorem k_X7 (l : Launch) (E : mEv) (x : Int32) : Met l yX7_init (Cond.code yX7_init cX7_init 3 none :: mv_ws) ({ frames := 4, cells := 100, slots := 3855, locals := 92 } : Room) (cPr E (fun U => mG E (aU E) U ∧ mNx U) (E.2.2 + 1) (fun H => cAt E E.2.2 (.inr (7, [.null, .null, .null, .null, .null, .null, .null, .null, .null, .null, .null, .null, .long 0, .int 0, .int 0, .int 0])) H) [.ref E.2.2, .int x]) (cPo (aU E) (E.2.2 + 1) 100 (fun H => ∃ S', mHold mLC E S' H ∧ (∀ j, j < 32 → S'.2.1 8 0 j = shaL (sdL x) j) ∧ (∀ j, j < 32 → S'.2.1 11 0 j = shaL [] j) ∧ (∀ j, j < 32 → S'.2.1 12 0 j = shaL [] j) ∧ mSame (fun k i => scX k i ∨ k = 8 ∨ k = 11 ∨ k = 12) mS0 S')) 100 3855 (aU E) := by
  refine Met.ofW (cc := cX7_init) (maxL := 3) (ret := none) (by decide) rfl ?_
  intro p e s m args below meth c s₁ B hml hv
  obtain ⟨rfl, ⟨hK, hBB⟩, hz, h0⟩ := hv
  have hx := B.exec
  have hb := B.bytes
  have hr := B.returns
  have hlocks := B.notSynchronized
  have hin2 : meth.name = "<init>" := (name_of_methodNamed B.named B.method).1
  have Cx : CallFix p m c cX7_init 3 s ([.ref E.2.2, .int x] : List Value).toArray (Cond.code yX7_init cX7_init 3 none :: mv_ws) RX7 := ⟨hx, hb, hml, findClass_of_methodNamed B.named, atoms_spec (ws := Cond.code yX7_init cX7_init 3 none :: mv_ws) B.pre⟩
  have hS : va_S (aU E) s.heap s.heap [] := va_S.rf
  obtain ⟨hG, hNx⟩ := hBB
  have hne : ∀ q, q ∈ mHL → mAdC E q.1 q.2 ≠ E.2.2 := fun q hm => by
    have h := (show ∀ q ∈ mHL, 1 ≤ mOff q.1 q.2 by decide +kernel) q hm
    unfold mAdC
    omega
  have hl := lv_entry ([.ref E.2.2, .int x]) (n := 3) (Nat.le_of_ble_eq_true rfl)
  rw [lg_entry_eq]
  generalize (lg_sl ([.ref E.2.2, .int x]) ++ List.replicate (3 - (lg_sl ([.ref E.2.2, .int x])).length) Slot.unset).toArray = ls at hl ⊢
  have hl : lv_has ls 3 [(0, .ref E.2.2), (1, .int x)] := hl
  have hz : s.heap.size = E.2.2 + 1 := hz
  have hz00 := hz
  refine lv_aload_n hx hb dX7_init_0 rfl (lv_at hl 0 rfl) ?_
  refine cx_obj Cx q_ml_X7_1 hl.1 ⟨(Nat.le_of_ble_eq_true rfl), (Nat.le_of_ble_eq_true rfl)⟩ dX7_init_1 ?_
  refine lv_aload_n hx hb dX7_init_4 rfl (lv_at hl 0 rfl) ?_
  refine cx_new Cx hK hS q_X1 tyX1 tyX1_ok q_cl_X7_7 q_is_X1 q_in_X1 (ci := 1) rfl (fs := [.null, .null, .null, .null]) (fun j hj => by rcases (show j = 0 ∨ j = 1 ∨ j = 2 ∨ j = 3 by omega) with rfl | rfl | rfl | rfl <;> rfl) (Nat.le_of_ble_eq_true rfl) (Nat.le_of_ble_eq_true rfl) dX7_init_5 hz (fun H hnew hz1 ho hS => ?_)
  replace h0 := h0.kept (ho _ (Nat.lt_of_lt_of_eq h0.lt hz))
  replace hz : H.size = (E.2.2 + 2) := hz1
  clear hz1 ho
  have cn := hnew
  clear hnew
  refine lv_dup hx hb dX7_init_8 rfl ?_
  refine cx_callN Cx hK hS (B := fun _ => True) (rest := [.ref (E.2.2 + 1), .ref E.2.2]) (fun _ _ _ _ h => h) (fun _ _ _ => trivial) (k_X1 l E (E.2.2 + 1) (E.2.2 + 2) (by omega)) ⟨rfl, rfl⟩ q_co_X1_init hNx.1 q_im_X1_init q_in_X1 rfl hd_X1_init ⟨(Nat.le_of_ble_eq_true rfl), (Nat.le_of_ble_eq_true rfl)⟩ rfl hl.1 rfl (Nat.le_of_ble_eq_true rfl) ⟨(Nat.le_of_ble_eq_true rfl), (Nat.le_of_ble_eq_true rfl)⟩ hz cn (fun q hq => by unfold cA at hq; unfold aU; omega) dX7_init_9 (fun H locs hres hz1 ho hS => ?_)
  refine W.eq (g2 := F0 m 12 ls [.ref (E.2.2 + 1), .ref E.2.2]) rfl ?_
  replace h0 := h0.kept (ho _ (by omega) (by unfold cA; omega))
  clear cn
  obtain ⟨r0, r1, r2, r3, r4, r5⟩ := hres
  replace hz : H.size = (E.2.2 + 7) := hz1
  clear hz1 ho
  have hq : ∀ q, q ∈ mHL → cAt E (mAdC E q.1 q.2) (mWC E mS0 q.1 q.2) H := List.forall_mem_cons.mpr ⟨r0, List.forall_mem_cons.mpr ⟨r1, List.forall_mem_cons.mpr ⟨r2, List.forall_mem_cons.mpr ⟨r3, List.forall_mem_cons.mpr ⟨r4, List.forall_mem_cons.mpr ⟨r5, fun _ h => absurd h List.not_mem_nil⟩⟩⟩⟩⟩⟩
  clear r0 r1 r2 r3 r4 r5
  refine cx_putF Cx hK hS q_X7 tyX7 tyX7_ok nmX7 h0 (Nat.le_refl _) rfl 0 (by decide) q_fl_X7_10 rfl hin2 rfl (ty := tyX7 0) (tyX7_ok 0 (by decide)) rfl rfl (Nat.le_of_ble_eq_true rfl) dX7_init_12 (fun H locs hnew hz1 ho hS => ?_)
  replace h0 : cAt E E.2.2 (.inr (7, [.ref (E.2.2 + 1), .null, .null, .null, .null, .null, .null, .null, .null, .null, .null, .null, .long 0, .int 0, .int 0, .int 0])) H := hnew
  clear hnew
  replace hq := fun q hm => (hq q hm).kept (ho _ (hne q hm))
  replace hz := hz1.trans hz
  clear hz1 ho
  refine lv_aload_n hx hb dX7_init_15 rfl (lv_at hl 0 rfl) ?_
  refine cx_new Cx hK hS q_X3 tyX3 tyX3_ok q_cl_X7_16 q_is_X3 q_in_X3 (ci := 3) rfl (fs := [.null, .null, .null, .null, .int 0]) (fun j hj => by rcases (show j = 0 ∨ j = 1 ∨ j = 2 ∨ j = 3 ∨ j = 4 by omega) with rfl | rfl | rfl | rfl | rfl <;> rfl) (Nat.le_of_ble_eq_true rfl) (Nat.le_of_ble_eq_true rfl) dX7_init_16 hz (fun H hnew hz1 ho hS => ?_)
  replace h0 := h0.kept (ho _ (Nat.lt_of_lt_of_eq h0.lt hz))
  replace hq := fun q hm => (hq q hm).kept (ho _ (Nat.lt_of_lt_of_eq (hq q hm).lt hz))
  replace hz : H.size = (E.2.2 + 8) := hz1
  clear hz1 ho
  have cn := hnew
  clear hnew
  refine lv_dup hx hb dX7_init_19 rfl ?_
  refine lv_aload_n hx hb dX7_init_20 rfl (lv_at hl 0 rfl) ?_
  refine cx_get Cx hK q_X7 h0 rfl 0 (by decide) q_fl_X7_10 (v := .ref (E.2.2 + 1)) rfl dX7_init_21 ?_
  refine lv_iload_n hx hb dX7_init_24 rfl (lv_at hl 1 rfl) ?_
  refine cx_call Cx hK hS (B := fun U => mG E (aP E) U) (rest := [.ref (E.2.2 + 7), .ref E.2.2]) (fun U g mk a h => h.blind g mk a) (fun U hU hWm => (hG.go hS hU hWm).narrow (fun q h => by have := h.1; unfold aU; omega)) (k_X3 l E x) ⟨rfl, rfl⟩ q_co_X3_init q_ml_X7_18 q_im_X3_init q_in_X3 rfl hd_X3_init ⟨(Nat.le_of_ble_eq_true rfl), (Nat.le_of_ble_eq_true rfl)⟩ rfl hl.1 rfl (Nat.le_of_ble_eq_true rfl) ⟨(Nat.le_of_ble_eq_true rfl), (Nat.le_of_ble_eq_true rfl)⟩ hz ⟨cn, hq⟩ (fun q h => by have := h.1; unfold aU; omega) dX7_init_25 (fun H locs hres hz1 ho hS => ?_)
  refine W.eq (g2 := F0 m 28 ls [.ref (E.2.2 + 7), .ref E.2.2]) rfl ?_
  replace h0 := h0.kept (ho _ (by omega) (fun h => by have := h.1; omega))
  obtain ⟨S1, hH1, hsd, hsm⟩ := hres
  have hF : cF E S1 10 0 H := fun q a b c _ => mHold_at hH1 (mPC_10 q a b c)
  have hW : ∀ k i, ¬ (hsX k i ∨ (k = 8 ∧ i = 0)) → mWC E S1 k i = mWC E mS0 k i := fun k i h => mGoodC.2 E mS0 S1 k i (hsm k i h).1 (hsm k i h).2.1 (hsm k i h).2.2
  clear hq cn hH1
  replace hz : H.size = (E.2.2 + 11) := hz1
  clear hz1 ho
  refine cx_putF Cx hK hS q_X7 tyX7 tyX7_ok nmX7 h0 (Nat.le_refl _) rfl 1 (by decide) q_fl_X7_21 rfl hin2 rfl (ty := tyX7 1) (tyX7_ok 1 (by decide)) rfl rfl (Nat.le_of_ble_eq_true rfl) dX7_init_28 (fun H locs hnew hz1 ho hS => ?_)
  replace h0 : cAt E E.2.2 (.inr (7, [.ref (E.2.2 + 1), .ref (E.2.2 + 7), .null, .null, .null, .null, .null, .null, .null, .null, .null, .null, .long 0, .int 0, .int 0, .int 0])) H := hnew
  clear hnew
  replace hF := hF.put (a := 0) (Or.inl rfl) ho
  replace hz := hz1.trans hz
  clear hz1 ho
  refine lv_aload_n hx hb dX7_init_31 rfl (lv_at hl 0 rfl) ?_
  refine cx_new Cx hK hS q_X0 tyX0 tyX0_ok q_cl_X7_25 q_is_X0 q_in_X0 (ci := 0) rfl (fs := [.null, .int 0]) (fun j hj => by rcases (show j = 0 ∨ j = 1 by omega) with rfl | rfl <;> rfl) (Nat.le_of_ble_eq_true rfl) (Nat.le_of_ble_eq_true rfl) dX7_init_32 hz (fun H hnew hz1 ho hS => ?_)
  replace h0 := h0.kept (ho _ (Nat.lt_of_lt_of_eq h0.lt hz))
  replace hF := hF.new hz ho
  replace hz : H.size = (E.2.2 + 12) := hz1
  clear hz1 ho
  have cn := hnew
  clear hnew
  refine lv_dup hx hb dX7_init_35 rfl ?_
  refine lv_sipush (v := 400) hx hb dX7_init_36 (by decide) ?_
  refine cx_call Cx hK hS (B := fun _ => True) (rest := [.ref (E.2.2 + 11), .ref E.2.2]) (fun _ _ _ _ h => h) (fun _ _ _ => trivial) (k_X0 l E (E.2.2 + 11) (E.2.2 + 12) 400 (by omega) (by decide)) ⟨rfl, rfl⟩ q_co_X0_init q_ml_X7_27 q_im_X0_init q_in_X0 rfl hd_X0_init ⟨(Nat.le_of_ble_eq_true rfl), (Nat.le_of_ble_eq_true rfl)⟩ rfl hl.1 rfl (Nat.le_of_ble_eq_true rfl) ⟨(Nat.le_of_ble_eq_true rfl), (Nat.le_of_ble_eq_true rfl)⟩ hz cn (fun q hq => by unfold cA at hq; unfold aU; omega) dX7_init_39 (fun H locs hres hz1 ho hS => ?_)
  refine W.eq (g2 := F0 m 42 ls [.ref (E.2.2 + 11), .ref E.2.2]) rfl ?_
  replace h0 := h0.kept (ho _ (by omega) (by unfold cA; omega))
  replace hF := hF.call (a := 11) (by decide) (by omega) ho
  clear cn
  obtain ⟨r0, r1⟩ := hres
  replace hz : H.size = (E.2.2 + 13) := hz1
  clear hz1 ho
  replace hF := hF.add (k := 2) (i := 0) (by decide +kernel) rfl (by rw [hW 2 0 (by simp [hsX, bX])]; exact r0)
  replace hF := hF.add (k := 3) (i := 0) (by decide +kernel) rfl (by rw [hW 3 0 (by simp [hsX, bX])]; exact r1)
  clear r0 r1
  refine cx_putF Cx hK hS q_X7 tyX7 tyX7_ok nmX7 h0 (Nat.le_refl _) rfl 2 (by decide) q_fl_X7_30 rfl hin2 rfl (ty := tyX7 2) (tyX7_ok 2 (by decide)) rfl rfl (Nat.le_of_ble_eq_true rfl) dX7_init_42 (fun H locs hnew hz1 ho hS => ?_)
  replace h0 : cAt E E.2.2 (.inr (7, [.ref (E.2.2 + 1), .ref (E.2.2 + 7), .ref (E.2.2 + 11), .null, .null, .null, .null, .null, .null, .null, .null, .null, .long 0, .int 0, .int 0, .int 0])) H := hnew
  clear hnew
  replace hF := hF.put (a := 0) (Or.inl rfl) ho
  replace hz := hz1.trans hz
  clear hz1 ho
  refine lv_aload_n hx hb dX7_init_45 rfl (lv_at hl 0 rfl) ?_
  refine cx_new Cx hK hS q_X0 tyX0 tyX0_ok q_cl_X7_25 q_is_X0 q_in_X0 (ci := 0) rfl (fs := [.null, .int 0]) (fun j hj => by rcases (show j = 0 ∨ j = 1 by omega) with rfl | rfl <;> rfl) (Nat.le_of_ble_eq_true rfl) (Nat.le_of_ble_eq_true rfl) dX7_init_46 hz (fun H hnew hz1 ho hS => ?_)
  replace h0 := h0.kept (ho _ (Nat.lt_of_lt_of_eq h0.lt hz))
  replace hF := hF.new hz ho
  replace hz : H.size = (E.2.2 + 14) := hz1
  clear hz1 ho
  have cn := hnew
  clear hnew
  refine lv_dup hx hb dX7_init_49 rfl ?_
  refine lv_sipush (v := 229) hx hb dX7_init_50 (by decide) ?_
  refine cx_call Cx hK hS (B := fun _ => True) (rest := [.ref (E.2.2 + 13), .ref E.2.2]) (fun _ _ _ _ h => h) (fun _ _ _ => trivial) (k_X0 l E (E.2.2 + 13) (E.2.2 + 14) 229 (by omega) (by decide)) ⟨rfl, rfl⟩ q_co_X0_init q_ml_X7_27 q_im_X0_init q_in_X0 rfl hd_X0_init ⟨(Nat.le_of_ble_eq_true rfl), (Nat.le_of_ble_eq_true rfl)⟩ rfl hl.1 rfl (Nat.le_of_ble_eq_true rfl) ⟨(Nat.le_of_ble_eq_true rfl), (Nat.le_of_ble_eq_true rfl)⟩ hz cn (fun q hq => by unfold cA at hq; unfold aU; omega) dX7_init_53 (fun H locs hres hz1 ho hS => ?_)
  refine W.eq (g2 := F0 m 56 ls [.ref (E.2.2 + 13), .ref E.2.2]) rfl ?_
  replace h0 := h0.kept (ho _ (by omega) (by unfold cA; omega))
  replace hF := hF.call (a := 13) (by decide) (by omega) ho
  clear cn
  obtain ⟨r0, r1⟩ := hres
  replace hz : H.size = (E.2.2 + 15) := hz1
  clear hz1 ho
  replace hF := hF.add (k := 2) (i := 1) (by decide +kernel) rfl (by rw [hW 2 1 (by simp [hsX, bX])]; exact r0)
  replace hF := hF.add (k := 3) (i := 1) (by decide +kernel) rfl (by rw [hW 3 1 (by simp [hsX, bX])]; exact r1)
  clear r0 r1
  refine cx_putF Cx hK hS q_X7 tyX7 tyX7_ok nmX7 h0 (Nat.le_refl _) rfl 3 (by decide) q_fl_X7_34 rfl hin2 rfl (ty := tyX7 3) (tyX7_ok 3 (by decide)) rfl rfl (Nat.le_of_ble_eq_true rfl) dX7_init_56 (fun H locs hnew hz1 ho hS => ?_)
  replace h0 : cAt E E.2.2 (.inr (7, [.ref (E.2.2 + 1), .ref (E.2.2 + 7), .ref (E.2.2 + 11), .ref (E.2.2 + 13), .null, .null, .null, .null, .null, .null, .null, .null, .long 0, .int 0, .int 0, .int 0])) H := hnew
  clear hnew
  replace hF := hF.put (a := 0) (Or.inl rfl) ho
  replace hz := hz1.trans hz
  clear hz1 ho
  refine lv_aload_n hx hb dX7_init_59 rfl (lv_at hl 0 rfl) ?_
  refine lv_bipush (v := 32) hx hb dX7_init_60 (by decide) ?_
  refine cx_newa Cx hK hS (ty := .byte) rfl 0 rfl rfl q_ac_byte (N := 32) (f := .inl (fun _ => 0)) rfl (by decide) rfl (by decide) (Nat.le_of_ble_eq_true rfl) (Nat.le_of_ble_eq_true rfl) dX7_init_62 hz (fun H hnew hz1 ho hS => ?_)
  replace h0 := h0.kept (ho _ (Nat.lt_of_lt_of_eq h0.lt hz))
  replace hF := hF.new hz ho
  replace hz : H.size = (E.2.2 + 16) := hz1
  clear hz1 ho
  replace hF := hF.add (k := 11) (i := 0) (by decide +kernel) rfl (by rw [hW 11 0 (by simp [hsX, bX])]; exact hnew)
  clear hnew
  refine cx_putF Cx hK hS q_X7 tyX7 tyX7_ok nmX7 h0 (Nat.le_refl _) rfl 4 (by decide) q_fl_X7_37 rfl hin2 rfl (ty := tyX7 4) (tyX7_ok 4 (by decide)) rfl rfl (Nat.le_of_ble_eq_true rfl) dX7_init_64 (fun H locs hnew hz1 ho hS => ?_)
  replace h0 : cAt E E.2.2 (.inr (7, [.ref (E.2.2 + 1), .ref (E.2.2 + 7), .ref (E.2.2 + 11), .ref (E.2.2 + 13), .ref (E.2.2 + 15), .null, .null, .null, .null, .null, .null, .null, .long 0, .int 0, .int 0, .int 0])) H := hnew
  clear hnew
  replace hF := hF.put (a := 0) (Or.inl rfl) ho
  replace hz := hz1.trans hz
  clear hz1 ho
  refine lv_aload_n hx hb dX7_init_67 rfl (lv_at hl 0 rfl) ?_
  refine lv_bipush (v := 32) hx hb dX7_init_68 (by decide) ?_
  refine cx_newa Cx hK hS (ty := .byte) rfl 0 rfl rfl q_ac_byte (N := 32) (f := .inl (fun _ => 0)) rfl (by decide) rfl (by decide) (Nat.le_of_ble_eq_true rfl) (Nat.le_of_ble_eq_true rfl) dX7_init_70 hz (fun H hnew hz1 ho hS => ?_)
  replace h0 := h0.kept (ho _ (Nat.lt_of_lt_of_eq h0.lt hz))
  replace hF := hF.new hz ho
  replace hz : H.size = (E.2.2 + 17) := hz1
  clear hz1 ho
  replace hF := hF.add (k := 12) (i := 0) (by decide +kernel) rfl (by rw [hW 12 0 (by simp [hsX, bX])]; exact hnew)
  clear hnew
  refine cx_putF Cx hK hS q_X7 tyX7 tyX7_ok nmX7 h0 (Nat.le_refl _) rfl 5 (by decide) q_fl_X7_41 rfl hin2 rfl (ty := tyX7 5) (tyX7_ok 5 (by decide)) rfl rfl (Nat.le_of_ble_eq_true rfl) dX7_init_72 (fun H locs hnew hz1 ho hS => ?_)
  replace h0 : cAt E E.2.2 (.inr (7, [.ref (E.2.2 + 1), .ref (E.2.2 + 7), .ref (E.2.2 + 11), .ref (E.2.2 + 13), .ref (E.2.2 + 15), .ref (E.2.2 + 16), .null, .null, .null, .null, .null, .null, .long 0, .int 0, .int 0, .int 0])) H := hnew
  clear hnew
  replace hF := hF.put (a := 0) (Or.inl rfl) ho
  replace hz := hz1.trans hz
  clear hz1 ho
  refine lv_aload_n hx hb dX7_init_75 rfl (lv_at hl 0 rfl) ?_
  refine lv_bipush (v := 32) hx hb dX7_init_76 (by decide) ?_
  refine cx_newa Cx hK hS (ty := .byte) rfl 0 rfl rfl q_ac_byte (N := 32) (f := .inl (fun _ => 0)) rfl (by decide) rfl (by decide) (Nat.le_of_ble_eq_true rfl) (Nat.le_of_ble_eq_true rfl) dX7_init_78 hz (fun H hnew hz1 ho hS => ?_)
  replace h0 := h0.kept (ho _ (Nat.lt_of_lt_of_eq h0.lt hz))
  replace hF := hF.new hz ho
  replace hz : H.size = (E.2.2 + 18) := hz1
  clear hz1 ho
  replace hF := hF.add (k := 13) (i := 0) (by decide +kernel) rfl (by rw [hW 13 0 (by simp [hsX, bX])]; exact hnew)
  clear hnew
  refine cx_putF Cx hK hS q_X7 tyX7 tyX7_ok nmX7 h0 (Nat.le_refl _) rfl 6 (by decide) q_fl_X7_44 rfl hin2 rfl (ty := tyX7 6) (tyX7_ok 6 (by decide)) rfl rfl (Nat.le_of_ble_eq_true rfl) dX7_init_80 (fun H locs hnew hz1 ho hS => ?_)
  replace h0 : cAt E E.2.2 (.inr (7, [.ref (E.2.2 + 1), .ref (E.2.2 + 7), .ref (E.2.2 + 11), .ref (E.2.2 + 13), .ref (E.2.2 + 15), .ref (E.2.2 + 16), .ref (E.2.2 + 17), .null, .null, .null, .null, .null, .long 0, .int 0, .int 0, .int 0])) H := hnew
  clear hnew
  replace hF := hF.put (a := 0) (Or.inl rfl) ho
  replace hz := hz1.trans hz
  clear hz1 ho
  refine lv_aload_n hx hb dX7_init_83 rfl (lv_at hl 0 rfl) ?_
  refine lv_bipush (v := 32) hx hb dX7_init_84 (by decide) ?_
  refine cx_newa Cx hK hS (ty := .byte) rfl 0 rfl rfl q_ac_byte (N := 32) (f := .inl (fun _ => 0)) rfl (by decide) rfl (by decide) (Nat.le_of_ble_eq_true rfl) (Nat.le_of_ble_eq_true rfl) dX7_init_86 hz (fun H hnew hz1 ho hS => ?_)
  replace h0 := h0.kept (ho _ (Nat.lt_of_lt_of_eq h0.lt hz))
  replace hF := hF.new hz ho
  replace hz : H.size = (E.2.2 + 19) := hz1
  clear hz1 ho
  replace hF := hF.add (k := 14) (i := 0) (by decide +kernel) rfl (by rw [hW 14 0 (by simp [hsX, bX])]; exact hnew)
  clear hnew
  refine cx_putF Cx hK hS q_X7 tyX7 tyX7_ok nmX7 h0 (Nat.le_refl _) rfl 7 (by decide) q_fl_X7_47 rfl hin2 rfl (ty := tyX7 7) (tyX7_ok 7 (by decide)) rfl rfl (Nat.le_of_ble_eq_true rfl) dX7_init_88 (fun H locs hnew hz1 ho hS => ?_)
  replace h0 : cAt E E.2.2 (.inr (7, [.ref (E.2.2 + 1), .ref (E.2.2 + 7), .ref (E.2.2 + 11), .ref (E.2.2 + 13), .ref (E.2.2 + 15), .ref (E.2.2 + 16), .ref (E.2.2 + 17), .ref (E.2.2 + 18), .null, .null, .null, .null, .long 0, .int 0, .int 0, .int 0])) H := hnew
  clear hnew
  replace hF := hF.put (a := 0) (Or.inl rfl) ho
  replace hz := hz1.trans hz
  clear hz1 ho
  refine lv_aload_n hx hb dX7_init_91 rfl (lv_at hl 0 rfl) ?_
  refine cx_new Cx hK hS q_X2 tyX2 tyX2_ok q_cl_X7_50 q_is_X2 q_in_X2 (ci := 2) rfl (fs := [.null, .null, .int 0]) (fun j hj => by rcases (show j = 0 ∨ j = 1 ∨ j = 2 by omega) with rfl | rfl | rfl <;> rfl) (Nat.le_of_ble_eq_true rfl) (Nat.le_of_ble_eq_true rfl) dX7_init_92 hz (fun H hnew hz1 ho hS => ?_)
  replace h0 := h0.kept (ho _ (Nat.lt_of_lt_of_eq h0.lt hz))
  replace hF := hF.new hz ho
  replace hz : H.size = (E.2.2 + 20) := hz1
  clear hz1 ho
  have cn := hnew
  clear hnew
  refine lv_dup hx hb dX7_init_95 rfl ?_
  refine cx_callN Cx hK hS (B := fun _ => True) (rest := [.ref (E.2.2 + 19), .ref E.2.2]) (fun _ _ _ _ h => h) (fun _ _ _ => trivial) (k_X2 l E (E.2.2 + 19) (E.2.2 + 20) (by omega)) ⟨rfl, rfl⟩ q_co_X2_init hNx.2.1 q_im_X2_init q_in_X2 rfl hd_X2_init ⟨(Nat.le_of_ble_eq_true rfl), (Nat.le_of_ble_eq_true rfl)⟩ rfl hl.1 rfl (Nat.le_of_ble_eq_true rfl) ⟨(Nat.le_of_ble_eq_true rfl), (Nat.le_of_ble_eq_true rfl)⟩ hz cn (fun q hq => by unfold cA at hq; unfold aU; omega) dX7_init_96 (fun H locs hres hz1 ho hS => ?_)
  refine W.eq (g2 := F0 m 99 ls [.ref (E.2.2 + 19), .ref E.2.2]) rfl ?_
  replace h0 := h0.kept (ho _ (by omega) (by unfold cA; omega))
  replace hF := hF.call (a := 19) (by decide) (by omega) ho
  clear cn
  obtain ⟨r0, r1, r2⟩ := hres
  replace hz : H.size = (E.2.2 + 22) := hz1
  clear hz1 ho
  replace hF := hF.add (k := 15) (i := 0) (by decide +kernel) rfl (by rw [hW 15 0 (by simp [hsX, bX])]; exact r0)
  replace hF := hF.add (k := 16) (i := 0) (by decide +kernel) rfl (by rw [hW 16 0 (by simp [hsX, bX])]; exact r1)
  replace hF := hF.add (k := 17) (i := 0) (by decide +kernel) rfl (by rw [hW 17 0 (by simp [hsX, bX])]; exact r2)
  clear r0 r1 r2
  refine cx_putF Cx hK hS q_X7 tyX7 tyX7_ok nmX7 h0 (Nat.le_refl _) rfl 8 (by decide) q_fl_X7_53 rfl hin2 rfl (ty := tyX7 8) (tyX7_ok 8 (by decide)) rfl rfl (Nat.le_of_ble_eq_true rfl) dX7_init_99 (fun H locs hnew hz1 ho hS => ?_)
  replace h0 : cAt E E.2.2 (.inr (7, [.ref (E.2.2 + 1), .ref (E.2.2 + 7), .ref (E.2.2 + 11), .ref (E.2.2 + 13), .ref (E.2.2 + 15), .ref (E.2.2 + 16), .ref (E.2.2 + 17), .ref (E.2.2 + 18), .ref (E.2.2 + 19), .null, .null, .null, .long 0, .int 0, .int 0, .int 0])) H := hnew
  clear hnew
  replace hF := hF.put (a := 0) (Or.inl rfl) ho
  replace hz := hz1.trans hz
  clear hz1 ho
  refine lv_aload_n hx hb dX7_init_102 rfl (lv_at hl 0 rfl) ?_
  refine lv_iconst (v := 4) hx hb dX7_init_103 (by decide) ?_
  refine cx_anew Cx hK hS 4 rfl q_cl_X7_57 hNx.2.2.2.2.1 (N := 4) (by decide) rfl (by decide) (Nat.le_of_ble_eq_true rfl) (Nat.le_of_ble_eq_true rfl) dX7_init_104 hz (fun H hnew hz1 ho hS => ?_)
  replace h0 := h0.kept (ho _ (Nat.lt_of_lt_of_eq h0.lt hz))
  replace hF := hF.new hz ho
  replace hz : H.size = (E.2.2 + 23) := hz1
  clear hz1 ho
  replace hF := hF.skip (X := 22) rfl
  have hA := hnew
  clear hnew
  refine cx_putF Cx hK hS q_X7 tyX7 tyX7_ok nmX7 h0 (Nat.le_refl _) rfl 9 (by decide) q_fl_X7_59 rfl hin2 rfl (ty := tyX7 9) (tyX7_ok 9 (by decide)) rfl rfl (Nat.le_of_ble_eq_true rfl) dX7_init_107 (fun H locs hnew hz1 ho hS => ?_)
  replace h0 : cAt E E.2.2 (.inr (7, [.ref (E.2.2 + 1), .ref (E.2.2 + 7), .ref (E.2.2 + 11), .ref (E.2.2 + 13), .ref (E.2.2 + 15), .ref (E.2.2 + 16), .ref (E.2.2 + 17), .ref (E.2.2 + 18), .ref (E.2.2 + 19), .ref (E.2.2 + 22), .null, .null, .long 0, .int 0, .int 0, .int 0])) H := hnew
  clear hnew
  replace hF := hF.put (a := 0) (Or.inl rfl) ho
  replace hA := hA.kept (ho _ (by omega))
  replace hz := hz1.trans hz
  clear hz1 ho
  refine lv_iconst (v := 0) hx hb dX7_init_110 (by decide) ?_
  refine lv_istore_n (lv' := [(2, .int 0), (0, .ref E.2.2), (1, .int x)]) hx hb dX7_init_111 rfl hl (by decide) rfl (fun ls hl => ?_)
  refine lv_iload_n hx hb dX7_init_112 rfl (lv_at hl 0 rfl) ?_
  refine lv_iconst (v := 4) hx hb dX7_init_113 (by decide) ?_
  refine lv_icmp_ge (tgt := 136) hx hb dX7_init_114 (by decide) (fun hc => ?_) (fun hc => ?_)
  · exact absurd hc (by decide)
  clear hc
  refine lv_aload_n hx hb dX7_init_117 rfl (lv_at hl 1 rfl) ?_
  refine cx_get Cx hK q_X7 h0 rfl 9 (by decide) q_fl_X7_59 (v := .ref (E.2.2 + 22)) rfl dX7_init_118 ?_
  refine lv_iload_n hx hb dX7_init_121 rfl (lv_at hl 0 rfl) ?_
  refine cx_new Cx hK hS q_X4 tyX4 tyX4_ok q_cl_X7_57 q_is_X4 q_in_X4 (ci := 4) rfl (fs := [.null, .int 0, .int 0, .int 0, .int 0, .int 0, .int 0, .int 0]) (fun j hj => by rcases (show j = 0 ∨ j = 1 ∨ j = 2 ∨ j = 3 ∨ j = 4 ∨ j = 5 ∨ j = 6 ∨ j = 7 by omega) with rfl | rfl | rfl | rfl | rfl | rfl | rfl | rfl <;> rfl) (Nat.le_of_ble_eq_true rfl) (Nat.le_of_ble_eq_true rfl) dX7_init_122 hz (fun H hnew hz1 ho hS => ?_)
  replace h0 := h0.kept (ho _ (Nat.lt_of_lt_of_eq h0.lt hz))
  replace hF := hF.new hz ho
  replace hA := hA.kept (ho _ (Nat.lt_of_lt_of_eq hA.lt hz))
  replace hz : H.size = (E.2.2 + 24) := hz1
  clear hz1 ho
  have cn := hnew
  clear hnew
  refine lv_dup hx hb dX7_init_125 rfl ?_
  refine cx_callN Cx hK hS (B := fun _ => True) (rest := [.ref (E.2.2 + 23), .int 0, .ref (E.2.2 + 22)]) (fun _ _ _ _ h => h) (fun _ _ _ => trivial) (k_X4 l E (E.2.2 + 23) (E.2.2 + 24) (by omega)) ⟨rfl, rfl⟩ q_co_X4_init hNx.2.2.1 q_im_X4_init q_in_X4 rfl hd_X4_init ⟨(Nat.le_of_ble_eq_true rfl), (Nat.le_of_ble_eq_true rfl)⟩ rfl hl.1 rfl (Nat.le_of_ble_eq_true rfl) ⟨(Nat.le_of_ble_eq_true rfl), (Nat.le_of_ble_eq_true rfl)⟩ hz cn (fun q hq => by unfold cA at hq; unfold aU; omega) dX7_init_126 (fun H locs hres hz1 ho hS => ?_)
  refine W.eq (g2 := F0 m 129 ls [.ref (E.2.2 + 23), .int 0, .ref (E.2.2 + 22)]) rfl ?_
  replace h0 := h0.kept (ho _ (by omega) (by unfold cA; omega))
  replace hF := hF.call (a := 23) (by decide) (by omega) ho
  replace hA := hA.kept (ho _ (by omega) (by unfold cA; omega))
  clear cn
  obtain ⟨r0, r1⟩ := hres
  replace hz : H.size = (E.2.2 + 25) := hz1
  clear hz1 ho
  replace hF := hF.add (k := 19) (i := 0) (by decide +kernel) rfl (by rw [hW 19 0 (by simp [hsX, bX])]; exact r0)
  replace hF := hF.add (k := 20) (i := 0) (by decide +kernel) rfl (by rw [hW 20 0 (by simp [hsX, bX])]; exact r1)
  have cv := r0
  clear r0 r1
  refine cx_aast Cx hK hS (t0 := 4) hA (show E.2.2 ≤ _ by omega) rfl cv (ci := 4) rfl 0 rfl (by decide) (by decide) dX7_init_129 (fun H locs hnew hz1 ho hS => ?_)
  clear cv
  replace h0 := h0.kept (ho _ (by omega))
  replace hF := hF.put (a := 22) (Or.inr (Or.inl rfl)) ho
  replace hA := hnew
  clear hnew
  replace hz := hz1.trans hz
  clear hz1 ho
  refine lv_iinc (v := 1) (lv' := [(2, .int 1), (0, .ref E.2.2), (1, .int x)]) hx hb dX7_init_130 hl (k := 0) rfl (by decide) (by decide) rfl (fun ls hl => ?_)
  refine lv_goto (tgt := 112) hx hb dX7_init_133 (by decide) ?_
  refine lv_iload_n hx hb dX7_init_112 rfl (lv_at hl 0 rfl) ?_
  refine lv_iconst (v := 4) hx hb dX7_init_113 (by decide) ?_
  refine lv_icmp_ge (tgt := 136) hx hb dX7_init_114 (by decide) (fun hc => ?_) (fun hc => ?_)
  · exact absurd hc (by decide)
  clear hc
  refine lv_aload_n hx hb dX7_init_117 rfl (lv_at hl 1 rfl) ?_
  refine cx_get Cx hK q_X7 h0 rfl 9 (by decide) q_fl_X7_59 (v := .ref (E.2.2 + 22)) rfl dX7_init_118 ?_
  refine lv_iload_n hx hb dX7_init_121 rfl (lv_at hl 0 rfl) ?_
  refine cx_new Cx hK hS q_X4 tyX4 tyX4_ok q_cl_X7_57 q_is_X4 q_in_X4 (ci := 4) rfl (fs := [.null, .int 0, .int 0, .int 0, .int 0, .int 0, .int 0, .int 0]) (fun j hj => by rcases (show j = 0 ∨ j = 1 ∨ j = 2 ∨ j = 3 ∨ j = 4 ∨ j = 5 ∨ j = 6 ∨ j = 7 by omega) with rfl | rfl | rfl | rfl | rfl | rfl | rfl | rfl <;> rfl) (Nat.le_of_ble_eq_true rfl) (Nat.le_of_ble_eq_true rfl) dX7_init_122 hz (fun H hnew hz1 ho hS => ?_)
  replace h0 := h0.kept (ho _ (Nat.lt_of_lt_of_eq h0.lt hz))
  replace hF := hF.new hz ho
  replace hA := hA.kept (ho _ (Nat.lt_of_lt_of_eq hA.lt hz))
  replace hz : H.size = (E.2.2 + 26) := hz1
  clear hz1 ho
  have cn := hnew
  clear hnew
  refine lv_dup hx hb dX7_init_125 rfl ?_
  refine cx_callN Cx hK hS (B := fun _ => True) (rest := [.ref (E.2.2 + 25), .int 1, .ref (E.2.2 + 22)]) (fun _ _ _ _ h => h) (fun _ _ _ => trivial) (k_X4 l E (E.2.2 + 25) (E.2.2 + 26) (by omega)) ⟨rfl, rfl⟩ q_co_X4_init hNx.2.2.1 q_im_X4_init q_in_X4 rfl hd_X4_init ⟨(Nat.le_of_ble_eq_true rfl), (Nat.le_of_ble_eq_true rfl)⟩ rfl hl.1 rfl (Nat.le_of_ble_eq_true rfl) ⟨(Nat.le_of_ble_eq_true rfl), (Nat.le_of_ble_eq_true rfl)⟩ hz cn (fun q hq => by unfold cA at hq; unfold aU; omega) dX7_init_126 (fun H locs hres hz1 ho hS => ?_)
  refine W.eq (g2 := F0 m 129 ls [.ref (E.2.2 + 25), .int 1, .ref (E.2.2 + 22)]) rfl ?_
  replace h0 := h0.kept (ho _ (by omega) (by unfold cA; omega))
  replace hF := hF.call (a := 25) (by decide) (by omega) ho
  replace hA := hA.kept (ho _ (by omega) (by unfold cA; omega))
  clear cn
  obtain ⟨r0, r1⟩ := hres
  replace hz : H.size = (E.2.2 + 27) := hz1
  clear hz1 ho
  replace hF := hF.add (k := 19) (i := 1) (by decide +kernel) rfl (by rw [hW 19 1 (by simp [hsX, bX])]; exact r0)
  replace hF := hF.add (k := 20) (i := 1) (by decide +kernel) rfl (by rw [hW 20 1 (by simp [hsX, bX])]; exact r1)
  have cv := r0
  clear r0 r1
  refine cx_aast Cx hK hS (t0 := 4) hA (show E.2.2 ≤ _ by omega) rfl cv (ci := 4) rfl 1 rfl (by decide) (by decide) dX7_init_129 (fun H locs hnew hz1 ho hS => ?_)
  clear cv
  replace h0 := h0.kept (ho _ (by omega))
  replace hF := hF.put (a := 22) (Or.inr (Or.inl rfl)) ho
  replace hA := hnew
  clear hnew
  replace hz := hz1.trans hz
  clear hz1 ho
  refine lv_iinc (v := 2) (lv' := [(2, .int 2), (0, .ref E.2.2), (1, .int x)]) hx hb dX7_init_130 hl (k := 0) rfl (by decide) (by decide) rfl (fun ls hl => ?_)
  refine lv_goto (tgt := 112) hx hb dX7_init_133 (by decide) ?_
  refine lv_iload_n hx hb dX7_init_112 rfl (lv_at hl 0 rfl) ?_
  refine lv_iconst (v := 4) hx hb dX7_init_113 (by decide) ?_
  refine lv_icmp_ge (tgt := 136) hx hb dX7_init_114 (by decide) (fun hc => ?_) (fun hc => ?_)
  · exact absurd hc (by decide)
  clear hc
  refine lv_aload_n hx hb dX7_init_117 rfl (lv_at hl 1 rfl) ?_
  refine cx_get Cx hK q_X7 h0 rfl 9 (by decide) q_fl_X7_59 (v := .ref (E.2.2 + 22)) rfl dX7_init_118 ?_
  refine lv_iload_n hx hb dX7_init_121 rfl (lv_at hl 0 rfl) ?_
  refine cx_new Cx hK hS q_X4 tyX4 tyX4_ok q_cl_X7_57 q_is_X4 q_in_X4 (ci := 4) rfl (fs := [.null, .int 0, .int 0, .int 0, .int 0, .int 0, .int 0, .int 0]) (fun j hj => by rcases (show j = 0 ∨ j = 1 ∨ j = 2 ∨ j = 3 ∨ j = 4 ∨ j = 5 ∨ j = 6 ∨ j = 7 by omega) with rfl | rfl | rfl | rfl | rfl | rfl | rfl | rfl <;> rfl) (Nat.le_of_ble_eq_true rfl) (Nat.le_of_ble_eq_true rfl) dX7_init_122 hz (fun H hnew hz1 ho hS => ?_)
  replace h0 := h0.kept (ho _ (Nat.lt_of_lt_of_eq h0.lt hz))
  replace hF := hF.new hz ho
  replace hA := hA.kept (ho _ (Nat.lt_of_lt_of_eq hA.lt hz))
  replace hz : H.size = (E.2.2 + 28) := hz1
  clear hz1 ho
  have cn := hnew
  clear hnew
  refine lv_dup hx hb dX7_init_125 rfl ?_
  refine cx_callN Cx hK hS (B := fun _ => True) (rest := [.ref (E.2.2 + 27), .int 2, .ref (E.2.2 + 22)]) (fun _ _ _ _ h => h) (fun _ _ _ => trivial) (k_X4 l E (E.2.2 + 27) (E.2.2 + 28) (by omega)) ⟨rfl, rfl⟩ q_co_X4_init hNx.2.2.1 q_im_X4_init q_in_X4 rfl hd_X4_init ⟨(Nat.le_of_ble_eq_true rfl), (Nat.le_of_ble_eq_true rfl)⟩ rfl hl.1 rfl (Nat.le_of_ble_eq_true rfl) ⟨(Nat.le_of_ble_eq_true rfl), (Nat.le_of_ble_eq_true rfl)⟩ hz cn (fun q hq => by unfold cA at hq; unfold aU; omega) dX7_init_126 (fun H locs hres hz1 ho hS => ?_)
  refine W.eq (g2 := F0 m 129 ls [.ref (E.2.2 + 27), .int 2, .ref (E.2.2 + 22)]) rfl ?_
  replace h0 := h0.kept (ho _ (by omega) (by unfold cA; omega))
  replace hF := hF.call (a := 27) (by decide) (by omega) ho
  replace hA := hA.kept (ho _ (by omega) (by unfold cA; omega))
  clear cn
  obtain ⟨r0, r1⟩ := hres
  replace hz : H.size = (E.2.2 + 29) := hz1
  clear hz1 ho
  replace hF := hF.add (k := 19) (i := 2) (by decide +kernel) rfl (by rw [hW 19 2 (by simp [hsX, bX])]; exact r0)
  replace hF := hF.add (k := 20) (i := 2) (by decide +kernel) rfl (by rw [hW 20 2 (by simp [hsX, bX])]; exact r1)
  have cv := r0
  clear r0 r1
  refine cx_aast Cx hK hS (t0 := 4) hA (show E.2.2 ≤ _ by omega) rfl cv (ci := 4) rfl 2 rfl (by decide) (by decide) dX7_init_129 (fun H locs hnew hz1 ho hS => ?_)
  clear cv
  replace h0 := h0.kept (ho _ (by omega))
  replace hF := hF.put (a := 22) (Or.inr (Or.inl rfl)) ho
  replace hA := hnew
  clear hnew
  replace hz := hz1.trans hz
  clear hz1 ho
  refine lv_iinc (v := 3) (lv' := [(2, .int 3), (0, .ref E.2.2), (1, .int x)]) hx hb dX7_init_130 hl (k := 0) rfl (by decide) (by decide) rfl (fun ls hl => ?_)
  refine lv_goto (tgt := 112) hx hb dX7_init_133 (by decide) ?_
  refine lv_iload_n hx hb dX7_init_112 rfl (lv_at hl 0 rfl) ?_
  refine lv_iconst (v := 4) hx hb dX7_init_113 (by decide) ?_
  refine lv_icmp_ge (tgt := 136) hx hb dX7_init_114 (by decide) (fun hc => ?_) (fun hc => ?_)
  · exact absurd hc (by decide)
  clear hc
  refine lv_aload_n hx hb dX7_init_117 rfl (lv_at hl 1 rfl) ?_
  refine cx_get Cx hK q_X7 h0 rfl 9 (by decide) q_fl_X7_59 (v := .ref (E.2.2 + 22)) rfl dX7_init_118 ?_
  refine lv_iload_n hx hb dX7_init_121 rfl (lv_at hl 0 rfl) ?_
  refine cx_new Cx hK hS q_X4 tyX4 tyX4_ok q_cl_X7_57 q_is_X4 q_in_X4 (ci := 4) rfl (fs := [.null, .int 0, .int 0, .int 0, .int 0, .int 0, .int 0, .int 0]) (fun j hj => by rcases (show j = 0 ∨ j = 1 ∨ j = 2 ∨ j = 3 ∨ j = 4 ∨ j = 5 ∨ j = 6 ∨ j = 7 by omega) with rfl | rfl | rfl | rfl | rfl | rfl | rfl | rfl <;> rfl) (Nat.le_of_ble_eq_true rfl) (Nat.le_of_ble_eq_true rfl) dX7_init_122 hz (fun H hnew hz1 ho hS => ?_)
  replace h0 := h0.kept (ho _ (Nat.lt_of_lt_of_eq h0.lt hz))
  replace hF := hF.new hz ho
  replace hA := hA.kept (ho _ (Nat.lt_of_lt_of_eq hA.lt hz))
  replace hz : H.size = (E.2.2 + 30) := hz1
  clear hz1 ho
  have cn := hnew
  clear hnew
  refine lv_dup hx hb dX7_init_125 rfl ?_
  refine cx_callN Cx hK hS (B := fun _ => True) (rest := [.ref (E.2.2 + 29), .int 3, .ref (E.2.2 + 22)]) (fun _ _ _ _ h => h) (fun _ _ _ => trivial) (k_X4 l E (E.2.2 + 29) (E.2.2 + 30) (by omega)) ⟨rfl, rfl⟩ q_co_X4_init hNx.2.2.1 q_im_X4_init q_in_X4 rfl hd_X4_init ⟨(Nat.le_of_ble_eq_true rfl), (Nat.le_of_ble_eq_true rfl)⟩ rfl hl.1 rfl (Nat.le_of_ble_eq_true rfl) ⟨(Nat.le_of_ble_eq_true rfl), (Nat.le_of_ble_eq_true rfl)⟩ hz cn (fun q hq => by unfold cA at hq; unfold aU; omega) dX7_init_126 (fun H locs hres hz1 ho hS => ?_)
  refine W.eq (g2 := F0 m 129 ls [.ref (E.2.2 + 29), .int 3, .ref (E.2.2 + 22)]) rfl ?_
  replace h0 := h0.kept (ho _ (by omega) (by unfold cA; omega))
  replace hF := hF.call (a := 29) (by decide) (by omega) ho
  replace hA := hA.kept (ho _ (by omega) (by unfold cA; omega))
  clear cn
  obtain ⟨r0, r1⟩ := hres
  replace hz : H.size = (E.2.2 + 31) := hz1
  clear hz1 ho
  replace hF := hF.add (k := 19) (i := 3) (by decide +kernel) rfl (by rw [hW 19 3 (by simp [hsX, bX])]; exact r0)
  replace hF := hF.add (k := 20) (i := 3) (by decide +kernel) rfl (by rw [hW 20 3 (by simp [hsX, bX])]; exact r1)
  have cv := r0
  clear r0 r1
  refine cx_aast Cx hK hS (t0 := 4) hA (show E.2.2 ≤ _ by omega) rfl cv (ci := 4) rfl 3 rfl (by decide) (by decide) dX7_init_129 (fun H locs hnew hz1 ho hS => ?_)
  clear cv
  replace h0 := h0.kept (ho _ (by omega))
  replace hF := hF.put (a := 22) (Or.inr (Or.inl rfl)) ho
  replace hA := hnew
  clear hnew
  replace hz := hz1.trans hz
  clear hz1 ho
  refine lv_iinc (v := 4) (lv' := [(2, .int 4), (0, .ref E.2.2), (1, .int x)]) hx hb dX7_init_130 hl (k := 0) rfl (by decide) (by decide) rfl (fun ls hl => ?_)
  refine lv_goto (tgt := 112) hx hb dX7_init_133 (by decide) ?_
  refine lv_iload_n hx hb dX7_init_112 rfl (lv_at hl 0 rfl) ?_
  refine lv_iconst (v := 4) hx hb dX7_init_113 (by decide) ?_
  refine lv_icmp_ge (tgt := 136) hx hb dX7_init_114 (by decide) (fun hc => ?_) (fun hc => ?_)
  rotate_left
  · exact absurd (by decide) hc
  clear hc
  replace hF := hF.fill (k := 18) (i := 0) (by decide +kernel) rfl (by
    rw [hW 18 0 (by simp [hsX, bX])]
    refine Eq.trans (show H[E.2.2 + 22]? = some (vp_cell _ _) from hA) (congrArg some ?_)
    rw [vp_cell_q]
    exact arrV_cg _ 4 _ _ (fun j hj => by rcases (show j = 0 ∨ j = 1 ∨ j = 2 ∨ j = 3 by omega) with rfl | rfl | rfl | rfl <;> rfl))
  clear hA
  refine lv_aload_n hx hb dX7_init_136 rfl (lv_at hl 1 rfl) ?_
  refine lv_iconst (v := 4) hx hb dX7_init_137 (by decide) ?_
  refine cx_anew Cx hK hS 5 rfl q_cl_X7_64 hNx.2.2.2.2.2.1 (N := 4) (by decide) rfl (by decide) (Nat.le_of_ble_eq_true rfl) (Nat.le_of_ble_eq_true rfl) dX7_init_138 hz (fun H hnew hz1 ho hS => ?_)
  replace h0 := h0.kept (ho _ (Nat.lt_of_lt_of_eq h0.lt hz))
  replace hF := hF.new hz ho
  replace hz : H.size = (E.2.2 + 32) := hz1
  clear hz1 ho
  replace hF := hF.skip (X := 31) rfl
  have hA := hnew
  clear hnew
  refine cx_putF Cx hK hS q_X7 tyX7 tyX7_ok nmX7 h0 (Nat.le_refl _) rfl 10 (by decide) q_fl_X7_66 rfl hin2 rfl (ty := tyX7 10) (tyX7_ok 10 (by decide)) rfl rfl (Nat.le_of_ble_eq_true rfl) dX7_init_141 (fun H locs hnew hz1 ho hS => ?_)
  replace h0 : cAt E E.2.2 (.inr (7, [.ref (E.2.2 + 1), .ref (E.2.2 + 7), .ref (E.2.2 + 11), .ref (E.2.2 + 13), .ref (E.2.2 + 15), .ref (E.2.2 + 16), .ref (E.2.2 + 17), .ref (E.2.2 + 18), .ref (E.2.2 + 19), .ref (E.2.2 + 22), .ref (E.2.2 + 31), .null, .long 0, .int 0, .int 0, .int 0])) H := hnew
  clear hnew
  replace hF := hF.put (a := 0) (Or.inl rfl) ho
  replace hA := hA.kept (ho _ (by omega))
  replace hz := hz1.trans hz
  clear hz1 ho
  refine lv_iconst (v := 0) hx hb dX7_init_144 (by decide) ?_
  refine lv_istore_n (lv' := [(2, .int 0), (0, .ref E.2.2), (1, .int x)]) hx hb dX7_init_145 rfl hl (by decide) rfl (fun ls hl => ?_)
  refine lv_iload_n hx hb dX7_init_146 rfl (lv_at hl 0 rfl) ?_
  refine lv_iconst (v := 4) hx hb dX7_init_147 (by decide) ?_
  refine lv_icmp_ge (tgt := 173) hx hb dX7_init_148 (by decide) (fun hc => ?_) (fun hc => ?_)
  · exact absurd hc (by decide)
  clear hc
  refine lv_aload_n hx hb dX7_init_151 rfl (lv_at hl 1 rfl) ?_
  refine cx_get Cx hK q_X7 h0 rfl 10 (by decide) q_fl_X7_66 (v := .ref (E.2.2 + 31)) rfl dX7_init_152 ?_
  refine lv_iload_n hx hb dX7_init_155 rfl (lv_at hl 0 rfl) ?_
  refine cx_new Cx hK hS q_X5 tyX5 tyX5_ok q_cl_X7_64 q_is_X5 q_in_X5 (ci := 5) rfl (fs := [.null, .null, .null, .int 0]) (fun j hj => by rcases (show j = 0 ∨ j = 1 ∨ j = 2 ∨ j = 3 by omega) with rfl | rfl | rfl | rfl <;> rfl) (Nat.le_of_ble_eq_true rfl) (Nat.le_of_ble_eq_true rfl) dX7_init_156 hz (fun H hnew hz1 ho hS => ?_)
  replace h0 := h0.kept (ho _ (Nat.lt_of_lt_of_eq h0.lt hz))
  replace hF := hF.new hz ho
  replace hA := hA.kept (ho _ (Nat.lt_of_lt_of_eq hA.lt hz))
  replace hz : H.size = (E.2.2 + 33) := hz1
  clear hz1 ho
  have cn := hnew
  clear hnew
  refine lv_dup hx hb dX7_init_159 rfl ?_
  refine lv_sipush (v := 128) hx hb dX7_init_160 (by decide) ?_
  refine cx_call Cx hK hS (B := fun _ => True) (rest := [.ref (E.2.2 + 32), .int 0, .ref (E.2.2 + 31)]) (fun _ _ _ _ h => h) (fun _ _ _ => trivial) (k_X5 l E (E.2.2 + 32) (E.2.2 + 33) 128 (by omega) (by decide)) ⟨rfl, rfl⟩ q_co_X5_init q_ml_X7_70 q_im_X5_init q_in_X5 rfl hd_X5_init ⟨(Nat.le_of_ble_eq_true rfl), (Nat.le_of_ble_eq_true rfl)⟩ rfl hl.1 rfl (Nat.le_of_ble_eq_true rfl) ⟨(Nat.le_of_ble_eq_true rfl), (Nat.le_of_ble_eq_true rfl)⟩ hz cn (fun q hq => by unfold cA at hq; unfold aU; omega) dX7_init_163 (fun H locs hres hz1 ho hS => ?_)
  refine W.eq (g2 := F0 m 166 ls [.ref (E.2.2 + 32), .int 0, .ref (E.2.2 + 31)]) rfl ?_
  replace h0 := h0.kept (ho _ (by omega) (by unfold cA; omega))
  replace hF := hF.call (a := 32) (by decide) (by omega) ho
  replace hA := hA.kept (ho _ (by omega) (by unfold cA; omega))
  clear cn
  obtain ⟨r0, r1, r2, r3, r4⟩ := hres
  replace hz : H.size = (E.2.2 + 37) := hz1
  clear hz1 ho
  replace hF := hF.add (k := 22) (i := 0) (by decide +kernel) rfl (by rw [hW 22 0 (by simp [hsX, bX])]; exact r0)
  replace hF := hF.add (k := 23) (i := 0) (by decide +kernel) rfl (by rw [hW 23 0 (by simp [hsX, bX])]; exact r1)
  replace hF := hF.add (k := 24) (i := 0) (by decide +kernel) rfl (by rw [hW 24 0 (by simp [hsX, bX])]; exact r2)
  replace hF := hF.add (k := 2) (i := 3) (by decide +kernel) rfl (by rw [hW 2 3 (by simp [hsX, bX])]; exact r3)
  replace hF := hF.add (k := 3) (i := 3) (by decide +kernel) rfl (by rw [hW 3 3 (by simp [hsX, bX])]; exact r4)
  have cv := r0
  clear r0 r1 r2 r3 r4
  refine cx_aast Cx hK hS (t0 := 5) hA (show E.2.2 ≤ _ by omega) rfl cv (ci := 5) rfl 0 rfl (by decide) (by decide) dX7_init_166 (fun H locs hnew hz1 ho hS => ?_)
  clear cv
  replace h0 := h0.kept (ho _ (by omega))
  replace hF := hF.put (a := 31) (Or.inr (Or.inl rfl)) ho
  replace hA := hnew
  clear hnew
  replace hz := hz1.trans hz
  clear hz1 ho
  refine lv_iinc (v := 1) (lv' := [(2, .int 1), (0, .ref E.2.2), (1, .int x)]) hx hb dX7_init_167 hl (k := 0) rfl (by decide) (by decide) rfl (fun ls hl => ?_)
  refine lv_goto (tgt := 146) hx hb dX7_init_170 (by decide) ?_
  refine lv_iload_n hx hb dX7_init_146 rfl (lv_at hl 0 rfl) ?_
  refine lv_iconst (v := 4) hx hb dX7_init_147 (by decide) ?_
  refine lv_icmp_ge (tgt := 173) hx hb dX7_init_148 (by decide) (fun hc => ?_) (fun hc => ?_)
  · exact absurd hc (by decide)
  clear hc
  refine lv_aload_n hx hb dX7_init_151 rfl (lv_at hl 1 rfl) ?_
  refine cx_get Cx hK q_X7 h0 rfl 10 (by decide) q_fl_X7_66 (v := .ref (E.2.2 + 31)) rfl dX7_init_152 ?_
  refine lv_iload_n hx hb dX7_init_155 rfl (lv_at hl 0 rfl) ?_
  refine cx_new Cx hK hS q_X5 tyX5 tyX5_ok q_cl_X7_64 q_is_X5 q_in_X5 (ci := 5) rfl (fs := [.null, .null, .null, .int 0]) (fun j hj => by rcases (show j = 0 ∨ j = 1 ∨ j = 2 ∨ j = 3 by omega) with rfl | rfl | rfl | rfl <;> rfl) (Nat.le_of_ble_eq_true rfl) (Nat.le_of_ble_eq_true rfl) dX7_init_156 hz (fun H hnew hz1 ho hS => ?_)
  replace h0 := h0.kept (ho _ (Nat.lt_of_lt_of_eq h0.lt hz))
  replace hF := hF.new hz ho
  replace hA := hA.kept (ho _ (Nat.lt_of_lt_of_eq hA.lt hz))
  replace hz : H.size = (E.2.2 + 38) := hz1
  clear hz1 ho
  have cn := hnew
  clear hnew
  refine lv_dup hx hb dX7_init_159 rfl ?_
  refine lv_sipush (v := 128) hx hb dX7_init_160 (by decide) ?_
  refine cx_call Cx hK hS (B := fun _ => True) (rest := [.ref (E.2.2 + 37), .int 1, .ref (E.2.2 + 31)]) (fun _ _ _ _ h => h) (fun _ _ _ => trivial) (k_X5 l E (E.2.2 + 37) (E.2.2 + 38) 128 (by omega) (by decide)) ⟨rfl, rfl⟩ q_co_X5_init q_ml_X7_70 q_im_X5_init q_in_X5 rfl hd_X5_init ⟨(Nat.le_of_ble_eq_true rfl), (Nat.le_of_ble_eq_true rfl)⟩ rfl hl.1 rfl (Nat.le_of_ble_eq_true rfl) ⟨(Nat.le_of_ble_eq_true rfl), (Nat.le_of_ble_eq_true rfl)⟩ hz cn (fun q hq => by unfold cA at hq; unfold aU; omega) dX7_init_163 (fun H locs hres hz1 ho hS => ?_)
  refine W.eq (g2 := F0 m 166 ls [.ref (E.2.2 + 37), .int 1, .ref (E.2.2 + 31)]) rfl ?_
  replace h0 := h0.kept (ho _ (by omega) (by unfold cA; omega))
  replace hF := hF.call (a := 37) (by decide) (by omega) ho
  replace hA := hA.kept (ho _ (by omega) (by unfold cA; omega))
  clear cn
  obtain ⟨r0, r1, r2, r3, r4⟩ := hres
  replace hz : H.size = (E.2.2 + 42) := hz1
  clear hz1 ho
  replace hF := hF.add (k := 22) (i := 1) (by decide +kernel) rfl (by rw [hW 22 1 (by simp [hsX, bX])]; exact r0)
  replace hF := hF.add (k := 23) (i := 1) (by decide +kernel) rfl (by rw [hW 23 1 (by simp [hsX, bX])]; exact r1)
  replace hF := hF.add (k := 24) (i := 1) (by decide +kernel) rfl (by rw [hW 24 1 (by simp [hsX, bX])]; exact r2)
  replace hF := hF.add (k := 2) (i := 4) (by decide +kernel) rfl (by rw [hW 2 4 (by simp [hsX, bX])]; exact r3)
  replace hF := hF.add (k := 3) (i := 4) (by decide +kernel) rfl (by rw [hW 3 4 (by simp [hsX, bX])]; exact r4)
  have cv := r0
  clear r0 r1 r2 r3 r4
  refine cx_aast Cx hK hS (t0 := 5) hA (show E.2.2 ≤ _ by omega) rfl cv (ci := 5) rfl 1 rfl (by decide) (by decide) dX7_init_166 (fun H locs hnew hz1 ho hS => ?_)
  clear cv
  replace h0 := h0.kept (ho _ (by omega))
  replace hF := hF.put (a := 31) (Or.inr (Or.inl rfl)) ho
  replace hA := hnew
  clear hnew
  replace hz := hz1.trans hz
  clear hz1 ho
  refine lv_iinc (v := 2) (lv' := [(2, .int 2), (0, .ref E.2.2), (1, .int x)]) hx hb dX7_init_167 hl (k := 0) rfl (by decide) (by decide) rfl (fun ls hl => ?_)
  refine lv_goto (tgt := 146) hx hb dX7_init_170 (by decide) ?_
  refine lv_iload_n hx hb dX7_init_146 rfl (lv_at hl 0 rfl) ?_
  refine lv_iconst (v := 4) hx hb dX7_init_147 (by decide) ?_
  refine lv_icmp_ge (tgt := 173) hx hb dX7_init_148 (by decide) (fun hc => ?_) (fun hc => ?_)
  · exact absurd hc (by decide)
  clear hc
  refine lv_aload_n hx hb dX7_init_151 rfl (lv_at hl 1 rfl) ?_
  refine cx_get Cx hK q_X7 h0 rfl 10 (by decide) q_fl_X7_66 (v := .ref (E.2.2 + 31)) rfl dX7_init_152 ?_
  refine lv_iload_n hx hb dX7_init_155 rfl (lv_at hl 0 rfl) ?_
  refine cx_new Cx hK hS q_X5 tyX5 tyX5_ok q_cl_X7_64 q_is_X5 q_in_X5 (ci := 5) rfl (fs := [.null, .null, .null, .int 0]) (fun j hj => by rcases (show j = 0 ∨ j = 1 ∨ j = 2 ∨ j = 3 by omega) with rfl | rfl | rfl | rfl <;> rfl) (Nat.le_of_ble_eq_true rfl) (Nat.le_of_ble_eq_true rfl) dX7_init_156 hz (fun H hnew hz1 ho hS => ?_)
  replace h0 := h0.kept (ho _ (Nat.lt_of_lt_of_eq h0.lt hz))
  replace hF := hF.new hz ho
  replace hA := hA.kept (ho _ (Nat.lt_of_lt_of_eq hA.lt hz))
  replace hz : H.size = (E.2.2 + 43) := hz1
  clear hz1 ho
  have cn := hnew
  clear hnew
  refine lv_dup hx hb dX7_init_159 rfl ?_
  refine lv_sipush (v := 128) hx hb dX7_init_160 (by decide) ?_
  refine cx_call Cx hK hS (B := fun _ => True) (rest := [.ref (E.2.2 + 42), .int 2, .ref (E.2.2 + 31)]) (fun _ _ _ _ h => h) (fun _ _ _ => trivial) (k_X5 l E (E.2.2 + 42) (E.2.2 + 43) 128 (by omega) (by decide)) ⟨rfl, rfl⟩ q_co_X5_init q_ml_X7_70 q_im_X5_init q_in_X5 rfl hd_X5_init ⟨(Nat.le_of_ble_eq_true rfl), (Nat.le_of_ble_eq_true rfl)⟩ rfl hl.1 rfl (Nat.le_of_ble_eq_true rfl) ⟨(Nat.le_of_ble_eq_true rfl), (Nat.le_of_ble_eq_true rfl)⟩ hz cn (fun q hq => by unfold cA at hq; unfold aU; omega) dX7_init_163 (fun H locs hres hz1 ho hS => ?_)
  refine W.eq (g2 := F0 m 166 ls [.ref (E.2.2 + 42), .int 2, .ref (E.2.2 + 31)]) rfl ?_
  replace h0 := h0.kept (ho _ (by omega) (by unfold cA; omega))
  replace hF := hF.call (a := 42) (by decide) (by omega) ho
  replace hA := hA.kept (ho _ (by omega) (by unfold cA; omega))
  clear cn
  obtain ⟨r0, r1, r2, r3, r4⟩ := hres
  replace hz : H.size = (E.2.2 + 47) := hz1
  clear hz1 ho
  replace hF := hF.add (k := 22) (i := 2) (by decide +kernel) rfl (by rw [hW 22 2 (by simp [hsX, bX])]; exact r0)
  replace hF := hF.add (k := 23) (i := 2) (by decide +kernel) rfl (by rw [hW 23 2 (by simp [hsX, bX])]; exact r1)
  replace hF := hF.add (k := 24) (i := 2) (by decide +kernel) rfl (by rw [hW 24 2 (by simp [hsX, bX])]; exact r2)
  replace hF := hF.add (k := 2) (i := 5) (by decide +kernel) rfl (by rw [hW 2 5 (by simp [hsX, bX])]; exact r3)
  replace hF := hF.add (k := 3) (i := 5) (by decide +kernel) rfl (by rw [hW 3 5 (by simp [hsX, bX])]; exact r4)
  have cv := r0
  clear r0 r1 r2 r3 r4
  refine cx_aast Cx hK hS (t0 := 5) hA (show E.2.2 ≤ _ by omega) rfl cv (ci := 5) rfl 2 rfl (by decide) (by decide) dX7_init_166 (fun H locs hnew hz1 ho hS => ?_)
  clear cv
  replace h0 := h0.kept (ho _ (by omega))
  replace hF := hF.put (a := 31) (Or.inr (Or.inl rfl)) ho
  replace hA := hnew
  clear hnew
  replace hz := hz1.trans hz
  clear hz1 ho
  refine lv_iinc (v := 3) (lv' := [(2, .int 3), (0, .ref E.2.2), (1, .int x)]) hx hb dX7_init_167 hl (k := 0) rfl (by decide) (by decide) rfl (fun ls hl => ?_)
  refine lv_goto (tgt := 146) hx hb dX7_init_170 (by decide) ?_
  refine lv_iload_n hx hb dX7_init_146 rfl (lv_at hl 0 rfl) ?_
  refine lv_iconst (v := 4) hx hb dX7_init_147 (by decide) ?_
  refine lv_icmp_ge (tgt := 173) hx hb dX7_init_148 (by decide) (fun hc => ?_) (fun hc => ?_)
  · exact absurd hc (by decide)
  clear hc
  refine lv_aload_n hx hb dX7_init_151 rfl (lv_at hl 1 rfl) ?_
  refine cx_get Cx hK q_X7 h0 rfl 10 (by decide) q_fl_X7_66 (v := .ref (E.2.2 + 31)) rfl dX7_init_152 ?_
  refine lv_iload_n hx hb dX7_init_155 rfl (lv_at hl 0 rfl) ?_
  refine cx_new Cx hK hS q_X5 tyX5 tyX5_ok q_cl_X7_64 q_is_X5 q_in_X5 (ci := 5) rfl (fs := [.null, .null, .null, .int 0]) (fun j hj => by rcases (show j = 0 ∨ j = 1 ∨ j = 2 ∨ j = 3 by omega) with rfl | rfl | rfl | rfl <;> rfl) (Nat.le_of_ble_eq_true rfl) (Nat.le_of_ble_eq_true rfl) dX7_init_156 hz (fun H hnew hz1 ho hS => ?_)
  replace h0 := h0.kept (ho _ (Nat.lt_of_lt_of_eq h0.lt hz))
  replace hF := hF.new hz ho
  replace hA := hA.kept (ho _ (Nat.lt_of_lt_of_eq hA.lt hz))
  replace hz : H.size = (E.2.2 + 48) := hz1
  clear hz1 ho
  have cn := hnew
  clear hnew
  refine lv_dup hx hb dX7_init_159 rfl ?_
  refine lv_sipush (v := 128) hx hb dX7_init_160 (by decide) ?_
  refine cx_call Cx hK hS (B := fun _ => True) (rest := [.ref (E.2.2 + 47), .int 3, .ref (E.2.2 + 31)]) (fun _ _ _ _ h => h) (fun _ _ _ => trivial) (k_X5 l E (E.2.2 + 47) (E.2.2 + 48) 128 (by omega) (by decide)) ⟨rfl, rfl⟩ q_co_X5_init q_ml_X7_70 q_im_X5_init q_in_X5 rfl hd_X5_init ⟨(Nat.le_of_ble_eq_true rfl), (Nat.le_of_ble_eq_true rfl)⟩ rfl hl.1 rfl (Nat.le_of_ble_eq_true rfl) ⟨(Nat.le_of_ble_eq_true rfl), (Nat.le_of_ble_eq_true rfl)⟩ hz cn (fun q hq => by unfold cA at hq; unfold aU; omega) dX7_init_163 (fun H locs hres hz1 ho hS => ?_)
  refine W.eq (g2 := F0 m 166 ls [.ref (E.2.2 + 47), .int 3, .ref (E.2.2 + 31)]) rfl ?_
  replace h0 := h0.kept (ho _ (by omega) (by unfold cA; omega))
  replace hF := hF.call (a := 47) (by decide) (by omega) ho
  replace hA := hA.kept (ho _ (by omega) (by unfold cA; omega))
  clear cn
  obtain ⟨r0, r1, r2, r3, r4⟩ := hres
  replace hz : H.size = (E.2.2 + 52) := hz1
  clear hz1 ho
  replace hF := hF.add (k := 22) (i := 3) (by decide +kernel) rfl (by rw [hW 22 3 (by simp [hsX, bX])]; exact r0)
  replace hF := hF.add (k := 23) (i := 3) (by decide +kernel) rfl (by rw [hW 23 3 (by simp [hsX, bX])]; exact r1)
  replace hF := hF.add (k := 24) (i := 3) (by decide +kernel) rfl (by rw [hW 24 3 (by simp [hsX, bX])]; exact r2)
  replace hF := hF.add (k := 2) (i := 6) (by decide +kernel) rfl (by rw [hW 2 6 (by simp [hsX, bX])]; exact r3)
  replace hF := hF.add (k := 3) (i := 6) (by decide +kernel) rfl (by rw [hW 3 6 (by simp [hsX, bX])]; exact r4)
  have cv := r0
  clear r0 r1 r2 r3 r4
  refine cx_aast Cx hK hS (t0 := 5) hA (show E.2.2 ≤ _ by omega) rfl cv (ci := 5) rfl 3 rfl (by decide) (by decide) dX7_init_166 (fun H locs hnew hz1 ho hS => ?_)
  clear cv
  replace h0 := h0.kept (ho _ (by omega))
  replace hF := hF.put (a := 31) (Or.inr (Or.inl rfl)) ho
  replace hA := hnew
  clear hnew
  replace hz := hz1.trans hz
  clear hz1 ho
  refine lv_iinc (v := 4) (lv' := [(2, .int 4), (0, .ref E.2.2), (1, .int x)]) hx hb dX7_init_167 hl (k := 0) rfl (by decide) (by decide) rfl (fun ls hl => ?_)
  refine lv_goto (tgt := 146) hx hb dX7_init_170 (by decide) ?_
  refine lv_iload_n hx hb dX7_init_146 rfl (lv_at hl 0 rfl) ?_
  refine lv_iconst (v := 4) hx hb dX7_init_147 (by decide) ?_
  refine lv_icmp_ge (tgt := 173) hx hb dX7_init_148 (by decide) (fun hc => ?_) (fun hc => ?_)
  rotate_left
  · exact absurd (by decide) hc
  clear hc
  replace hF := hF.fill (k := 21) (i := 0) (by decide +kernel) rfl (by
    rw [hW 21 0 (by simp [hsX, bX])]
    refine Eq.trans (show H[E.2.2 + 31]? = some (vp_cell _ _) from hA) (congrArg some ?_)
    rw [vp_cell_q]
    exact arrV_cg _ 4 _ _ (fun j hj => by rcases (show j = 0 ∨ j = 1 ∨ j = 2 ∨ j = 3 by omega) with rfl | rfl | rfl | rfl <;> rfl))
  clear hA
  refine lv_aload_n hx hb dX7_init_173 rfl (lv_at hl 1 rfl) ?_
  refine lv_bipush (v := 8) hx hb dX7_init_174 (by decide) ?_
  refine cx_anew Cx hK hS 6 rfl q_cl_X7_71 hNx.2.2.2.2.2.2 (N := 8) (by decide) rfl (by decide) (Nat.le_of_ble_eq_true rfl) (Nat.le_of_ble_eq_true rfl) dX7_init_176 hz (fun H hnew hz1 ho hS => ?_)
  replace h0 := h0.kept (ho _ (Nat.lt_of_lt_of_eq h0.lt hz))
  replace hF := hF.new hz ho
  replace hz : H.size = (E.2.2 + 53) := hz1
  clear hz1 ho
  replace hF := hF.skip (X := 52) rfl
  have hA := hnew
  clear hnew
  refine cx_putF Cx hK hS q_X7 tyX7 tyX7_ok nmX7 h0 (Nat.le_refl _) rfl 11 (by decide) q_fl_X7_73 rfl hin2 rfl (ty := tyX7 11) (tyX7_ok 11 (by decide)) rfl rfl (Nat.le_of_ble_eq_true rfl) dX7_init_179 (fun H locs hnew hz1 ho hS => ?_)
  replace h0 : cAt E E.2.2 (.inr (7, [.ref (E.2.2 + 1), .ref (E.2.2 + 7), .ref (E.2.2 + 11), .ref (E.2.2 + 13), .ref (E.2.2 + 15), .ref (E.2.2 + 16), .ref (E.2.2 + 17), .ref (E.2.2 + 18), .ref (E.2.2 + 19), .ref (E.2.2 + 22), .ref (E.2.2 + 31), .ref (E.2.2 + 52), .long 0, .int 0, .int 0, .int 0])) H := hnew
  clear hnew
  replace hF := hF.put (a := 0) (Or.inl rfl) ho
  replace hA := hA.kept (ho _ (by omega))
  replace hz := hz1.trans hz
  clear hz1 ho
  refine lv_iconst (v := 0) hx hb dX7_init_182 (by decide) ?_
  refine lv_istore_n (lv' := [(2, .int 0), (0, .ref E.2.2), (1, .int x)]) hx hb dX7_init_183 rfl hl (by decide) rfl (fun ls hl => ?_)
  refine lv_iload_n hx hb dX7_init_184 rfl (lv_at hl 0 rfl) ?_
  refine lv_bipush (v := 8) hx hb dX7_init_185 (by decide) ?_
  refine lv_icmp_ge (tgt := 209) hx hb dX7_init_187 (by decide) (fun hc => ?_) (fun hc => ?_)
  · exact absurd hc (by decide)
  clear hc
  refine lv_aload_n hx hb dX7_init_190 rfl (lv_at hl 1 rfl) ?_
  refine cx_get Cx hK q_X7 h0 rfl 11 (by decide) q_fl_X7_73 (v := .ref (E.2.2 + 52)) rfl dX7_init_191 ?_
  refine lv_iload_n hx hb dX7_init_194 rfl (lv_at hl 0 rfl) ?_
  refine cx_new Cx hK hS q_X6 tyX6 tyX6_ok q_cl_X7_71 q_is_X6 q_in_X6 (ci := 6) rfl (fs := [.null, .int 0, .int 0, .int 0, .long 0]) (fun j hj => by rcases (show j = 0 ∨ j = 1 ∨ j = 2 ∨ j = 3 ∨ j = 4 by omega) with rfl | rfl | rfl | rfl | rfl <;> rfl) (Nat.le_of_ble_eq_true rfl) (Nat.le_of_ble_eq_true rfl) dX7_init_195 hz (fun H hnew hz1 ho hS => ?_)
  replace h0 := h0.kept (ho _ (Nat.lt_of_lt_of_eq h0.lt hz))
  replace hF := hF.new hz ho
  replace hA := hA.kept (ho _ (Nat.lt_of_lt_of_eq hA.lt hz))
  replace hz : H.size = (E.2.2 + 54) := hz1
  clear hz1 ho
  have cn := hnew
  clear hnew
  refine lv_dup hx hb dX7_init_198 rfl ?_
  refine cx_callN Cx hK hS (B := fun _ => True) (rest := [.ref (E.2.2 + 53), .int 0, .ref (E.2.2 + 52)]) (fun _ _ _ _ h => h) (fun _ _ _ => trivial) (k_X6 l E (E.2.2 + 53) (E.2.2 + 54) (by omega)) ⟨rfl, rfl⟩ q_co_X6_init hNx.2.2.2.1 q_im_X6_init q_in_X6 rfl hd_X6_init ⟨(Nat.le_of_ble_eq_true rfl), (Nat.le_of_ble_eq_true rfl)⟩ rfl hl.1 rfl (Nat.le_of_ble_eq_true rfl) ⟨(Nat.le_of_ble_eq_true rfl), (Nat.le_of_ble_eq_true rfl)⟩ hz cn (fun q hq => by unfold cA at hq; unfold aU; omega) dX7_init_199 (fun H locs hres hz1 ho hS => ?_)
  refine W.eq (g2 := F0 m 202 ls [.ref (E.2.2 + 53), .int 0, .ref (E.2.2 + 52)]) rfl ?_
  replace h0 := h0.kept (ho _ (by omega) (by unfold cA; omega))
  replace hF := hF.call (a := 53) (by decide) (by omega) ho
  replace hA := hA.kept (ho _ (by omega) (by unfold cA; omega))
  clear cn
  obtain ⟨r0, r1, r2, r3, r4, r5⟩ := hres
  replace hz : H.size = (E.2.2 + 59) := hz1
  clear hz1 ho
  replace hF := hF.add (k := 26) (i := 0) (by decide +kernel) rfl (by rw [hW 26 0 (by simp [hsX, bX])]; exact r0)
  replace hF := hF.add (k := 22) (i := 4) (by decide +kernel) rfl (by rw [hW 22 4 (by simp [hsX, bX])]; exact r1)
  replace hF := hF.add (k := 23) (i := 4) (by decide +kernel) rfl (by rw [hW 23 4 (by simp [hsX, bX])]; exact r2)
  replace hF := hF.add (k := 24) (i := 4) (by decide +kernel) rfl (by rw [hW 24 4 (by simp [hsX, bX])]; exact r3)
  replace hF := hF.add (k := 2) (i := 7) (by decide +kernel) rfl (by rw [hW 2 7 (by simp [hsX, bX])]; exact r4)
  replace hF := hF.add (k := 3) (i := 7) (by decide +kernel) rfl (by rw [hW 3 7 (by simp [hsX, bX])]; exact r5)
  have cv := r0
  clear r0 r1 r2 r3 r4 r5
  refine cx_aast Cx hK hS (t0 := 6) hA (show E.2.2 ≤ _ by omega) rfl cv (ci := 6) rfl 0 rfl (by decide) (by decide) dX7_init_202 (fun H locs hnew hz1 ho hS => ?_)
  clear cv
  replace h0 := h0.kept (ho _ (by omega))
  replace hF := hF.put (a := 52) (Or.inr (Or.inl rfl)) ho
  replace hA := hnew
  clear hnew
  replace hz := hz1.trans hz
  clear hz1 ho
  refine lv_iinc (v := 1) (lv' := [(2, .int 1), (0, .ref E.2.2), (1, .int x)]) hx hb dX7_init_203 hl (k := 0) rfl (by decide) (by decide) rfl (fun ls hl => ?_)
  refine lv_goto (tgt := 184) hx hb dX7_init_206 (by decide) ?_
  refine lv_iload_n hx hb dX7_init_184 rfl (lv_at hl 0 rfl) ?_
  refine lv_bipush (v := 8) hx hb dX7_init_185 (by decide) ?_
  refine lv_icmp_ge (tgt := 209) hx hb dX7_init_187 (by decide) (fun hc => ?_) (fun hc => ?_)
  · exact absurd hc (by decide)
  clear hc
  refine lv_aload_n hx hb dX7_init_190 rfl (lv_at hl 1 rfl) ?_
  refine cx_get Cx hK q_X7 h0 rfl 11 (by decide) q_fl_X7_73 (v := .ref (E.2.2 + 52)) rfl dX7_init_191 ?_
  refine lv_iload_n hx hb dX7_init_194 rfl (lv_at hl 0 rfl) ?_
  refine cx_new Cx hK hS q_X6 tyX6 tyX6_ok q_cl_X7_71 q_is_X6 q_in_X6 (ci := 6) rfl (fs := [.null, .int 0, .int 0, .int 0, .long 0]) (fun j hj => by rcases (show j = 0 ∨ j = 1 ∨ j = 2 ∨ j = 3 ∨ j = 4 by omega) with rfl | rfl | rfl | rfl | rfl <;> rfl) (Nat.le_of_ble_eq_true rfl) (Nat.le_of_ble_eq_true rfl) dX7_init_195 hz (fun H hnew hz1 ho hS => ?_)
  replace h0 := h0.kept (ho _ (Nat.lt_of_lt_of_eq h0.lt hz))
  replace hF := hF.new hz ho
  replace hA := hA.kept (ho _ (Nat.lt_of_lt_of_eq hA.lt hz))
  replace hz : H.size = (E.2.2 + 60) := hz1
  clear hz1 ho
  have cn := hnew
  clear hnew
  refine lv_dup hx hb dX7_init_198 rfl ?_
  refine cx_callN Cx hK hS (B := fun _ => True) (rest := [.ref (E.2.2 + 59), .int 1, .ref (E.2.2 + 52)]) (fun _ _ _ _ h => h) (fun _ _ _ => trivial) (k_X6 l E (E.2.2 + 59) (E.2.2 + 60) (by omega)) ⟨rfl, rfl⟩ q_co_X6_init hNx.2.2.2.1 q_im_X6_init q_in_X6 rfl hd_X6_init ⟨(Nat.le_of_ble_eq_true rfl), (Nat.le_of_ble_eq_true rfl)⟩ rfl hl.1 rfl (Nat.le_of_ble_eq_true rfl) ⟨(Nat.le_of_ble_eq_true rfl), (Nat.le_of_ble_eq_true rfl)⟩ hz cn (fun q hq => by unfold cA at hq; unfold aU; omega) dX7_init_199 (fun H locs hres hz1 ho hS => ?_)
  refine W.eq (g2 := F0 m 202 ls [.ref (E.2.2 + 59), .int 1, .ref (E.2.2 + 52)]) rfl ?_
  replace h0 := h0.kept (ho _ (by omega) (by unfold cA; omega))
  replace hF := hF.call (a := 59) (by decide) (by omega) ho
  replace hA := hA.kept (ho _ (by omega) (by unfold cA; omega))
  clear cn
  obtain ⟨r0, r1, r2, r3, r4, r5⟩ := hres
  replace hz : H.size = (E.2.2 + 65) := hz1
  clear hz1 ho
  replace hF := hF.add (k := 26) (i := 1) (by decide +kernel) rfl (by rw [hW 26 1 (by simp [hsX, bX])]; exact r0)
  replace hF := hF.add (k := 22) (i := 5) (by decide +kernel) rfl (by rw [hW 22 5 (by simp [hsX, bX])]; exact r1)
  replace hF := hF.add (k := 23) (i := 5) (by decide +kernel) rfl (by rw [hW 23 5 (by simp [hsX, bX])]; exact r2)
  replace hF := hF.add (k := 24) (i := 5) (by decide +kernel) rfl (by rw [hW 24 5 (by simp [hsX, bX])]; exact r3)
  replace hF := hF.add (k := 2) (i := 8) (by decide +kernel) rfl (by rw [hW 2 8 (by simp [hsX, bX])]; exact r4)
  replace hF := hF.add (k := 3) (i := 8) (by decide +kernel) rfl (by rw [hW 3 8 (by simp [hsX, bX])]; exact r5)
  have cv := r0
  clear r0 r1 r2 r3 r4 r5
  refine cx_aast Cx hK hS (t0 := 6) hA (show E.2.2 ≤ _ by omega) rfl cv (ci := 6) rfl 1 rfl (by decide) (by decide) dX7_init_202 (fun H locs hnew hz1 ho hS => ?_)
  clear cv
  replace h0 := h0.kept (ho _ (by omega))
  replace hF := hF.put (a := 52) (Or.inr (Or.inl rfl)) ho
  replace hA := hnew
  clear hnew
  replace hz := hz1.trans hz
  clear hz1 ho
  refine lv_iinc (v := 2) (lv' := [(2, .int 2), (0, .ref E.2.2), (1, .int x)]) hx hb dX7_init_203 hl (k := 0) rfl (by decide) (by decide) rfl (fun ls hl => ?_)
  refine lv_goto (tgt := 184) hx hb dX7_init_206 (by decide) ?_
  refine lv_iload_n hx hb dX7_init_184 rfl (lv_at hl 0 rfl) ?_
  refine lv_bipush (v := 8) hx hb dX7_init_185 (by decide) ?_
  refine lv_icmp_ge (tgt := 209) hx hb dX7_init_187 (by decide) (fun hc => ?_) (fun hc => ?_)
  · exact absurd hc (by decide)
  clear hc
  refine lv_aload_n hx hb dX7_init_190 rfl (lv_at hl 1 rfl) ?_
  refine cx_get Cx hK q_X7 h0 rfl 11 (by decide) q_fl_X7_73 (v := .ref (E.2.2 + 52)) rfl dX7_init_191 ?_
  refine lv_iload_n hx hb dX7_init_194 rfl (lv_at hl 0 rfl) ?_
  refine cx_new Cx hK hS q_X6 tyX6 tyX6_ok q_cl_X7_71 q_is_X6 q_in_X6 (ci := 6) rfl (fs := [.null, .int 0, .int 0, .int 0, .long 0]) (fun j hj => by rcases (show j = 0 ∨ j = 1 ∨ j = 2 ∨ j = 3 ∨ j = 4 by omega) with rfl | rfl | rfl | rfl | rfl <;> rfl) (Nat.le_of_ble_eq_true rfl) (Nat.le_of_ble_eq_true rfl) dX7_init_195 hz (fun H hnew hz1 ho hS => ?_)
  replace h0 := h0.kept (ho _ (Nat.lt_of_lt_of_eq h0.lt hz))
  replace hF := hF.new hz ho
  replace hA := hA.kept (ho _ (Nat.lt_of_lt_of_eq hA.lt hz))
  replace hz : H.size = (E.2.2 + 66) := hz1
  clear hz1 ho
  have cn := hnew
  clear hnew
  refine lv_dup hx hb dX7_init_198 rfl ?_
  refine cx_callN Cx hK hS (B := fun _ => True) (rest := [.ref (E.2.2 + 65), .int 2, .ref (E.2.2 + 52)]) (fun _ _ _ _ h => h) (fun _ _ _ => trivial) (k_X6 l E (E.2.2 + 65) (E.2.2 + 66) (by omega)) ⟨rfl, rfl⟩ q_co_X6_init hNx.2.2.2.1 q_im_X6_init q_in_X6 rfl hd_X6_init ⟨(Nat.le_of_ble_eq_true rfl), (Nat.le_of_ble_eq_true rfl)⟩ rfl hl.1 rfl (Nat.le_of_ble_eq_true rfl) ⟨(Nat.le_of_ble_eq_true rfl), (Nat.le_of_ble_eq_true rfl)⟩ hz cn (fun q hq => by unfold cA at hq; unfold aU; omega) dX7_init_199 (fun H locs hres hz1 ho hS => ?_)
  refine W.eq (g2 := F0 m 202 ls [.ref (E.2.2 + 65), .int 2, .ref (E.2.2 + 52)]) rfl ?_
  replace h0 := h0.kept (ho _ (by omega) (by unfold cA; omega))
  replace hF := hF.call (a := 65) (by decide) (by omega) ho
  replace hA := hA.kept (ho _ (by omega) (by unfold cA; omega))
  clear cn
  obtain ⟨r0, r1, r2, r3, r4, r5⟩ := hres
  replace hz : H.size = (E.2.2 + 71) := hz1
  clear hz1 ho
  replace hF := hF.add (k := 26) (i := 2) (by decide +kernel) rfl (by rw [hW 26 2 (by simp [hsX, bX])]; exact r0)
  replace hF := hF.add (k := 22) (i := 6) (by decide +kernel) rfl (by rw [hW 22 6 (by simp [hsX, bX])]; exact r1)
  replace hF := hF.add (k := 23) (i := 6) (by decide +kernel) rfl (by rw [hW 23 6 (by simp [hsX, bX])]; exact r2)
  replace hF := hF.add (k := 24) (i := 6) (by decide +kernel) rfl (by rw [hW 24 6 (by simp [hsX, bX])]; exact r3)
  replace hF := hF.add (k := 2) (i := 9) (by decide +kernel) rfl (by rw [hW 2 9 (by simp [hsX, bX])]; exact r4)
  replace hF := hF.add (k := 3) (i := 9) (by decide +kernel) rfl (by rw [hW 3 9 (by simp [hsX, bX])]; exact r5)
  have cv := r0
  clear r0 r1 r2 r3 r4 r5
  refine cx_aast Cx hK hS (t0 := 6) hA (show E.2.2 ≤ _ by omega) rfl cv (ci := 6) rfl 2 rfl (by decide) (by decide) dX7_init_202 (fun H locs hnew hz1 ho hS => ?_)
  clear cv
  replace h0 := h0.kept (ho _ (by omega))
  replace hF := hF.put (a := 52) (Or.inr (Or.inl rfl)) ho
  replace hA := hnew
  clear hnew
  replace hz := hz1.trans hz
  clear hz1 ho
  refine lv_iinc (v := 3) (lv' := [(2, .int 3), (0, .ref E.2.2), (1, .int x)]) hx hb dX7_init_203 hl (k := 0) rfl (by decide) (by decide) rfl (fun ls hl => ?_)
  refine lv_goto (tgt := 184) hx hb dX7_init_206 (by decide) ?_
  refine lv_iload_n hx hb dX7_init_184 rfl (lv_at hl 0 rfl) ?_
  refine lv_bipush (v := 8) hx hb dX7_init_185 (by decide) ?_
  refine lv_icmp_ge (tgt := 209) hx hb dX7_init_187 (by decide) (fun hc => ?_) (fun hc => ?_)
  · exact absurd hc (by decide)
  clear hc
  refine lv_aload_n hx hb dX7_init_190 rfl (lv_at hl 1 rfl) ?_
  refine cx_get Cx hK q_X7 h0 rfl 11 (by decide) q_fl_X7_73 (v := .ref (E.2.2 + 52)) rfl dX7_init_191 ?_
  refine lv_iload_n hx hb dX7_init_194 rfl (lv_at hl 0 rfl) ?_
  refine cx_new Cx hK hS q_X6 tyX6 tyX6_ok q_cl_X7_71 q_is_X6 q_in_X6 (ci := 6) rfl (fs := [.null, .int 0, .int 0, .int 0, .long 0]) (fun j hj => by rcases (show j = 0 ∨ j = 1 ∨ j = 2 ∨ j = 3 ∨ j = 4 by omega) with rfl | rfl | rfl | rfl | rfl <;> rfl) (Nat.le_of_ble_eq_true rfl) (Nat.le_of_ble_eq_true rfl) dX7_init_195 hz (fun H hnew hz1 ho hS => ?_)
  replace h0 := h0.kept (ho _ (Nat.lt_of_lt_of_eq h0.lt hz))
  replace hF := hF.new hz ho
  replace hA := hA.kept (ho _ (Nat.lt_of_lt_of_eq hA.lt hz))
  replace hz : H.size = (E.2.2 + 72) := hz1
  clear hz1 ho
  have cn := hnew
  clear hnew
  refine lv_dup hx hb dX7_init_198 rfl ?_
  refine cx_callN Cx hK hS (B := fun _ => True) (rest := [.ref (E.2.2 + 71), .int 3, .ref (E.2.2 + 52)]) (fun _ _ _ _ h => h) (fun _ _ _ => trivial) (k_X6 l E (E.2.2 + 71) (E.2.2 + 72) (by omega)) ⟨rfl, rfl⟩ q_co_X6_init hNx.2.2.2.1 q_im_X6_init q_in_X6 rfl hd_X6_init ⟨(Nat.le_of_ble_eq_true rfl), (Nat.le_of_ble_eq_true rfl)⟩ rfl hl.1 rfl (Nat.le_of_ble_eq_true rfl) ⟨(Nat.le_of_ble_eq_true rfl), (Nat.le_of_ble_eq_true rfl)⟩ hz cn (fun q hq => by unfold cA at hq; unfold aU; omega) dX7_init_199 (fun H locs hres hz1 ho hS => ?_)
  refine W.eq (g2 := F0 m 202 ls [.ref (E.2.2 + 71), .int 3, .ref (E.2.2 + 52)]) rfl ?_
  replace h0 := h0.kept (ho _ (by omega) (by unfold cA; omega))
  replace hF := hF.call (a := 71) (by decide) (by omega) ho
  replace hA := hA.kept (ho _ (by omega) (by unfold cA; omega))
  clear cn
  obtain ⟨r0, r1, r2, r3, r4, r5⟩ := hres
  replace hz : H.size = (E.2.2 + 77) := hz1
  clear hz1 ho
  replace hF := hF.add (k := 26) (i := 3) (by decide +kernel) rfl (by rw [hW 26 3 (by simp [hsX, bX])]; exact r0)
  replace hF := hF.add (k := 22) (i := 7) (by decide +kernel) rfl (by rw [hW 22 7 (by simp [hsX, bX])]; exact r1)
  replace hF := hF.add (k := 23) (i := 7) (by decide +kernel) rfl (by rw [hW 23 7 (by simp [hsX, bX])]; exact r2)
  replace hF := hF.add (k := 24) (i := 7) (by decide +kernel) rfl (by rw [hW 24 7 (by simp [hsX, bX])]; exact r3)
  replace hF := hF.add (k := 2) (i := 10) (by decide +kernel) rfl (by rw [hW 2 10 (by simp [hsX, bX])]; exact r4)
  replace hF := hF.add (k := 3) (i := 10) (by decide +kernel) rfl (by rw [hW 3 10 (by simp [hsX, bX])]; exact r5)
  have cv := r0
  clear r0 r1 r2 r3 r4 r5
  refine cx_aast Cx hK hS (t0 := 6) hA (show E.2.2 ≤ _ by omega) rfl cv (ci := 6) rfl 3 rfl (by decide) (by decide) dX7_init_202 (fun H locs hnew hz1 ho hS => ?_)
  clear cv
  replace h0 := h0.kept (ho _ (by omega))
  replace hF := hF.put (a := 52) (Or.inr (Or.inl rfl)) ho
  replace hA := hnew
  clear hnew
  replace hz := hz1.trans hz
  clear hz1 ho
  refine lv_iinc (v := 4) (lv' := [(2, .int 4), (0, .ref E.2.2), (1, .int x)]) hx hb dX7_init_203 hl (k := 0) rfl (by decide) (by decide) rfl (fun ls hl => ?_)
  refine lv_goto (tgt := 184) hx hb dX7_init_206 (by decide) ?_
  refine lv_iload_n hx hb dX7_init_184 rfl (lv_at hl 0 rfl) ?_
  refine lv_bipush (v := 8) hx hb dX7_init_185 (by decide) ?_
  refine lv_icmp_ge (tgt := 209) hx hb dX7_init_187 (by decide) (fun hc => ?_) (fun hc => ?_)
  · exact absurd hc (by decide)
  clear hc
  refine lv_aload_n hx hb dX7_init_190 rfl (lv_at hl 1 rfl) ?_
  refine cx_get Cx hK q_X7 h0 rfl 11 (by decide) q_fl_X7_73 (v := .ref (E.2.2 + 52)) rfl dX7_init_191 ?_
  refine lv_iload_n hx hb dX7_init_194 rfl (lv_at hl 0 rfl) ?_
  refine cx_new Cx hK hS q_X6 tyX6 tyX6_ok q_cl_X7_71 q_is_X6 q_in_X6 (ci := 6) rfl (fs := [.null, .int 0, .int 0, .int 0, .long 0]) (fun j hj => by rcases (show j = 0 ∨ j = 1 ∨ j = 2 ∨ j = 3 ∨ j = 4 by omega) with rfl | rfl | rfl | rfl | rfl <;> rfl) (Nat.le_of_ble_eq_true rfl) (Nat.le_of_ble_eq_true rfl) dX7_init_195 hz (fun H hnew hz1 ho hS => ?_)
  replace h0 := h0.kept (ho _ (Nat.lt_of_lt_of_eq h0.lt hz))
  replace hF := hF.new hz ho
  replace hA := hA.kept (ho _ (Nat.lt_of_lt_of_eq hA.lt hz))
  replace hz : H.size = (E.2.2 + 78) := hz1
  clear hz1 ho
  have cn := hnew
  clear hnew
  refine lv_dup hx hb dX7_init_198 rfl ?_
  refine cx_callN Cx hK hS (B := fun _ => True) (rest := [.ref (E.2.2 + 77), .int 4, .ref (E.2.2 + 52)]) (fun _ _ _ _ h => h) (fun _ _ _ => trivial) (k_X6 l E (E.2.2 + 77) (E.2.2 + 78) (by omega)) ⟨rfl, rfl⟩ q_co_X6_init hNx.2.2.2.1 q_im_X6_init q_in_X6 rfl hd_X6_init ⟨(Nat.le_of_ble_eq_true rfl), (Nat.le_of_ble_eq_true rfl)⟩ rfl hl.1 rfl (Nat.le_of_ble_eq_true rfl) ⟨(Nat.le_of_ble_eq_true rfl), (Nat.le_of_ble_eq_true rfl)⟩ hz cn (fun q hq => by unfold cA at hq; unfold aU; omega) dX7_init_199 (fun H locs hres hz1 ho hS => ?_)
  refine W.eq (g2 := F0 m 202 ls [.ref (E.2.2 + 77), .int 4, .ref (E.2.2 + 52)]) rfl ?_
  replace h0 := h0.kept (ho _ (by omega) (by unfold cA; omega))
  replace hF := hF.call (a := 77) (by decide) (by omega) ho
  replace hA := hA.kept (ho _ (by omega) (by unfold cA; omega))
  clear cn
  obtain ⟨r0, r1, r2, r3, r4, r5⟩ := hres
  replace hz : H.size = (E.2.2 + 83) := hz1
  clear hz1 ho
  replace hF := hF.add (k := 26) (i := 4) (by decide +kernel) rfl (by rw [hW 26 4 (by simp [hsX, bX])]; exact r0)
  replace hF := hF.add (k := 22) (i := 8) (by decide +kernel) rfl (by rw [hW 22 8 (by simp [hsX, bX])]; exact r1)
  replace hF := hF.add (k := 23) (i := 8) (by decide +kernel) rfl (by rw [hW 23 8 (by simp [hsX, bX])]; exact r2)
  replace hF := hF.add (k := 24) (i := 8) (by decide +kernel) rfl (by rw [hW 24 8 (by simp [hsX, bX])]; exact r3)
  replace hF := hF.add (k := 2) (i := 11) (by decide +kernel) rfl (by rw [hW 2 11 (by simp [hsX, bX])]; exact r4)
  replace hF := hF.add (k := 3) (i := 11) (by decide +kernel) rfl (by rw [hW 3 11 (by simp [hsX, bX])]; exact r5)
  have cv := r0
  clear r0 r1 r2 r3 r4 r5
  refine cx_aast Cx hK hS (t0 := 6) hA (show E.2.2 ≤ _ by omega) rfl cv (ci := 6) rfl 4 rfl (by decide) (by decide) dX7_init_202 (fun H locs hnew hz1 ho hS => ?_)
  clear cv
  replace h0 := h0.kept (ho _ (by omega))
  replace hF := hF.put (a := 52) (Or.inr (Or.inl rfl)) ho
  replace hA := hnew
  clear hnew
  replace hz := hz1.trans hz
  clear hz1 ho
  refine lv_iinc (v := 5) (lv' := [(2, .int 5), (0, .ref E.2.2), (1, .int x)]) hx hb dX7_init_203 hl (k := 0) rfl (by decide) (by decide) rfl (fun ls hl => ?_)
  refine lv_goto (tgt := 184) hx hb dX7_init_206 (by decide) ?_
  refine lv_iload_n hx hb dX7_init_184 rfl (lv_at hl 0 rfl) ?_
  refine lv_bipush (v := 8) hx hb dX7_init_185 (by decide) ?_
  refine lv_icmp_ge (tgt := 209) hx hb dX7_init_187 (by decide) (fun hc => ?_) (fun hc => ?_)
  · exact absurd hc (by decide)
  clear hc
  refine lv_aload_n hx hb dX7_init_190 rfl (lv_at hl 1 rfl) ?_
  refine cx_get Cx hK q_X7 h0 rfl 11 (by decide) q_fl_X7_73 (v := .ref (E.2.2 + 52)) rfl dX7_init_191 ?_
  refine lv_iload_n hx hb dX7_init_194 rfl (lv_at hl 0 rfl) ?_
  refine cx_new Cx hK hS q_X6 tyX6 tyX6_ok q_cl_X7_71 q_is_X6 q_in_X6 (ci := 6) rfl (fs := [.null, .int 0, .int 0, .int 0, .long 0]) (fun j hj => by rcases (show j = 0 ∨ j = 1 ∨ j = 2 ∨ j = 3 ∨ j = 4 by omega) with rfl | rfl | rfl | rfl | rfl <;> rfl) (Nat.le_of_ble_eq_true rfl) (Nat.le_of_ble_eq_true rfl) dX7_init_195 hz (fun H hnew hz1 ho hS => ?_)
  replace h0 := h0.kept (ho _ (Nat.lt_of_lt_of_eq h0.lt hz))
  replace hF := hF.new hz ho
  replace hA := hA.kept (ho _ (Nat.lt_of_lt_of_eq hA.lt hz))
  replace hz : H.size = (E.2.2 + 84) := hz1
  clear hz1 ho
  have cn := hnew
  clear hnew
  refine lv_dup hx hb dX7_init_198 rfl ?_
  refine cx_callN Cx hK hS (B := fun _ => True) (rest := [.ref (E.2.2 + 83), .int 5, .ref (E.2.2 + 52)]) (fun _ _ _ _ h => h) (fun _ _ _ => trivial) (k_X6 l E (E.2.2 + 83) (E.2.2 + 84) (by omega)) ⟨rfl, rfl⟩ q_co_X6_init hNx.2.2.2.1 q_im_X6_init q_in_X6 rfl hd_X6_init ⟨(Nat.le_of_ble_eq_true rfl), (Nat.le_of_ble_eq_true rfl)⟩ rfl hl.1 rfl (Nat.le_of_ble_eq_true rfl) ⟨(Nat.le_of_ble_eq_true rfl), (Nat.le_of_ble_eq_true rfl)⟩ hz cn (fun q hq => by unfold cA at hq; unfold aU; omega) dX7_init_199 (fun H locs hres hz1 ho hS => ?_)
  refine W.eq (g2 := F0 m 202 ls [.ref (E.2.2 + 83), .int 5, .ref (E.2.2 + 52)]) rfl ?_
  replace h0 := h0.kept (ho _ (by omega) (by unfold cA; omega))
  replace hF := hF.call (a := 83) (by decide) (by omega) ho
  replace hA := hA.kept (ho _ (by omega) (by unfold cA; omega))
  clear cn
  obtain ⟨r0, r1, r2, r3, r4, r5⟩ := hres
  replace hz : H.size = (E.2.2 + 89) := hz1
  clear hz1 ho
  replace hF := hF.add (k := 26) (i := 5) (by decide +kernel) rfl (by rw [hW 26 5 (by simp [hsX, bX])]; exact r0)
  replace hF := hF.add (k := 22) (i := 9) (by decide +kernel) rfl (by rw [hW 22 9 (by simp [hsX, bX])]; exact r1)
  replace hF := hF.add (k := 23) (i := 9) (by decide +kernel) rfl (by rw [hW 23 9 (by simp [hsX, bX])]; exact r2)
  replace hF := hF.add (k := 24) (i := 9) (by decide +kernel) rfl (by rw [hW 24 9 (by simp [hsX, bX])]; exact r3)
  replace hF := hF.add (k := 2) (i := 12) (by decide +kernel) rfl (by rw [hW 2 12 (by simp [hsX, bX])]; exact r4)
  replace hF := hF.add (k := 3) (i := 12) (by decide +kernel) rfl (by rw [hW 3 12 (by simp [hsX, bX])]; exact r5)
  have cv := r0
  clear r0 r1 r2 r3 r4 r5
  refine cx_aast Cx hK hS (t0 := 6) hA (show E.2.2 ≤ _ by omega) rfl cv (ci := 6) rfl 5 rfl (by decide) (by decide) dX7_init_202 (fun H locs hnew hz1 ho hS => ?_)
  clear cv
  replace h0 := h0.kept (ho _ (by omega))
  replace hF := hF.put (a := 52) (Or.inr (Or.inl rfl)) ho
  replace hA := hnew
  clear hnew
  replace hz := hz1.trans hz
  clear hz1 ho
  refine lv_iinc (v := 6) (lv' := [(2, .int 6), (0, .ref E.2.2), (1, .int x)]) hx hb dX7_init_203 hl (k := 0) rfl (by decide) (by decide) rfl (fun ls hl => ?_)
  refine lv_goto (tgt := 184) hx hb dX7_init_206 (by decide) ?_
  refine lv_iload_n hx hb dX7_init_184 rfl (lv_at hl 0 rfl) ?_
  refine lv_bipush (v := 8) hx hb dX7_init_185 (by decide) ?_
  refine lv_icmp_ge (tgt := 209) hx hb dX7_init_187 (by decide) (fun hc => ?_) (fun hc => ?_)
  · exact absurd hc (by decide)
  clear hc
  refine lv_aload_n hx hb dX7_init_190 rfl (lv_at hl 1 rfl) ?_
  refine cx_get Cx hK q_X7 h0 rfl 11 (by decide) q_fl_X7_73 (v := .ref (E.2.2 + 52)) rfl dX7_init_191 ?_
  refine lv_iload_n hx hb dX7_init_194 rfl (lv_at hl 0 rfl) ?_
  refine cx_new Cx hK hS q_X6 tyX6 tyX6_ok q_cl_X7_71 q_is_X6 q_in_X6 (ci := 6) rfl (fs := [.null, .int 0, .int 0, .int 0, .long 0]) (fun j hj => by rcases (show j = 0 ∨ j = 1 ∨ j = 2 ∨ j = 3 ∨ j = 4 by omega) with rfl | rfl | rfl | rfl | rfl <;> rfl) (Nat.le_of_ble_eq_true rfl) (Nat.le_of_ble_eq_true rfl) dX7_init_195 hz (fun H hnew hz1 ho hS => ?_)
  replace h0 := h0.kept (ho _ (Nat.lt_of_lt_of_eq h0.lt hz))
  replace hF := hF.new hz ho
  replace hA := hA.kept (ho _ (Nat.lt_of_lt_of_eq hA.lt hz))
  replace hz : H.size = (E.2.2 + 90) := hz1
  clear hz1 ho
  have cn := hnew
  clear hnew
  refine lv_dup hx hb dX7_init_198 rfl ?_
  refine cx_callN Cx hK hS (B := fun _ => True) (rest := [.ref (E.2.2 + 89), .int 6, .ref (E.2.2 + 52)]) (fun _ _ _ _ h => h) (fun _ _ _ => trivial) (k_X6 l E (E.2.2 + 89) (E.2.2 + 90) (by omega)) ⟨rfl, rfl⟩ q_co_X6_init hNx.2.2.2.1 q_im_X6_init q_in_X6 rfl hd_X6_init ⟨(Nat.le_of_ble_eq_true rfl), (Nat.le_of_ble_eq_true rfl)⟩ rfl hl.1 rfl (Nat.le_of_ble_eq_true rfl) ⟨(Nat.le_of_ble_eq_true rfl), (Nat.le_of_ble_eq_true rfl)⟩ hz cn (fun q hq => by unfold cA at hq; unfold aU; omega) dX7_init_199 (fun H locs hres hz1 ho hS => ?_)
  refine W.eq (g2 := F0 m 202 ls [.ref (E.2.2 + 89), .int 6, .ref (E.2.2 + 52)]) rfl ?_
  replace h0 := h0.kept (ho _ (by omega) (by unfold cA; omega))
  replace hF := hF.call (a := 89) (by decide) (by omega) ho
  replace hA := hA.kept (ho _ (by omega) (by unfold cA; omega))
  clear cn
  obtain ⟨r0, r1, r2, r3, r4, r5⟩ := hres
  replace hz : H.size = (E.2.2 + 95) := hz1
  clear hz1 ho
  replace hF := hF.add (k := 26) (i := 6) (by decide +kernel) rfl (by rw [hW 26 6 (by simp [hsX, bX])]; exact r0)
  replace hF := hF.add (k := 22) (i := 10) (by decide +kernel) rfl (by rw [hW 22 10 (by simp [hsX, bX])]; exact r1)
  replace hF := hF.add (k := 23) (i := 10) (by decide +kernel) rfl (by rw [hW 23 10 (by simp [hsX, bX])]; exact r2)
  replace hF := hF.add (k := 24) (i := 10) (by decide +kernel) rfl (by rw [hW 24 10 (by simp [hsX, bX])]; exact r3)
  replace hF := hF.add (k := 2) (i := 13) (by decide +kernel) rfl (by rw [hW 2 13 (by simp [hsX, bX])]; exact r4)
  replace hF := hF.add (k := 3) (i := 13) (by decide +kernel) rfl (by rw [hW 3 13 (by simp [hsX, bX])]; exact r5)
  have cv := r0
  clear r0 r1 r2 r3 r4 r5
  refine cx_aast Cx hK hS (t0 := 6) hA (show E.2.2 ≤ _ by omega) rfl cv (ci := 6) rfl 6 rfl (by decide) (by decide) dX7_init_202 (fun H locs hnew hz1 ho hS => ?_)
  clear cv
  replace h0 := h0.kept (ho _ (by omega))
  replace hF := hF.put (a := 52) (Or.inr (Or.inl rfl)) ho
  replace hA := hnew
  clear hnew
  replace hz := hz1.trans hz
  clear hz1 ho
  refine lv_iinc (v := 7) (lv' := [(2, .int 7), (0, .ref E.2.2), (1, .int x)]) hx hb dX7_init_203 hl (k := 0) rfl (by decide) (by decide) rfl (fun ls hl => ?_)
  refine lv_goto (tgt := 184) hx hb dX7_init_206 (by decide) ?_
  refine lv_iload_n hx hb dX7_init_184 rfl (lv_at hl 0 rfl) ?_
  refine lv_bipush (v := 8) hx hb dX7_init_185 (by decide) ?_
  refine lv_icmp_ge (tgt := 209) hx hb dX7_init_187 (by decide) (fun hc => ?_) (fun hc => ?_)
  · exact absurd hc (by decide)
  clear hc
  refine lv_aload_n hx hb dX7_init_190 rfl (lv_at hl 1 rfl) ?_
  refine cx_get Cx hK q_X7 h0 rfl 11 (by decide) q_fl_X7_73 (v := .ref (E.2.2 + 52)) rfl dX7_init_191 ?_
  refine lv_iload_n hx hb dX7_init_194 rfl (lv_at hl 0 rfl) ?_
  refine cx_new Cx hK hS q_X6 tyX6 tyX6_ok q_cl_X7_71 q_is_X6 q_in_X6 (ci := 6) rfl (fs := [.null, .int 0, .int 0, .int 0, .long 0]) (fun j hj => by rcases (show j = 0 ∨ j = 1 ∨ j = 2 ∨ j = 3 ∨ j = 4 by omega) with rfl | rfl | rfl | rfl | rfl <;> rfl) (Nat.le_of_ble_eq_true rfl) (Nat.le_of_ble_eq_true rfl) dX7_init_195 hz (fun H hnew hz1 ho hS => ?_)
  replace h0 := h0.kept (ho _ (Nat.lt_of_lt_of_eq h0.lt hz))
  replace hF := hF.new hz ho
  replace hA := hA.kept (ho _ (Nat.lt_of_lt_of_eq hA.lt hz))
  replace hz : H.size = (E.2.2 + 96) := hz1
  clear hz1 ho
  have cn := hnew
  clear hnew
  refine lv_dup hx hb dX7_init_198 rfl ?_
  refine cx_callN Cx hK hS (B := fun _ => True) (rest := [.ref (E.2.2 + 95), .int 7, .ref (E.2.2 + 52)]) (fun _ _ _ _ h => h) (fun _ _ _ => trivial) (k_X6 l E (E.2.2 + 95) (E.2.2 + 96) (by omega)) ⟨rfl, rfl⟩ q_co_X6_init hNx.2.2.2.1 q_im_X6_init q_in_X6 rfl hd_X6_init ⟨(Nat.le_of_ble_eq_true rfl), (Nat.le_of_ble_eq_true rfl)⟩ rfl hl.1 rfl (Nat.le_of_ble_eq_true rfl) ⟨(Nat.le_of_ble_eq_true rfl), (Nat.le_of_ble_eq_true rfl)⟩ hz cn (fun q hq => by unfold cA at hq; unfold aU; omega) dX7_init_199 (fun H locs hres hz1 ho hS => ?_)
  refine W.eq (g2 := F0 m 202 ls [.ref (E.2.2 + 95), .int 7, .ref (E.2.2 + 52)]) rfl ?_
  replace h0 := h0.kept (ho _ (by omega) (by unfold cA; omega))
  replace hF := hF.call (a := 95) (by decide) (by omega) ho
  replace hA := hA.kept (ho _ (by omega) (by unfold cA; omega))
  clear cn
  obtain ⟨r0, r1, r2, r3, r4, r5⟩ := hres
  replace hz : H.size = (E.2.2 + 101) := hz1
  clear hz1 ho
  replace hF := hF.add (k := 26) (i := 7) (by decide +kernel) rfl (by rw [hW 26 7 (by simp [hsX, bX])]; exact r0)
  replace hF := hF.add (k := 22) (i := 11) (by decide +kernel) rfl (by rw [hW 22 11 (by simp [hsX, bX])]; exact r1)
  replace hF := hF.add (k := 23) (i := 11) (by decide +kernel) rfl (by rw [hW 23 11 (by simp [hsX, bX])]; exact r2)
  replace hF := hF.add (k := 24) (i := 11) (by decide +kernel) rfl (by rw [hW 24 11 (by simp [hsX, bX])]; exact r3)
  replace hF := hF.add (k := 2) (i := 14) (by decide +kernel) rfl (by rw [hW 2 14 (by simp [hsX, bX])]; exact r4)
  replace hF := hF.add (k := 3) (i := 14) (by decide +kernel) rfl (by rw [hW 3 14 (by simp [hsX, bX])]; exact r5)
  have cv := r0
  clear r0 r1 r2 r3 r4 r5
  refine cx_aast Cx hK hS (t0 := 6) hA (show E.2.2 ≤ _ by omega) rfl cv (ci := 6) rfl 7 rfl (by decide) (by decide) dX7_init_202 (fun H locs hnew hz1 ho hS => ?_)
  clear cv
  replace h0 := h0.kept (ho _ (by omega))
  replace hF := hF.put (a := 52) (Or.inr (Or.inl rfl)) ho
  replace hA := hnew
  clear hnew
  replace hz := hz1.trans hz
  clear hz1 ho
  refine lv_iinc (v := 8) (lv' := [(2, .int 8), (0, .ref E.2.2), (1, .int x)]) hx hb dX7_init_203 hl (k := 0) rfl (by decide) (by decide) rfl (fun ls hl => ?_)
  refine lv_goto (tgt := 184) hx hb dX7_init_206 (by decide) ?_
  refine lv_iload_n hx hb dX7_init_184 rfl (lv_at hl 0 rfl) ?_
  refine lv_bipush (v := 8) hx hb dX7_init_185 (by decide) ?_
  refine lv_icmp_ge (tgt := 209) hx hb dX7_init_187 (by decide) (fun hc => ?_) (fun hc => ?_)
  rotate_left
  · exact absurd (by decide) hc
  clear hc
  replace hF := hF.fill (k := 25) (i := 0) (by decide +kernel) rfl (by
    rw [hW 25 0 (by simp [hsX, bX])]
    refine Eq.trans (show H[E.2.2 + 52]? = some (vp_cell _ _) from hA) (congrArg some ?_)
    rw [vp_cell_q]
    exact arrV_cg _ 8 _ _ (fun j hj => by rcases (show j = 0 ∨ j = 1 ∨ j = 2 ∨ j = 3 ∨ j = 4 ∨ j = 5 ∨ j = 6 ∨ j = 7 by omega) with rfl | rfl | rfl | rfl | rfl | rfl | rfl | rfl <;> rfl))
  clear hA
  replace h0 : cAt E (mAdC E 0 0) (mWC E S1 0 0) H := by rw [hW 0 0 (by simp [hsX, bX])]; exact h0
  have hH : mHold mLC E S1 H := hF.all h0
  clear hF h0 hz
  have hO := ownU E
  refine lv_aload_n hx hb dX7_init_209 rfl (lv_at hl 1 rfl) ?_
  refine lv_aload_n hx hb dX7_init_210 rfl (lv_at hl 1 rfl) ?_
  refine g_X7_theKey Cx hG hH q_fl_X7_37 dX7_init_211 ?_
  refine mv_callV (Y := mLC) (C := RX7) (k := 0) (i := 0) (rest := []) Cx hG hH hS (c_X7_hashNothing l E (aU E) hO S1 11 0 isC_11) q_co_X7_hashNothing q_ml_X7_78 q_im_X7_hashNothing q_se_X7_hashNothing q_in_X7 okC_0 rfl rfl hd_X7_hashNothing ⟨Nat.le_of_ble_eq_true rfl, Nat.le_of_ble_eq_true rfl⟩ rfl hl.1 rfl (Nat.le_of_ble_eq_true rfl) ⟨Nat.le_of_ble_eq_true rfl, Nat.le_of_ble_eq_true rfl⟩ dX7_init_214 (fun S214 H locs hP214 hH hS => ?_)
  refine W.eq (g2 := F0 m 217 ls []) rfl ?_
  refine lv_aload_n hx hb dX7_init_217 rfl (lv_at hl 1 rfl) ?_
  refine lv_aload_n hx hb dX7_init_218 rfl (lv_at hl 1 rfl) ?_
  refine g_X7_ownerAuth Cx hG hH q_fl_X7_41 dX7_init_219 ?_
  refine mv_callV (Y := mLC) (C := RX7) (k := 0) (i := 0) (rest := []) Cx hG hH hS (c_X7_hashNothing l E (aU E) hO S214 12 0 isC_12) q_co_X7_hashNothing q_ml_X7_78 q_im_X7_hashNothing q_se_X7_hashNothing q_in_X7 okC_0 rfl rfl hd_X7_hashNothing ⟨Nat.le_of_ble_eq_true rfl, Nat.le_of_ble_eq_true rfl⟩ rfl hl.1 rfl (Nat.le_of_ble_eq_true rfl) ⟨Nat.le_of_ble_eq_true rfl, Nat.le_of_ble_eq_true rfl⟩ dX7_init_222 (fun S222 H locs hP222 hH hS => ?_)
  refine W.eq (g2 := F0 m 225 ls []) rfl ?_
  refine cx_sz (fun hle => ?_)
  have hl100 : E.2.2 + 100 < H.size := (mHold_at hH (show (3, 14) ∈ mPC by decide +kernel)).lt
  have hle : H.size ≤ s.heap.size + 100 := hle
  rw [hz00] at hle
  have hzf : H.size = E.2.2 + 1 + 100 := Nat.le_antisymm hle (show E.2.2 + 1 + 100 ≤ H.size by rw [Nat.add_assoc]; exact hl100)
  have f8 : ∀ j, j < 32 → S222.2.1 8 0 j = shaL (sdL x) j := fun j hj => ((hP222.2 8 0 (by simp [scX, hsX, bX])).2.1 j).trans (((hP214.2 8 0 (by simp [scX, hsX, bX])).2.1 j).trans (hsd j hj))
  have f11 : ∀ j, j < 32 → S222.2.1 11 0 j = shaL [] j := fun j hj => ((hP222.2 11 0 (by simp [scX, hsX, bX])).2.1 j).trans (hP214.1 j hj)
  have fS : mSame (fun k i => scX k i ∨ k = 8 ∨ k = 11 ∨ k = 12) mS0 S222 := ((hsm.wk (fun k i h => by simp only [scX, hsX, bX] at h ⊢; omega)).tr (hP214.2.wk (fun k i h => by simp only [scX, hsX, bX] at h ⊢; omega))).tr (hP222.2.wk (fun k i h => by simp only [scX, hsX, bX] at h ⊢; omega))
  refine W.widen (k := 100) (n := 3855) (Nat.le_of_ble_eq_true rfl) (Nat.le_of_ble_eq_true rfl) ?_
  exact cx_ret Cx hr hS hzf ⟨S222, hH, f8, f11, hP222.1, fS⟩ dX7_init_225 hlocks
