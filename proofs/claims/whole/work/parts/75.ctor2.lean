/-! ===== the secret's constructor ===== -/
def mS0 : mSt := (fun _ _ _ => 0, fun _ _ _ => 0, fun _ _ _ => 0)
def mHL : List (Nat × Nat) := [(1, 0), (2, 2), (3, 2), (4, 0), (5, 0), (6, 0)]
def aP (E : mEv) : Nat → Prop := fun q => E.2.2 + 1 ≤ q ∧ q ≤ E.2.2 + 10
def sdL (x : Int32) : List Int8 := [] ++ [(83 : Int32).toInt8] ++ [(69 : Int32).toInt8] ++ [(69 : Int32).toInt8] ++ [(68 : Int32).toInt8] ++ w4 x
theorem mHold_of {Y : mLY} {E : mEv} {S : mSt} {H : Heap} (h : ∀ q ∈ Y.1, cAt E (Y.2.1 E q.1 q.2) (Y.2.2 E S q.1 q.2) H) : mHold Y E S H := by
  intro k q hk
  obtain ⟨q0, h1, h2⟩ := List.mem_map.mp (List.mem_of_getElem? hk)
  rw [← h2]
  exact h q0 h1
theorem mHold_at {Y : mLY} {E : mEv} {S : mSt} {H : Heap} (h : mHold Y E S H) {k i : Nat} (hm : (k, i) ∈ Y.1) : cAt E (Y.2.1 E k i) (Y.2.2 E S k i) H := by
  obtain ⟨q0, hq⟩ := mWl_find hm
  exact h q0 _ (mWl_at hq)
theorem mNdN {l : List Nat} (h : l.Nodup) {a b q : Nat} (ha : l[a]? = some q) (hb : l[b]? = some q) : a = b := by
  have hp := List.pairwise_iff_getElem.mp h
  obtain ⟨la, ea⟩ := List.getElem?_eq_some_iff.mp ha
  obtain ⟨lb, eb⟩ := List.getElem?_eq_some_iff.mp hb
  rcases Nat.lt_trichotomy a b with g | g | g
  · exact absurd (ea.trans eb.symm) (hp a b la lb g)
  · exact g
  · exact absurd (eb.trans ea.symm) (hp b a lb la g)
theorem own_of {Y : mLY} {E : mEv} {A : Nat → Prop} (off : Nat × Nat → Nat) (hg : mGood Y) (had : ∀ q, Y.2.1 E q.1 q.2 = E.2.2 + off q) (hnd : (Y.1.map off).Nodup) (hA : ∀ q ∈ Y.1, A (E.2.2 + off q)) : mOwn Y E A := by
  have key : ∀ (S : mSt) (i : Nat) (p : Nat × va_E), (mWl Y E S)[i]? = some p → ∃ q ∈ Y.1, p.1 = E.2.2 + off q ∧ (Y.1.map off)[i]? = some (off q) := by
    intro S i p hp
    rw [mWl, List.getElem?_map] at hp
    cases hq : Y.1[i]? with
    | none => rw [hq] at hp; cases hp
    | some q =>
      rw [hq] at hp
      cases hp
      exact ⟨q, List.mem_of_getElem? hq, had q, by rw [List.getElem?_map, hq]; rfl⟩
  refine ⟨hg, fun S => ⟨fun i j p q hi hj e => ?_, fun k q hk => ?_⟩⟩
  · obtain ⟨q1, -, e1, g1⟩ := key S i p hi
    obtain ⟨q2, -, e2, g2⟩ := key S j q hj
    have h : off q1 = off q2 := by omega
    rw [h] at g1
    exact mNdN hnd g1 g2
  · obtain ⟨q1, h1, e1, -⟩ := key S k q hk
    rw [e1]
    exact hA q1 h1
theorem cx_sz {p : Program} {l : Launch} {e : Env} {R : Room} {s : State} {m : MethodId} {args : Array Value} {below : List Frame} {meth : Method} {c : Code} {H : Heap} {locs : List Loc} {cells slots : Nat} {Q : State → Prop} {g : JFrame} (kk : H.size ≤ s.heap.size + cells → W p l e R s m args below meth c H locs cells slots Q g) : W p l e R s m args below meth c H locs cells slots Q g := fun T hT X => kk (by rw [← hT]; exact X.heapSize) T hT X
theorem ownP (E : mEv) : mOwn mLP E (aP E) := own_of (fun q => mOff q.1 q.2) mGoodP (fun _ => rfl) (by decide) (fun q hq => by
  have h := (show ∀ q ∈ mPP, 1 ≤ mOff q.1 q.2 ∧ mOff q.1 q.2 ≤ 10 by decide) q hq
  exact ⟨by omega, by omega⟩)
set_option maxHeartbeats 4000000 in
set_option maxRecDepth 100000 in
theorem k_X3 (l : Launch) (E : mEv) (x : Int32) : Met l yX3_init (Cond.code yX3_init cX3_init 4 none :: mv_ws) ({ frames := 3, cells := 3, slots := 96, locals := 69 } : Room) (cPr E (fun U => mG E (aP E) U) (E.2.2 + 8) (fun H => cAt E (E.2.2 + 7) (.inr (3, [.null, .null, .null, .null, .int 0])) H ∧ ∀ q, q ∈ mHL → cAt E (mAdC E q.1 q.2) (mWC E mS0 q.1 q.2) H) [.ref (E.2.2 + 7), .ref (mAdC E 1 0), .int x]) (cPo (aP E) (E.2.2 + 8) 3 (fun H => ∃ S', mHold mLP E S' H ∧ (∀ j, j < 32 → S'.2.1 8 0 j = shaL (sdL x) j) ∧ mSame (fun k i => hsX k i ∨ (k = 8 ∧ i = 0)) mS0 S')) 3 96 (aP E) := by
  refine Met.ofW (cc := cX3_init) (maxL := 4) (ret := none) (by decide) rfl ?_
  intro p e s m args below meth c s₁ B hml hv
  obtain ⟨rfl, ⟨hK, hBB⟩, hz, h0⟩ := hv
  have hx := B.exec
  have hb := B.bytes
  have hr := B.returns
  have hlocks := B.notSynchronized
  have hin2 : meth.name = "<init>" := (name_of_methodNamed B.named B.method).1
  have Cx : CallFix p m c cX3_init 4 s ([.ref (E.2.2 + 7), .ref (mAdC E 1 0), .int x] : List Value).toArray (Cond.code yX3_init cX3_init 4 none :: mv_ws) RX3 := ⟨hx, hb, hml, findClass_of_methodNamed B.named, atoms_spec (ws := Cond.code yX3_init cX3_init 4 none :: mv_ws) B.pre⟩
  have hS : va_S (aP E) s.heap s.heap [] := va_S.rf
  obtain ⟨h0, hq⟩ := h0
  have hne : ∀ q, q ∈ mHL → mAdC E q.1 q.2 ≠ E.2.2 + 7 := fun q hm => by
    have h := (show ∀ q ∈ mHL, mOff q.1 q.2 < 7 by decide) q hm
    unfold mAdC
    omega
  have hl := lv_entry ([.ref (E.2.2 + 7), .ref (mAdC E 1 0), .int x]) (n := 4) (Nat.le_of_ble_eq_true rfl)
  rw [lg_entry_eq]
  generalize (lg_sl ([.ref (E.2.2 + 7), .ref (mAdC E 1 0), .int x]) ++ List.replicate (4 - (lg_sl ([.ref (E.2.2 + 7), .ref (mAdC E 1 0), .int x])).length) Slot.unset).toArray = ls at hl ⊢
  have hl : lv_has ls 4 [(0, .ref (E.2.2 + 7)), (1, .ref (mAdC E 1 0)), (2, .int x)] := hl
  have hz : s.heap.size = E.2.2 + 8 := hz
  have hz00 := hz
  refine lv_aload_n hx hb dX3_init_0 rfl (lv_at hl 0 rfl) ?_
  refine cx_obj Cx q_ml_X3_3 hl.1 ⟨(Nat.le_of_ble_eq_true rfl), (Nat.le_of_ble_eq_true rfl)⟩ dX3_init_1 ?_
  refine lv_aload_n hx hb dX3_init_4 rfl (lv_at hl 0 rfl) ?_
  refine lv_bipush (v := 32) hx hb dX3_init_5 (by decide) ?_
  refine cx_newa Cx hK hS (ty := .byte) rfl 0 rfl rfl q_ac_byte (N := 32) (f := .inl (fun _ => 0)) rfl (by decide) rfl (by decide) (Nat.le_of_ble_eq_true rfl) (Nat.le_of_ble_eq_true rfl) dX3_init_7 hz (fun H hnew hz1 ho hS => ?_)
  have hzo := hz
  have h0 := h0.kept (ho _ (Nat.lt_of_lt_of_eq h0.lt hzo))
  have hq := fun q hm => (hq q hm).kept (ho _ (Nat.lt_of_lt_of_eq (hq q hm).lt hzo))
  have c1 : cAt E (E.2.2 + 8) (.inl (E.2.1 0, 32, .inl (fun _ => 0))) H := hnew
  have hz : H.size = (E.2.2 + 8 + 1) := hz1
  clear hz1 ho hzo hnew
  refine cx_putF Cx hK hS q_X3 tyX3 tyX3_ok nmX3 h0 ⟨by omega, by omega⟩ rfl 1 (by decide) q_fl_X3_9 rfl hin2 rfl (ty := tyX3 1) (tyX3_ok 1 (by decide)) rfl rfl (Nat.le_of_ble_eq_true rfl) dX3_init_9 (fun H locs h0 hz1 ho hS => ?_)
  have h0 : cAt E (E.2.2 + 7) (.inr (3, [.null, .ref (E.2.2 + 8), .null, .null, .int 0])) H := h0
  have hq := fun q hm => (hq q hm).kept (ho _ (hne q hm))
  have c1 := c1.kept (ho _ (by omega))
  have hz : H.size = (E.2.2 + 8 + 1) := hz1.trans hz
  clear hz1 ho
  refine lv_aload_n hx hb dX3_init_12 rfl (lv_at hl 0 rfl) ?_
  refine lv_bipush (v := 32) hx hb dX3_init_13 (by decide) ?_
  refine cx_newa Cx hK hS (ty := .byte) rfl 0 rfl rfl q_ac_byte (N := 32) (f := .inl (fun _ => 0)) rfl (by decide) rfl (by decide) (Nat.le_of_ble_eq_true rfl) (Nat.le_of_ble_eq_true rfl) dX3_init_15 hz (fun H hnew hz1 ho hS => ?_)
  have hzo := hz
  have c1 := c1.kept (ho _ (Nat.lt_of_lt_of_eq c1.lt hzo))
  have h0 := h0.kept (ho _ (Nat.lt_of_lt_of_eq h0.lt hzo))
  have hq := fun q hm => (hq q hm).kept (ho _ (Nat.lt_of_lt_of_eq (hq q hm).lt hzo))
  have c2 : cAt E (E.2.2 + 8 + 1) (.inl (E.2.1 0, 32, .inl (fun _ => 0))) H := hnew
  have hz : H.size = (E.2.2 + 8 + 2) := hz1
  clear hz1 ho hzo hnew
  refine cx_putF Cx hK hS q_X3 tyX3 tyX3_ok nmX3 h0 ⟨by omega, by omega⟩ rfl 2 (by decide) q_fl_X3_15 rfl hin2 rfl (ty := tyX3 2) (tyX3_ok 2 (by decide)) rfl rfl (Nat.le_of_ble_eq_true rfl) dX3_init_17 (fun H locs h0 hz1 ho hS => ?_)
  have h0 : cAt E (E.2.2 + 7) (.inr (3, [.null, .ref (E.2.2 + 8), .ref (E.2.2 + 8 + 1), .null, .int 0])) H := h0
  have hq := fun q hm => (hq q hm).kept (ho _ (hne q hm))
  have c1 := c1.kept (ho _ (by omega))
  have c2 := c2.kept (ho _ (by omega))
  have hz : H.size = (E.2.2 + 8 + 2) := hz1.trans hz
  clear hz1 ho
  refine lv_aload_n hx hb dX3_init_20 rfl (lv_at hl 0 rfl) ?_
  refine lv_bipush (v := 32) hx hb dX3_init_21 (by decide) ?_
  refine cx_newa Cx hK hS (ty := .byte) rfl 0 rfl rfl q_ac_byte (N := 32) (f := .inl (fun _ => 0)) rfl (by decide) rfl (by decide) (Nat.le_of_ble_eq_true rfl) (Nat.le_of_ble_eq_true rfl) dX3_init_23 hz (fun H hnew hz1 ho hS => ?_)
  have hzo := hz
  have c1 := c1.kept (ho _ (Nat.lt_of_lt_of_eq c1.lt hzo))
  have c2 := c2.kept (ho _ (Nat.lt_of_lt_of_eq c2.lt hzo))
  have h0 := h0.kept (ho _ (Nat.lt_of_lt_of_eq h0.lt hzo))
  have hq := fun q hm => (hq q hm).kept (ho _ (Nat.lt_of_lt_of_eq (hq q hm).lt hzo))
  have c3 : cAt E (E.2.2 + 8 + 2) (.inl (E.2.1 0, 32, .inl (fun _ => 0))) H := hnew
  have hz : H.size = (E.2.2 + 8 + 3) := hz1
  clear hz1 ho hzo hnew
  refine cx_putF Cx hK hS q_X3 tyX3 tyX3_ok nmX3 h0 ⟨by omega, by omega⟩ rfl 3 (by decide) q_fl_X3_18 rfl hin2 rfl (ty := tyX3 3) (tyX3_ok 3 (by decide)) rfl rfl (Nat.le_of_ble_eq_true rfl) dX3_init_25 (fun H locs h0 hz1 ho hS => ?_)
  have h0 : cAt E (E.2.2 + 7) (.inr (3, [.null, .ref (E.2.2 + 8), .ref (E.2.2 + 8 + 1), .ref (E.2.2 + 8 + 2), .int 0])) H := h0
  have hq := fun q hm => (hq q hm).kept (ho _ (hne q hm))
  have c1 := c1.kept (ho _ (by omega))
  have c2 := c2.kept (ho _ (by omega))
  have c3 := c3.kept (ho _ (by omega))
  have hz : H.size = (E.2.2 + 8 + 3) := hz1.trans hz
  clear hz1 ho
  refine lv_aload_n hx hb dX3_init_28 rfl (lv_at hl 0 rfl) ?_
  refine lv_aload_n hx hb dX3_init_29 rfl (lv_at hl 1 rfl) ?_
  refine cx_putF Cx hK hS q_X3 tyX3 tyX3_ok nmX3 h0 ⟨by omega, by omega⟩ rfl 0 (by decide) q_fl_X3_21 rfl hin2 rfl (ty := tyX3 0) (tyX3_ok 0 (by decide)) rfl rfl (Nat.le_of_ble_eq_true rfl) dX3_init_30 (fun H locs h0 hz1 ho hS => ?_)
  have h0 : cAt E (E.2.2 + 7) (.inr (3, [.ref (mAdC E 1 0), .ref (E.2.2 + 8), .ref (E.2.2 + 8 + 1), .ref (E.2.2 + 8 + 2), .int 0])) H := h0
  have hq := fun q hm => (hq q hm).kept (ho _ (hne q hm))
  have c1 := c1.kept (ho _ (by omega))
  have c2 := c2.kept (ho _ (by omega))
  have c3 := c3.kept (ho _ (by omega))
  have hz : H.size = (E.2.2 + 8 + 3) := hz1.trans hz
  clear hz1 ho
  have hH : mHold mLP E mS0 H := mHold_of (List.forall_mem_cons.mpr ⟨hq (1, 0) (by decide), List.forall_mem_cons.mpr ⟨hq (2, 2) (by decide), List.forall_mem_cons.mpr ⟨hq (3, 2) (by decide), List.forall_mem_cons.mpr ⟨hq (4, 0) (by decide), List.forall_mem_cons.mpr ⟨hq (5, 0) (by decide), List.forall_mem_cons.mpr ⟨hq (6, 0) (by decide), List.forall_mem_cons.mpr ⟨h0, List.forall_mem_cons.mpr ⟨c1, List.forall_mem_cons.mpr ⟨c2, List.forall_mem_cons.mpr ⟨c3, fun _ h => absurd h List.not_mem_nil⟩⟩⟩⟩⟩⟩⟩⟩⟩⟩)
  have hG := hBB
  have hO := ownP E
  refine lv_aload_n hx hb dX3_init_33 rfl (lv_at hl 1 rfl) ?_
  refine mv_callV (Y := mLP) (C := RX1) (k := 1) (i := 0) (rest := []) Cx hG hH hS (d_X1_begin l E (aP E) hO mS0) q_co_X1_begin q_ml_X3_25 q_im_X1_begin q_se_X1_begin q_in_X1 okP_1 rfl rfl hd_X1_begin ⟨Nat.le_of_ble_eq_true rfl, Nat.le_of_ble_eq_true rfl⟩ rfl hl.1 rfl (Nat.le_of_ble_eq_true rfl) ⟨Nat.le_of_ble_eq_true rfl, Nat.le_of_ble_eq_true rfl⟩ dX3_init_34 (fun S34 H locs hP34 hH hS => ?_)
  refine W.eq (g2 := F0 m 37 ls [.ref (mAdC E 2 2)]) rfl ?_
  refine lv_astore_n (lv' := [(3, .ref (mAdC E 2 2)), (0, .ref (E.2.2 + 7)), (1, .ref (mAdC E 1 0)), (2, .int x)]) hx hb dX3_init_37 rfl hl (by decide) rfl (fun ls hl => ?_)
  refine lv_aload_n hx hb dX3_init_38 rfl (lv_at hl 0 rfl) ?_
  refine lv_bipush (v := 83) hx hb dX3_init_39 (by decide) ?_
  refine mv_callV (Y := mLP) (C := RX0) (k := 2) (i := 2) (rest := []) Cx hG hH hS (d_X0_put l E (aP E) hO S34 2 rfl _ hP34.1 83 (by rw [mLn_2]; simp)) q_co_X0_put q_ml_X3_31 q_im_X0_put q_se_X0_put q_in_X0 (okP_2 rfl) rfl rfl hd_X0_put ⟨Nat.le_of_ble_eq_true rfl, Nat.le_of_ble_eq_true rfl⟩ rfl hl.1 rfl (Nat.le_of_ble_eq_true rfl) ⟨Nat.le_of_ble_eq_true rfl, Nat.le_of_ble_eq_true rfl⟩ dX3_init_41 (fun S41 H locs hP41 hH hS => ?_)
  refine W.eq (g2 := F0 m 44 ls []) rfl ?_
  refine lv_aload_n hx hb dX3_init_44 rfl (lv_at hl 0 rfl) ?_
  refine lv_bipush (v := 69) hx hb dX3_init_45 (by decide) ?_
  refine mv_callV (Y := mLP) (C := RX0) (k := 2) (i := 2) (rest := []) Cx hG hH hS (d_X0_put l E (aP E) hO S41 2 rfl _ hP41.1 69 (by rw [mLn_2]; simp)) q_co_X0_put q_ml_X3_31 q_im_X0_put q_se_X0_put q_in_X0 (okP_2 rfl) rfl rfl hd_X0_put ⟨Nat.le_of_ble_eq_true rfl, Nat.le_of_ble_eq_true rfl⟩ rfl hl.1 rfl (Nat.le_of_ble_eq_true rfl) ⟨Nat.le_of_ble_eq_true rfl, Nat.le_of_ble_eq_true rfl⟩ dX3_init_47 (fun S47 H locs hP47 hH hS => ?_)
  refine W.eq (g2 := F0 m 50 ls []) rfl ?_
  refine lv_aload_n hx hb dX3_init_50 rfl (lv_at hl 0 rfl) ?_
  refine lv_bipush (v := 69) hx hb dX3_init_51 (by decide) ?_
  refine mv_callV (Y := mLP) (C := RX0) (k := 2) (i := 2) (rest := []) Cx hG hH hS (d_X0_put l E (aP E) hO S47 2 rfl _ hP47.1 69 (by rw [mLn_2]; simp)) q_co_X0_put q_ml_X3_31 q_im_X0_put q_se_X0_put q_in_X0 (okP_2 rfl) rfl rfl hd_X0_put ⟨Nat.le_of_ble_eq_true rfl, Nat.le_of_ble_eq_true rfl⟩ rfl hl.1 rfl (Nat.le_of_ble_eq_true rfl) ⟨Nat.le_of_ble_eq_true rfl, Nat.le_of_ble_eq_true rfl⟩ dX3_init_53 (fun S53 H locs hP53 hH hS => ?_)
  refine W.eq (g2 := F0 m 56 ls []) rfl ?_
  refine lv_aload_n hx hb dX3_init_56 rfl (lv_at hl 0 rfl) ?_
  refine lv_bipush (v := 68) hx hb dX3_init_57 (by decide) ?_
  refine mv_callV (Y := mLP) (C := RX0) (k := 2) (i := 2) (rest := []) Cx hG hH hS (d_X0_put l E (aP E) hO S53 2 rfl _ hP53.1 68 (by rw [mLn_2]; simp)) q_co_X0_put q_ml_X3_31 q_im_X0_put q_se_X0_put q_in_X0 (okP_2 rfl) rfl rfl hd_X0_put ⟨Nat.le_of_ble_eq_true rfl, Nat.le_of_ble_eq_true rfl⟩ rfl hl.1 rfl (Nat.le_of_ble_eq_true rfl) ⟨Nat.le_of_ble_eq_true rfl, Nat.le_of_ble_eq_true rfl⟩ dX3_init_59 (fun S59 H locs hP59 hH hS => ?_)
  refine W.eq (g2 := F0 m 62 ls []) rfl ?_
  refine lv_aload_n hx hb dX3_init_62 rfl (lv_at hl 0 rfl) ?_
  refine lv_iload_n hx hb dX3_init_63 rfl (lv_at hl 3 rfl) ?_
  refine mv_callV (Y := mLP) (C := RX0) (k := 2) (i := 2) (rest := []) Cx hG hH hS (d_X0_putInt l E (aP E) hO S59 2 rfl _ hP59.1 x (by rw [mLn_2]; simp)) q_co_X0_putInt q_ml_X3_37 q_im_X0_putInt q_se_X0_putInt q_in_X0 (okP_2 rfl) rfl rfl hd_X0_putInt ⟨Nat.le_of_ble_eq_true rfl, Nat.le_of_ble_eq_true rfl⟩ rfl hl.1 rfl (Nat.le_of_ble_eq_true rfl) ⟨Nat.le_of_ble_eq_true rfl, Nat.le_of_ble_eq_true rfl⟩ dX3_init_64 (fun S64 H locs hP64 hH hS => ?_)
  refine W.eq (g2 := F0 m 67 ls []) rfl ?_
  refine lv_aload_n hx hb dX3_init_67 rfl (lv_at hl 2 rfl) ?_
  refine lv_aload_n hx hb dX3_init_68 rfl (lv_at hl 1 rfl) ?_
  refine mv_get (Y := mLP) Cx hG hH q_X3 7 0 okP_7 rfl rfl 1 (by decide) q_fl_X3_9 rfl dX3_init_69 ?_
  refine mv_callV (Y := mLP) (C := RX1) (k := 1) (i := 0) (rest := []) Cx hG hH hS (d_X1_finish l E (aP E) hO S64 8 0 isP_8 _ hP64.1 (by simp [w4_len])) q_co_X1_finish q_ml_X3_40 q_im_X1_finish q_se_X1_finish q_in_X1 okP_1 rfl rfl hd_X1_finish ⟨Nat.le_of_ble_eq_true rfl, Nat.le_of_ble_eq_true rfl⟩ rfl hl.1 rfl (Nat.le_of_ble_eq_true rfl) ⟨Nat.le_of_ble_eq_true rfl, Nat.le_of_ble_eq_true rfl⟩ dX3_init_72 (fun S72 H locs hP72 hH hS => ?_)
  refine W.eq (g2 := F0 m 75 ls []) rfl ?_
  have hfin : mHold mLP E S72 H ∧ (∀ j, j < 32 → S72.2.1 8 0 j = shaL (sdL x) j) ∧ mSame (fun k i => hsX k i ∨ (k = 8 ∧ i = 0)) mS0 S72 := ⟨hH, hP72.1, ((((((hP34.2.wk (fun _ _ h => Or.inl (Or.inl h))).tr (hP41.2.wk (X' := (fun k i => hsX k i ∨ (k = 8 ∧ i = 0))) (fun _ _ h => Or.inl (Or.inl h)))).tr (hP47.2.wk (X' := (fun k i => hsX k i ∨ (k = 8 ∧ i = 0))) (fun _ _ h => Or.inl (Or.inl h)))).tr (hP53.2.wk (X' := (fun k i => hsX k i ∨ (k = 8 ∧ i = 0))) (fun _ _ h => Or.inl (Or.inl h)))).tr (hP59.2.wk (X' := (fun k i => hsX k i ∨ (k = 8 ∧ i = 0))) (fun _ _ h => Or.inl (Or.inl h)))).tr (hP64.2.wk (X' := (fun k i => hsX k i ∨ (k = 8 ∧ i = 0))) (fun _ _ h => Or.inl (Or.inl h)))).tr hP72.2⟩
  refine cx_sz (fun hle => ?_)
  have h10 : E.2.2 + 10 < H.size := (mHold_at hH (show (10, 0) ∈ mPP by decide)).lt
  have hzf : H.size = E.2.2 + 8 + 3 := by omega
  exact cx_ret Cx hr hS hzf ⟨S72, hfin⟩ dX3_init_75 hlocks
