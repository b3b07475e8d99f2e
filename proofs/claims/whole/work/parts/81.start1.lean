/-! ===== the start: both are made, and agree ===== -/
theorem rel_init {x : Int32} {C M : mSt} (c8 : ∀ j, j < 32 → C.2.1 8 0 j = shaL (sdL x) j) (c11 : ∀ j, j < 32 → C.2.1 11 0 j = shaL [] j) (c12 : ∀ j, j < 32 → C.2.1 12 0 j = shaL [] j) (hC : mSame (fun k i => scX k i ∨ k = 8 ∨ k = 11 ∨ k = 12) mS0 C) (m13 : ∀ j, j < 32 → M.2.1 13 0 j = shaL (sdL x) j) (m14 : ∀ j, j < 32 → M.2.1 14 0 j = shaL [] j) (m15 : ∀ j, j < 32 → M.2.1 15 0 j = shaL [] j) (hM : nSame (fun k j => scM k j ∨ k = 13 ∨ k = 14 ∨ k = 15) mS0 M) : Rel 0 C M := by
  have z0 : (0 : Int32) = nI 0 := nI_0.symm
  refine ⟨⟨[], ⟨((hC 2 0 (fun hh => by (try simp [scX, hsX, bX] at hh) <;> omega)).1 1).trans z0, Nat.zero_le _, fun j h => absurd h (Nat.not_lt_zero _)⟩, ⟨(hM 0 1 (fun hh => by (try simp [scM, nX] at hh) <;> omega)).1.trans z0, Nat.zero_le _, fun j h => absurd h (Nat.not_lt_zero _)⟩⟩, ?_⟩
  refine ⟨⟨[], ⟨((hC 2 1 (fun hh => by (try simp [scX, hsX, bX] at hh) <;> omega)).1 1).trans z0, Nat.zero_le _, fun j h => absurd h (Nat.not_lt_zero _)⟩, ⟨(hM 0 3 (fun hh => by (try simp [scM, nX] at hh) <;> omega)).1.trans z0, Nat.zero_le _, fun j h => absurd h (Nat.not_lt_zero _)⟩⟩, fun j hj => (c11 j hj).trans (m14 j hj).symm, fun j hj => (c12 j hj).trans (m15 j hj).symm, fun j hj => (c8 j hj).trans (m13 j hj).symm, fun j hj => (hC 13 0 (fun hh => by (try simp [scX, hsX, bX] at hh) <;> omega)).2.1 j, fun j hj => ((hC 16 0 (fun hh => by (try simp [scX, hsX, bX] at hh) <;> omega)).2.1 j).trans (hM 16 j (fun hh => by (try simp [scM, nX] at hh) <;> omega)).2.1.symm, ?_, ((hC 7 0 (fun hh => by (try simp [scX, hsX, bX] at hh) <;> omega)).1 4).trans (hM 0 19 (fun hh => by (try simp [scM, nX] at hh) <;> omega)).1.symm, ⟨0, Nat.zero_le _, ((hC 15 0 (fun hh => by (try simp [scX, hsX, bX] at hh) <;> omega)).1 2).trans z0⟩, fun i hi => ⟨((hC 19 i (fun hh => by (try simp [scX, hsX, bX] at hh) <;> omega)).1 1).trans (hM 22 i (fun hh => by (try simp [scM, nX] at hh) <;> omega)).1.symm, fun q => absurd ((hC 19 i (fun hh => by (try simp [scX, hsX, bX] at hh) <;> omega)).1 1) q⟩, fun t ht => ⟨((hC 22 t (fun hh => by (try simp [scX, hsX, bX] at hh) <;> omega)).1 3).trans (hM 30 t (fun hh => by (try simp [scM, nX] at hh) <;> omega)).1.symm, fun q => absurd ((hC 22 t (fun hh => by (try simp [scX, hsX, bX] at hh) <;> omega)).1 3) q⟩, fun v hv q => absurd ((hC 22 (4 + v) (fun hh => by (try simp [scX, hsX, bX] at hh) <;> omega)).1 3) q⟩
  have q0 := hC 0 0 (fun hh => by (try simp [scX, hsX, bX] at hh) <;> omega)
  exact ⟨(q0.1 13).trans (hM 0 16 (fun hh => by (try simp [scM, nX] at hh) <;> omega)).1.symm, (q0.1 14).trans (hM 0 17 (fun hh => by (try simp [scM, nX] at hh) <;> omega)).1.symm, (q0.1 15).trans (hM 0 18 (fun hh => by (try simp [scM, nX] at hh) <;> omega)).1.symm, (q0.2.2 12).trans (hM 0 20 (fun hh => by (try simp [scM, nX] at hh) <;> omega)).2.2.symm, ⟨0, Nat.zero_le _, (q0.1 13).trans z0⟩, 0, Nat.zero_le _, (q0.1 15).trans z0⟩
def cV (L : Nat) (xs : Nat → Int32) : Int32 := if L = 0 then 0 else xs 0
def cQ (L : Nat) (xs : Nat → Int32) : Array Value → State → Outcome → State → Prop := fun _ st oc t => oc = .returned (some (.int (cV L xs))) ∧ va_F (fun _ => False) st t
set_option maxHeartbeats 4000000 in
set_option maxRecDepth 100000 in
theorem k_cell (l : Launch) (b L : Nat) (xs : Nat → Int32) (hL : L ≤ 385) : Met l yL_cell (Cond.code yL_cell cL_cell 2 (some .int) :: mv_ws) (mRm 0 0) (va_Pc [.ref b, .int 0] (fun U => va_X b L xs U U.heap)) (cQ L xs) 0 0 (fun _ => False) := by
  refine Met.ofW (cc := cL_cell) (maxL := 2) (ret := some .int) (by decide) rfl ?_
  intro p e s m args below meth c s₁ B hml hv
  obtain ⟨rfl, hX⟩ := hv
  have hx := B.exec
  have hb := B.bytes
  have hr := B.returns
  have hlocks := B.notSynchronized
  have hS : va_S (fun _ => False) s.heap s.heap [] := va_S.rf
  have hbl : b < s.heap.size := by
    obtain ⟨scr, h1, -⟩ := hX
    exact (Array.getElem?_eq_some_iff.mp h1).1
  have hl := lv_entry ([.ref b, .int 0]) (n := 2) (Nat.le_of_ble_eq_true rfl)
  rw [lg_entry_eq]
  generalize (lg_sl ([.ref b, .int 0]) ++ List.replicate (2 - (lg_sl ([.ref b, .int 0])).length) Slot.unset).toArray = ls at hl ⊢
  have hl : lv_has ls 2 [(0, .ref b), (1, .int 0)] := hl
  refine lv_iload_n hx hb dL_cell_0 rfl (lv_at hl 1 rfl) ?_
  refine lv_aload_n hx hb dL_cell_1 rfl (lv_at hl 0 rfl) ?_
  refine va_slen hx hb hX hbl (fun h => h) hS dL_cell_2 ?_
  refine lv_icmp_ge (tgt := 12) hx hb dL_cell_3 (by decide) (fun h => ?_) (fun h => ?_)
  · have h0 : L = 0 := by have := (nI_leI (a := L) (b := 0) (by omega) (by decide)).mp h; omega
    refine lv_iconst (v := 0) hx hb dL_cell_12 (by decide) ?_
    exact W.iret hx hb hr (fun t ht _ => ⟨by rw [cV, if_pos h0], hS.F ht⟩) hS.2.2 dL_cell_13 hlocks
  · have h0 : 0 < L := Nat.not_le.mp (fun q => h ((nI_leI (a := L) (b := 0) (by omega) (by decide)).mpr q))
    refine lv_aload_n hx hb dL_cell_6 rfl (lv_at hl 0 rfl) ?_
    refine lv_iload_n hx hb dL_cell_7 rfl (lv_at hl 1 rfl) ?_
    refine va_sld hx hb hX hbl (fun h => h) hS (show vp_in (nI 0) L from vp_in_nI h0 (by omega)) dL_cell_8 ?_
    refine lv_goto (tgt := 13) hx hb dL_cell_9 (by decide) ?_
    exact W.iret hx hb hr (fun t ht _ => ⟨by rw [cV, if_neg (by omega)]; rfl, hS.F ht⟩) hS.2.2 dL_cell_13 hlocks
theorem lw_cell {p : Program} {l : Launch} {e : Env} {R : Room} {s : State} {m : MethodId} {below : List Frame} {meth : Method} {c : Code} {H : Heap} {locs : List Loc} {cells slots : Nat} {Q : State → Prop} {pc nL b L : Nat} {xs : Nat → Int32} {ls : Array Slot} {rest : List Value} {cd : Cond} {cc : ByteArray}
    (Cx : CallFix p m c cc nL s #[Value.ref b] (cd :: mv_ws) RL) (hX : va_X b L xs s s.heap) (hbl : b < s.heap.size) (hL : L ≤ 385) (hS : va_S (fun q : Nat => s.heap.size ≤ q) s.heap H locs) (hsz : ls.size = nL) (hR : 1 ≤ R.frames ∧ 21 ≤ R.locals) (hW : (rest.map fun v => v.category).sum ≤ 8) (hf : cells ≤ R.cells ∧ slots ≤ R.slots) (hdg : decode cc pc = .ok (.invokestatic 9, 3))
    (kk : ∀ (H1 : Heap) (locs1 : List Loc), H.size ≤ H1.size → (∀ q, q < H.size → H1[q]? = H[q]?) → va_S (fun q : Nat => s.heap.size ≤ q) s.heap H1 locs1 → W p l e R s m #[Value.ref b] below meth c H1 locs1 cells slots Q (F0 m (pc + 3) ls (.int (cV L xs) :: rest))) : W p l e R s m #[Value.ref b] below meth c H locs cells slots Q (F0 m pc ls (.int 0 :: .ref b :: rest)) := by
  have hw : ∀ {w : Cond}, w ∈ mv_ws → w.before #[Value.ref b] s = true := fun h => Cx.2.2.2.2 _ (List.mem_cons_of_mem _ h)
  have hXH : va_X b L xs s H := hX.kept (hS.2.1 b hbl (Nat.not_le.mpr hbl))
  intro T hT X
  obtain ⟨v', st₀, t, T', L', h0, X', hL', e1, e2, ⟨hv, hz, hk⟩, st⟩ := (va_runS (As := [.ref b, .int 0]) (rest := rest) Cx (k_cell l b L xs hL) ⟨callB_of 2 Cx.2.2.2.2 (mv_gi q_co_L_cell) rfl rfl rfl (hw q_in_L) (hw q_ml_L_9) hd_L_cell ⟨hR.1, hR.2⟩, hw q_st_L_cell⟩ ⟨fun a U g mk h => ⟨h.1, va_X.moved (u := U) (U := U.calling g mk a) (Vm.Alike.refl U.vm) h.2⟩, fun U hU hWm => ⟨rfl, by show va_X b L xs U U.heap; rw [hU]; exact hXH.moved hWm.alike⟩⟩ rfl rfl hsz rfl (lv_room hW) hdg hf) T hT X
  cases hv
  rw [h0] at hz hk
  obtain ⟨t2, a1, b1⟩ := kk T'.heap (locs ++ L') (by rw [e1]; exact hz) (fun q h1 => by rw [e1]; exact hk q h1 (fun h => h))
    ⟨Nat.le_trans hS.1 (by rw [e1]; exact hz), fun q h1 h2 => by rw [e1, hk q (Nat.lt_of_lt_of_le h1 hS.1) (fun h => h)]; exact hS.2.1 q h1 h2, fun q hq => by
      rcases List.mem_append.mp hq with h | h
      · exact hS.2.2 q h
      · exact absurd (hL' q h) (fun h => h)⟩ T' rfl X'
  exact ⟨t2, st t2 a1, b1⟩
