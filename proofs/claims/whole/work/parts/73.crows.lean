/-! ===== rows for constructors: what is new lies at the heap's end ===== -/
/-- the object under way, and all that is new -/
def cA (a z : Nat) : Nat → Prop := fun q => q = a ∨ z ≤ q
abbrev cK (E : mEv) (s : State) : Prop := va_K E.1 vwCl (mTys E) s
abbrev cAt (E : mEv) (a : Nat) (x : va_E) (H : Heap) : Prop := va_at E.1 vwCl (a, x) H
/-- a constructor's start and end -/
def cPr (E : mEv) (B : State → Prop) (z : Nat) (H0 : Heap → Prop) (av : List Value) : Array Value → State → Prop := va_Pc av (fun U => (cK E U ∧ B U) ∧ U.heap.size = z ∧ H0 U.heap)
def cPo (A : Nat → Prop) (z n : Nat) (H1 : Heap → Prop) : Array Value → State → Outcome → State → Prop := fun _ st oc t => (oc = .returned none ∧ t.heap.size = z + n ∧ H1 t.heap) ∧ va_F A st t
section CRW
variable {p : Program} {l : Launch} {e : Env} {R : Room} {s : State} {m : MethodId} {args : Array Value} {below : List Frame} {meth : Method} {c : Code} {H : Heap} {locs : List Loc} {cells slots : Nat} {Q : State → Prop}
variable {cc : ByteArray} {pc nL : Nat} {ls : Array Slot} {rest : List Value} {A : Nat → Prop} {E : mEv} {cd : Cond} {own : String}
theorem cx_obj (Cx : CallFix p m c cc nL s args (cd :: mv_ws) own) {index a : Nat} (ql : Cond.methodLink own index objectInit ∈ mv_ws) (hsz : ls.size = nL) (hR : 1 ≤ R.frames ∧ 12 ≤ R.locals) (hdg : decode cc pc = .ok (.invokespecial index, 3))
    (kk : W p l e R s m args below meth c H locs cells slots Q (F0 m (pc + 3) ls [])) : W p l e R s m args below meth c H locs cells slots Q (F0 m pc ls [.ref a]) := by
  have hw : ∀ {w : Cond}, w ∈ mv_ws → w.before args s = true := fun h => Cx.2.2.2.2 _ (List.mem_cons_of_mem _ h)
  exact W.objInit Cx.1 Cx.2.1 Cx.2.2.2.1 (hw ql) (hw q_im_obj_init) (hw q_co_obj_init) rfl (by rw [Cx.2.2.1]; exact hsz) rfl hdg hR.1 hR.2 kk
theorem cx_newa (Cx : CallFix p m c cc nL s args (cd :: mv_ws) own) (hK : cK E s) (hS : va_S A s.heap H locs) {atype : ArrayType} {ty : FieldType} (hty : newarray.typeOf atype = ty) (t0 : Nat) {cT : ClassId} (ht : (mTys E)[t0]? = some (cT, ty)) (hra : va_RA s cT ty = (s.vm.findClass ("[" ++ ty.toString) = some cT)) (qa : Cond.arrayClass ty ∈ mv_ws) {n : Int32} {N : Nat} {f : (Nat → Int32) ⊕ ((Nat → Int64) ⊕ ((Nat → UInt32) ⊕ ((Nat → UInt64) ⊕ (Nat → Option Nat))))} (hf : vp_cell cT (N, f) = arrV cT N (fun _ => defaultValue ty)) (hn : ¬ n < 0) (hN : n.toNatClampNeg = N) (hb : N * componentBytes ty ≤ 536870912) (hcells : cells + 1 ≤ R.cells) (hslots : slots + N ≤ R.slots) (hdg : decode cc pc = .ok (.newarray atype, 2)) {z : Nat} (hz : H.size = z)
    (kk : ∀ H1 : Heap, cAt E z (.inl (cT, N, f)) H1 → H1.size = z + 1 → (∀ q, q < z → H1[q]? = H[q]?) → va_S A s.heap H1 locs → W p l e R s m args below meth c H1 locs (cells + 1) (slots + N) Q (F0 m (pc + 2) ls (.ref z :: rest))) : W p l e R s m args below meth c H locs cells slots Q (F0 m pc ls (.int n :: rest)) := by
  subst hty
  have hw : ∀ {w : Cond}, w ∈ mv_ws → w.before args s = true := fun h => Cx.2.2.2.2 _ (List.mem_cons_of_mem _ h)
  refine va_newaK Cx.1 Cx.2.1 (hw qa) rfl hdg rfl hn hN hb hcells hslots hz fun H1 cT' e1 z1 o1 hAr hNm => ?_
  have h2 := (hK.2 t0 _ ht).2
  rw [hra] at h2
  have hc : cT' = cT := Option.some.inj (hNm.symm.trans h2)
  subst hc
  refine kk H1 (show H1[z]? = some (vp_cell cT' (N, f)) by rw [hf]; exact e1) z1 o1 ⟨Nat.le_trans hS.1 (by omega), fun q h1 h2 => (o1 q (by have := hS.1; omega)).trans (hS.2.1 q h1 h2), hS.2.2⟩
theorem cx_new (Cx : CallFix p m c cc nL s args (cd :: mv_ws) own) (hK : cK E s) (hS : va_S A s.heap H locs) {C : String} {T : u_T} {N ci index : Nat} (hin : ∀ w ∈ u_ws C T N, w ∈ mv_ws) (ty : Nat → FieldType) (hty : ∀ k, k < N → parseFieldDescriptor (T k).2.2.1 = some (ty k)) (ql : Cond.classLink own index C ∈ mv_ws) (qi : Cond.instantiable C N ∈ mv_ws) (qn : Cond.initialized C ∈ mv_ws) (hc : vwCl[ci]? = some (C, T, N)) {fs : List Value} (hfs : ∀ j, j < N → defaultValue (ty j) = vp_V fs j) (hcells : cells + 1 ≤ R.cells) (hslots : slots + N ≤ R.slots) (hdg : decode cc pc = .ok (.new index, 3)) {z : Nat} (hz : H.size = z)
    (kk : ∀ H1 : Heap, cAt E z (.inr (ci, fs)) H1 → H1.size = z + 1 → (∀ q, q < z → H1[q]? = H[q]?) → va_S A s.heap H1 locs → W p l e R s m args below meth c H1 locs (cells + 1) (slots + N) Q (F0 m (pc + 3) ls (.ref z :: rest))) : W p l e R s m args below meth c H locs cells slots Q (F0 m pc ls rest) := by
  subst hz
  have hw : ∀ w ∈ mv_ws, w.before args s = true := fun w h => Cx.2.2.2.2 _ (List.mem_cons_of_mem _ h)
  have hKn := hK.1 ci _ hc
  refine W.newcK Cx.1 Cx.2.1 Cx.2.2.2.1 (hw _ ql) (hw _ qi) (hw _ qn) rfl hdg hcells hslots hKn.2.1 rfl fun H1 kC hkC e1 z1 o1 => ?_
  refine kk H1 ⟨_, hc, (u_born ty hw hin hKn hkC e1 hty).to hfs⟩ z1 o1 ⟨Nat.le_trans hS.1 (by omega), fun q h1 h2 => (o1 q (by have := hS.1; omega)).trans (hS.2.1 q h1 h2), hS.2.2⟩
theorem cx_anew (Cx : CallFix p m c cc nL s args (cd :: mv_ws) own) (hK : cK E s) (hS : va_S A s.heap H locs) {C : String} {index : Nat} (t0 : Nat) {cT : ClassId} (ht : (mTys E)[t0]? = some (cT, .object C)) (ql : Cond.classLink own index C ∈ mv_ws) (hov : va_AO C s) {n : Int32} {N : Nat} (hn : ¬ n < 0) (hN : n.toNatClampNeg = N) (hb : N * 4 ≤ 536870912) (hcells : cells + 1 ≤ R.cells) (hslots : slots + N ≤ R.slots) (hdg : decode cc pc = .ok (.anewarray index, 3)) {z : Nat} (hz : H.size = z)
    (kk : ∀ H1 : Heap, cAt E z (.inl (cT, N, .inr (.inr (.inr (.inr (fun _ => none)))))) H1 → H1.size = z + 1 → (∀ q, q < z → H1[q]? = H[q]?) → va_S A s.heap H1 locs → W p l e R s m args below meth c H1 locs (cells + 1) (slots + N) Q (F0 m (pc + 3) ls (.ref z :: rest))) : W p l e R s m args below meth c H locs cells slots Q (F0 m pc ls (.int n :: rest)) := by
  subst hN
  subst hz
  have hw : ∀ w ∈ mv_ws, w.before args s = true := fun w h => Cx.2.2.2.2 _ (List.mem_cons_of_mem _ h)
  refine W.anew Cx.1 Cx.2.1 Cx.2.2.2.1 (hw _ ql) (va_AO.use hov) rfl hdg rfl hn hb hcells hslots fun cT' kA comp f1 f2 f3 f4 => ?_
  obtain ⟨_, _, _, _, _, g4⟩ := (hK.2 t0 _ ht).2
  have hc : cT' = cT := Option.some.inj (f1.symm.trans g4)
  subst hc
  generalize hH1 : H.push ({ cls := cT', slots := Array.replicate n.toNatClampNeg .null, vm := .none } : Cell) = H1
  have z1 : H1.size = H.size + 1 := by rw [← hH1, Array.size_push]
  have e1 : H1[H.size]? = some (arrV cT' n.toNatClampNeg (fun _ => .null)) := by rw [← hH1, Array.getElem?_push_size, ← arrV_new]
  have o1 : ∀ q : Nat, q < H.size → H1[q]? = H[q]? := fun q hq => by rw [← hH1, Array.getElem?_push, if_neg (Nat.ne_of_lt hq)]
  exact kk H1 e1 z1 o1 ⟨Nat.le_trans hS.1 (by omega), fun q h1 h2 => (o1 q (by have := hS.1; omega)).trans (hS.2.1 q h1 h2), hS.2.2⟩
theorem cx_aast (Cx : CallFix p m c cc nL s args (cd :: mv_ws) own) (hK : cK E s) (hS : va_S A s.heap H locs) {t0 ci a v n : Nat} {cT : ClassId} {r : vw_C} {vs : List Value} {f : Nat → Option Nat} (ha : cAt E a (.inl (cT, n, .inr (.inr (.inr (.inr f))))) H) (hAa : A a) (ht : (mTys E)[t0]? = some (cT, .object r.1)) (hv : cAt E v (.inr (ci, vs)) H) (hc : vwCl[ci]? = some r) (j : Nat) {i : Int32} (hi : i = nI j) (hj : j < n) (hn : n < 2 ^ 31) (hdg : decode cc pc = .ok (.aastore, 1))
    (kk : ∀ (H1 : Heap) (locs1 : List Loc), cAt E a (.inl (cT, n, .inr (.inr (.inr (.inr (va_up f j (some v))))))) H1 → H1.size = H.size → (∀ q, q ≠ a → H1[q]? = H[q]?) → va_S A s.heap H1 locs1 → W p l e R s m args below meth c H1 locs1 cells slots Q (F0 m (pc + 1) ls rest)) : W p l e R s m args below meth c H locs cells slots Q (F0 m pc ls (.ref v :: .int i :: .ref a :: rest)) := by
  subst hi
  have hcl : (nI j).toNatClampNeg = j := nI_clamp (by omega)
  have h0 : ¬ nI j < 0 := nI_pos (by omega)
  obtain ⟨r', hr', cellV, g1, g2, g3, -⟩ := hv
  have hcls := (hK.1 ci r hc).2
  obtain ⟨kA, comp, k1, k2, k3, -⟩ := (hK.2 t0 _ ht).2
  have hcomp : comp = E.1.1 ci := Option.some.inj (k3.symm.trans hcls.1)
  subst hcomp
  obtain ⟨kC, hkC, -⟩ := hcls.2
  refine W.aast Cx.1 Cx.2.1 ha (fun q h => by cases h) (fun h => by cases h) k1 k2 rfl hkC ⟨h0, by show _ < (arrV _ _ _).slots.size; rw [arrV_size, hcl]; exact hj⟩ g1 (fun q h => by rw [g3] at h; cases h) (by rw [g2]; exact hkC) (by rw [g2]; exact va_assign hcls) rfl rfl hdg fun H1 e z oq => ?_
  refine kk H1 _ ?_ z oq (hS.put z oq hAa)
  show H1[a]? = some (vp_cell _ _)
  rw [e]
  rw [vp_cell_q, vp_cell_q, arrV_store, hcl]
  congr 2
  funext q
  by_cases hq : q = j
  · subst hq
    simp [updV, va_up, va_rf]
  · simp [updV, va_up, hq]
theorem cx_putF (Cx : CallFix p m c cc nL s args (cd :: mv_ws) own) (hK : cK E s) (hS : va_S A s.heap H locs) {C : String} {T : u_T} {N ci index a : Nat} (hin : ∀ w ∈ u_ws C T N, w ∈ mv_ws) (ty0 : Nat → FieldType) (hty : ∀ k, k < N → parseFieldDescriptor (T k).2.2.1 = some (ty0 k)) (hnm : ∀ a, a < N → ∀ b, b < N → a ≠ b → (T a).2.1 ≠ (T b).2.1) {fs : List Value} (h0 : cAt E a (.inr (ci, fs)) H) (hAa : A a) (hc : vwCl[ci]? = some (C, T, N)) (k : Nat) (hk : k < N) (ql : Cond.fieldLink own index (T k).1 (T k).2.1 (T k).2.2.1 ∈ mv_ws) (hfin : (T k).2.2.2 = true) (hin2 : meth.name = "<init>") (hdecl : (T k).1 = own) {ty : FieldType} {v : Value} (hd : parseFieldDescriptor (T k).2.2.1 = some ty) (hn : narrow ty v = v) (hfit : fits ty v = true) (hl : k < fs.length) (hdg : decode cc pc = .ok (.putfield index, 3))
    (kk : ∀ (H1 : Heap) (locs1 : List Loc), cAt E a (.inr (ci, fs.set k v)) H1 → H1.size = H.size → (∀ q, q ≠ a → H1[q]? = H[q]?) → va_S A s.heap H1 locs1 → W p l e R s m args below meth c H1 locs1 cells slots Q (F0 m (pc + 3) ls rest)) : W p l e R s m args below meth c H locs cells slots Q (F0 m pc ls (v :: .ref a :: rest)) := by
  have hts : ∀ w ∈ mv_ws, w.before args s = true := fun w h => Cx.2.2.2.2 _ (List.mem_cons_of_mem _ h)
  have hown := Cx.2.2.2.1
  have hap := va_apart (own := own) hts hin ty0 hty hnm hK hc
  obtain ⟨r, h1, cell, q1, q2, q3, q4⟩ := h0
  have hr : r = (C, T, N) := Option.some.inj (h1.symm.trans hc)
  subst hr
  obtain ⟨hSl, hfc, kC, hkC, hkind⟩ := hK.1 ci _ hc
  obtain ⟨cf, kf, fi, f, hi, hsl⟩ := hSl k hk
  have hlay := hts _ (hin _ (u_in_lay hk))
  unfold u_lay at hlay
  rw [if_pos hfin] at hlay
  have hst := (u_facts hfc hkC (u_lays hts hin hk) hi).1
  have hcf : m.cls = cf := by
    obtain ⟨_, _, c', _, _, _, -, -, hf', -, -, -, hown2, -⟩ := Cond.laysFinal_spec hlay
    have e1 : c' = cf := by have := hi.symm.trans hf'; simp at this; exact this.1.symm
    rw [hdecl] at hown2
    rw [← e1]
    exact Option.some.inj (hown.symm.trans hown2)
  have h6 := u_fits hfc hkC hkind (Or.inr hlay) hi hd hn hfit
  refine W.putFinK Cx.1 Cx.2.1 hown (hts _ ql) hi hst hcf hin2 (by rw [q2]; exact h6) q1 q3 (by rw [hsl]; exact k2_hasslot (q4 k hk)) rfl rfl hdg fun H' e1 e2 e3 => ?_
  rw [hsl] at e1 ⊢
  exact kk H' _ ⟨_, hc, t_OB.to (V := updV (vp_V fs) k v) ⟨_, e1, q2, q3, t_set q4 hap hk v⟩ (fun j _ => vp_updV_set hl v j)⟩ e2 e3 (hS.put e2 e3 hAa)
/-- behind a constructor's call -/
theorem cx_after {A' : Nat → Prop} {z n mc ms : Nat} {K : Heap → Prop} {st0 : List Value} {av : Array Value} (hr : va_Run p l e R s m args below meth c H locs cells slots mc ms (F0 m pc ls st0) rest (cPo A' z n K av) A') (hz : H.size = z) (hS : va_S A s.heap H locs) (hAA : ∀ q, A' q → A q)
    (kk : ∀ (H1 : Heap) (locs1 : List Loc), K H1 → H1.size = z + n → (∀ q, q < z → ¬ A' q → H1[q]? = H[q]?) → va_S A s.heap H1 locs1 → W p l e R s m args below meth c H1 locs1 (cells + mc) (slots + ms) Q (F0 m (pc + 3) ls rest)) : W p l e R s m args below meth c H locs cells slots Q (F0 m pc ls st0) := by
  intro T hT X
  obtain ⟨v', st₀, t, T', L, h0, X', hL, e1, e2, ⟨⟨hv, hsz, hp⟩, hzz, hk⟩, st⟩ := hr T hT X
  cases hv
  rw [h0] at hzz hk
  obtain ⟨t2, a1, b1⟩ := kk T'.heap (locs ++ L) (by rw [e1]; exact hp) (by rw [e1]; exact hsz) (fun q h1 h2 => by rw [e1]; exact hk q (by omega) h2)
    ⟨Nat.le_trans hS.1 (by rw [e1]; exact hzz), fun q h1 h2 => by rw [e1, hk q (Nat.lt_of_lt_of_le h1 hS.1) (fun a => h2 (hAA q a))]; exact hS.2.1 q h1 h2, fun q hq => by
      rcases List.mem_append.mp hq with h | h
      · exact hS.2.2 q h
      · exact hAA _ (hL q h)⟩ T' rfl X'
  exact ⟨t2, st t2 a1, b1⟩
theorem cPr.blind {B : State → Prop} (hB : ∀ (U : State) (g : JFrame) (mk : MethodId) (a : Array Value), B U → B (U.calling g mk a)) {z : Nat} {K : Heap → Prop} {av : List Value} : FrameBlind (cPr E B z K av) := fun a U g mk h => ⟨h.1, ⟨va_K.moved (u := U) (U := U.calling g mk a) (Vm.Alike.refl U.vm) h.2.1.1, hB U g mk a h.2.1.2⟩, h.2.2⟩
/-- a constructor of a class of ours, called by a plain link -/
theorem cx_call (Cx : CallFix p m c cc nL s args (cd :: mv_ws) own) (hK : cK E s) (hS : va_S A s.heap H locs) {B : State → Prop} (hB : ∀ (U : State) (g : JFrame) (mk : MethodId) (a : Array Value), B U → B (U.calling g mk a)) (hBs : ∀ U : State, U.heap = H → s.WarmedH U.vm → B U) {A' : Nat → Prop} {index z n k a maxL mc ms : Nat} {rm : Room} {y : MethodName} {bytes : ByteArray} {K0 K1 : Heap → Prop} {As : List Value}
    (hM : Met l y (Cond.code y bytes maxL none :: mv_ws) rm (cPr E B z K0 (.ref a :: As)) (cPo A' z n K1) mc ms A') (hrm : rm.cells = mc ∧ rm.slots = ms) (qc : Cond.code y bytes maxL none ∈ mv_ws) (ql : Cond.methodLink own index y ∈ mv_ws) (qi : Cond.instanceMethod y ∈ mv_ws) (qn : Cond.initialized y.cls ∈ mv_ws) (hy : y.name = "<init>")
    (hd : y.cls ≠ "java/lang/invoke/MethodHandle" ∧ y.cls ≠ "java/lang/invoke/VarHandle" ∧ (parseMethodDescriptor y.desc).map (fun d => d.parameters.length) = some k) (hR : rm.frames + 1 ≤ R.frames ∧ 8 + (maxL + 11) + rm.locals ≤ R.locals) (hn : As.length = k) (hsz : ls.size = nL) {st0 : List Value} (hst : st0 = As.reverse ++ .ref a :: rest) (hW : (rest.map fun v => v.category).sum ≤ 8) (hf : cells + mc ≤ R.cells ∧ slots + ms ≤ R.slots) (hz : H.size = z) (hK0 : K0 H) (hAA : ∀ q, A' q → A q) (hdg : decode cc pc = .ok (.invokespecial index, 3))
    (kk : ∀ (H1 : Heap) (locs1 : List Loc), K1 H1 → H1.size = z + n → (∀ q, q < z → ¬ A' q → H1[q]? = H[q]?) → va_S A s.heap H1 locs1 → W p l e R s m args below meth c H1 locs1 (cells + mc) (slots + ms) Q (F0 m (pc + 3) ls rest)) : W p l e R s m args below meth c H locs cells slots Q (F0 m pc ls st0) := by
  have hw : ∀ {w : Cond}, w ∈ mv_ws → w.before args s = true := fun h => Cx.2.2.2.2 _ (List.mem_cons_of_mem _ h)
  exact cx_after (va_runI (As := As) (rest := rest) (b := a) Cx hM ⟨callB_of k Cx.2.2.2.2 (mv_gi qc) rfl hrm.1 hrm.2 (hw qn) (hw ql) hd hR, hy, hw qi⟩ ⟨cPr.blind hB, fun U hU hWm => ⟨rfl, ⟨va_K.moved hWm.alike hK, hBs U hU hWm⟩, by rw [hU]; exact hz, by rw [hU]; exact hK0⟩⟩ rfl hn hsz hst (lv_room hW) hdg hf) hz hS hAA kk
/-- a private constructor of a class of the same nest -/
theorem cx_callN (Cx : CallFix p m c cc nL s args (cd :: mv_ws) own) (hK : cK E s) (hS : va_S A s.heap H locs) {B : State → Prop} (hB : ∀ (U : State) (g : JFrame) (mk : MethodId) (a : Array Value), B U → B (U.calling g mk a)) (hBs : ∀ U : State, U.heap = H → s.WarmedH U.vm → B U) {A' : Nat → Prop} {index z n k a maxL mc ms : Nat} {rm : Room} {y : MethodName} {host : String} {bytes : ByteArray} {K0 K1 : Heap → Prop} {As : List Value}
    (hM : Met l y (Cond.code y bytes maxL none :: mv_ws) rm (cPr E B z K0 (.ref a :: As)) (cPo A' z n K1) mc ms A') (hrm : rm.cells = mc ∧ rm.slots = ms) (qc : Cond.code y bytes maxL none ∈ mv_ws) (ql : va_Nw (.methodLinkNest own index y host) s) (qi : Cond.instanceMethod y ∈ mv_ws) (qn : Cond.initialized y.cls ∈ mv_ws) (hy : y.name = "<init>")
    (hd : y.cls ≠ "java/lang/invoke/MethodHandle" ∧ y.cls ≠ "java/lang/invoke/VarHandle" ∧ (parseMethodDescriptor y.desc).map (fun d => d.parameters.length) = some k) (hR : rm.frames + 1 ≤ R.frames ∧ 8 + (maxL + 11) + rm.locals ≤ R.locals) (hn : As.length = k) (hsz : ls.size = nL) {st0 : List Value} (hst : st0 = As.reverse ++ .ref a :: rest) (hW : (rest.map fun v => v.category).sum ≤ 8) (hf : cells + mc ≤ R.cells ∧ slots + ms ≤ R.slots) (hz : H.size = z) (hK0 : K0 H) (hAA : ∀ q, A' q → A q) (hdg : decode cc pc = .ok (.invokespecial index, 3))
    (kk : ∀ (H1 : Heap) (locs1 : List Loc), K1 H1 → H1.size = z + n → (∀ q, q < z → ¬ A' q → H1[q]? = H[q]?) → va_S A s.heap H1 locs1 → W p l e R s m args below meth c H1 locs1 (cells + mc) (slots + ms) Q (F0 m (pc + 3) ls rest)) : W p l e R s m args below meth c H locs cells slots Q (F0 m pc ls st0) := by
  have hw : ∀ {w : Cond}, w ∈ mv_ws → w.before args s = true := fun h => Cx.2.2.2.2 _ (List.mem_cons_of_mem _ h)
  exact cx_after (va_runIN (As := As) (rest := rest) (b := a) Cx hM ⟨va_cnB k Cx.2.2.2.2 (mv_gi qc) rfl hrm.1 hrm.2 ql (hw qn) hd hR, hy, hw qi⟩ ⟨cPr.blind hB, fun U hU hWm => ⟨rfl, ⟨va_K.moved hWm.alike hK, hBs U hU hWm⟩, by rw [hU]; exact hz, by rw [hU]; exact hK0⟩⟩ rfl hn hsz hst (lv_room hW) hdg hf) hz hS hAA kk
/-- a constructor's end -/
theorem cx_ret {z n cm sm : Nat} {K : Heap → Prop} (Cx : CallFix p m c cc nL s args (cd :: mv_ws) own) (hr : meth.sig.returnType = none) (hS : va_S A s.heap H locs) (hz : H.size = z + n) (hE : K H) (hdg : decode cc pc = .ok (.return_, 1)) (hlocks : meth.locks = false) : W p l e R s m args below meth c H locs cm sm (MQ below (cPo A z n K) args s cm sm A) (F0 m pc ls []) :=
  W.vret Cx.1 Cx.2.1 hr (fun t ht _ => ⟨⟨rfl, by rw [ht]; exact hz, by rw [ht]; exact hE⟩, hS.F ht⟩) hS.2.2 hdg hlocks
end CRW
