/-! ===== rows: copies, static arrays, calls, the end of a method ===== -/
theorem mv_fitB (b : Int8) : fits .byte (.int b.toInt32) = true := by
  have h := pk_fb b.toInt32
  rwa [Int8.toInt8_toInt32] at h
section MVS
variable {p : Program} {l : Launch} {e : Env} {R : Room} {s : State} {m : MethodId} {args : Array Value} {below : List Frame} {meth : Method} {c : Code} {H : Heap} {locs : List Loc} {cells slots : Nat} {Q : State → Prop}
variable {cc : ByteArray} {pc nL : Nat} {ls : Array Slot} {rest : List Value} {A : Nat → Prop} {Y : mLY} {E : mEv} {S : mSt} {cd : Cond} {own : String}
theorem mv_cpb (Cx : CallFix p m c cc nL s args (cd :: mv_ws) own) (hG : mG E A s) (hO : mOwn Y E A) (hH : mHold Y E S H) (hS : va_S A s.heap H locs) {k0 i0 n0 k1 i1 n1 index : Nat} (hB0 : mIsB Y k0 i0 n0) (hB1 : mIsB Y k1 i1 n1) (sp dp n : Nat) {xs xd xn : Int32} (hxs : xs = nI sp) (hxd : xd = nI dp) (hxn : xn = nI n) (h0 : sp + n ≤ n0) (h1 : dp + n ≤ n1) (ql : Cond.methodLink own index arraycopyName ∈ mv_ws) (hsz : ls.size = nL) (hfr : 1 ≤ R.frames) (hlo : (rest.map fun v => v.category).sum + (nativeFrameWords "java/lang/System" "arraycopy" 5 + 11) ≤ R.locals) (hdg : decode cc pc = .ok (.invokestatic index, 3))
    (kk : ∀ (H1 : Heap) (locs1 : List Loc), mHold Y E (mAB S k1 i1 (va_cpy (S.2.1 k0 i0) (S.2.1 k1 i1) sp dp n)) H1 → va_S A s.heap H1 locs1 → W p l e R s m args below meth c H1 locs1 cells slots Q (F0 m (pc + 3) ls rest)) : W p l e R s m args below meth c H locs cells slots Q (F0 m pc ls (.int xn :: .int xd :: .ref (Y.2.1 E k1 i1) :: .int xs :: .ref (Y.2.1 E k0 i0) :: rest)) := by
  subst hxs; subst hxd; subst hxn
  obtain ⟨q0, hq0⟩ := mWl_find hB0.1
  obtain ⟨q1, hq1⟩ := mWl_find hB1.1
  have b0 := hB0.2.1
  have b1 := hB1.2.1
  have hw : ∀ {w : Cond}, w ∈ mv_ws → w.before args s = true := fun h => Cx.2.2.2.2 _ (List.mem_cons_of_mem _ h)
  have e1 : (nI sp).toNatClampNeg = sp := nI_clamp (by omega)
  have e2 : (nI dp).toNatClampNeg = dp := nI_clamp (by omega)
  have e3 : (nI n).toNatClampNeg = n := nI_clamp (by omega)
  refine va_copyi Cx.1 Cx.2.1 (Cx.2.2.1.trans hsz.symm) Cx.2.2.2.1 (hw ql) (hw q_na_arraycopy) (hw q_st_arraycopy) (hw q_in_J10) hG.1 hH (hO.2 S) hS q0 q1 0 0 (f := fun j => (S.2.1 k0 i0 j).toInt32) (g := fun j => (S.2.1 k1 i1 j).toInt32) (ty := .byte) ((mWl_at hq0).trans (by rw [hB0.2.2 E S])) ((mWl_at hq1).trans (by rw [hB1.2.2 E S])) rfl rfl rfl (nI_pos (by omega)) (nI_pos (by omega)) (nI_pos (by omega)) (by rw [e1, e3]; exact h0) (by rw [e2, e3]; exact h1) (fun i _ => mv_fitB _) hfr hlo hdg (fun H1 locs1 hP _ hS1 => kk H1 locs1 ?_ hS1)
  rw [e1, e2, e3] at hP
  rw [mWl_AB (g := va_cpy (S.2.1 k0 i0) (S.2.1 k1 i1) sp dp n) hO.1 hq1 (hB1.2.2 E _ |>.trans (by
    refine congrArg (fun f => (.inl (E.2.1 0, n1, .inl f) : va_E)) (funext fun j => ?_)
    simp only [mAB, mA, and_self, if_true, va_cpy]
    split <;> rfl))] at hP
  exact hP
/-- from a static array of ints -/
theorem mv_cpt (Cx : CallFix p m c cc nL s args (cd :: mv_ws) own) (hG : mG E A s) (hO : mOwn Y E A) (hH : mHold Y E S H) (hS : va_S A s.heap H locs) {t n0 k1 i1 n1 index : Nat} {f : Nat → Int32} (hT : va_T .int t n0 (fun j => .int (f j)) A s s.heap) (hB1 : mIsI Y k1 i1 n1) (n : Nat) {xs xd xn : Int32} (hxs : xs = 0) (hxd : xd = 0) (hxn : xn = nI n) (h0 : n ≤ n0) (h1 : n ≤ n1) (ql : Cond.methodLink own index arraycopyName ∈ mv_ws) (hsz : ls.size = nL) (hfr : 1 ≤ R.frames) (hlo : (rest.map fun v => v.category).sum + (nativeFrameWords "java/lang/System" "arraycopy" 5 + 11) ≤ R.locals) (hdg : decode cc pc = .ok (.invokestatic index, 3))
    (kk : ∀ (H1 : Heap) (locs1 : List Loc), mHold Y E (mAM S k1 i1 (va_cpy f (S.1 k1 i1) 0 0 n)) H1 → va_S A s.heap H1 locs1 → W p l e R s m args below meth c H1 locs1 cells slots Q (F0 m (pc + 3) ls rest)) : W p l e R s m args below meth c H locs cells slots Q (F0 m pc ls (.int xn :: .int xd :: .ref (Y.2.1 E k1 i1) :: .int xs :: .ref t :: rest)) := by
  subst hxs; subst hxd; subst hxn
  obtain ⟨q1, hq1⟩ := mWl_find hB1.1
  have b1 := hB1.2.1
  have hw : ∀ {w : Cond}, w ∈ mv_ws → w.before args s = true := fun h => Cx.2.2.2.2 _ (List.mem_cons_of_mem _ h)
  have e3 : (nI n).toNatClampNeg = n := nI_clamp (by omega)
  have e0 : (0 : Int32).toNatClampNeg = 0 := rfl
  have nn : ∀ z : Int32, ¬ z < 0 → z.toInt = (z.toNatClampNeg : Int) := by
    intro z hz
    have hz0 : (0 : Int) ≤ z.toInt := by
      have := Int32.not_lt.mp hz
      simpa using Int32.le_iff_toInt_le.mp this
    show z.toInt = ((z.toInt.toNat : Nat) : Int)
    omega
  have z0 : ¬ (0 : Int32) < 0 := by decide
  have zn : ¬ (nI n) < 0 := nI_pos (by omega)
  intro T hTT X
  obtain ⟨scr, hs1, hs2, hs3, hs4, -, hs5, hs7⟩ := hT
  have hc0 : H[t]? = some scr := by rw [hS.2.1 t (Array.getElem?_eq_some_iff.mp hs1).1 hs7]; exact hs1
  have ha1 : (mWl Y E S)[q1]? = some (Y.2.1 E k1 i1, .inl (E.2.1 1, n1, .inl (fun j => S.1 k1 i1 j))) := (mWl_at hq1).trans (by rw [hB1.2.2 E S])
  have hc1 : H[Y.2.1 E k1 i1]? = some (vp_cell (E.2.1 1) (n1, .inl (fun j => S.1 k1 i1 j))) := hH q1 _ ha1
  obtain ⟨hs6, k0, hk0, cm0, hkk0⟩ := hs2
  obtain ⟨-, k1', hk1, cm1, hkk1⟩ := (hG.1.2 1 _ rfl).1 n1 (fun j => .int (S.1 k1 i1 j))
  obtain ⟨vm', X', step⟩ := X.arraycopy Cx.1 Cx.2.2.2.1 (hw ql) (hw q_na_arraycopy) (hw q_st_arraycopy) (hw q_in_J10) (src := t) (dst := Y.2.1 E k1 i1) (cs := scr) (cd := vp_cell (E.2.1 1) (n1, .inl (fun j => S.1 k1 i1 j))) (srcPos := 0) (destPos := 0) (n := nI n) (by rw [hTT]; exact hc0) (by rw [hTT]; exact hc1)
    hs6 (fun _ h => by cases h) hs3 (fun h => by cases h) hk0 hk1 hkk0 hkk1 (by simp [refKind]) z0 z0 zn
    (by rw [nn 0 z0, nn _ zn, e0, e3]; omega)
    (by rw [nn 0 z0, nn _ zn, e0, e3]; show ¬ _ > ((arrV (E.2.1 1) n1 (fun j => .int (S.1 k1 i1 j))).slots.size : Int); rw [arrV_size]; omega)
    (fun vm₁ _ i hi => by
      rw [e3] at hi
      have ee : scr.slots.getD ((0 : Int32).toNatClampNeg + i) .null = .int (f i) := by
        rw [e0, Nat.zero_add, Array.getD_eq_getD_getElem?, hs5 _ (by omega)]
        rfl
      refine ⟨?_, ?_⟩
      · rw [ee]
        rfl
      · rw [ee]
        exact trivial)
    (g := F0 m pc ls (.int (nI n) :: .int 0 :: .ref (Y.2.1 E k1 i1) :: .int 0 :: .ref t :: rest)) rfl (by rw [Cx.2.2.1]; exact hsz) (rest := rest) rfl (by rw [Cx.2.1]; exact hdg) hfr (by show 2 * 0 + _ + _ ≤ _; omega)
  have e1 : copied scr (vp_cell (E.2.1 1) (n1, .inl (fun j => S.1 k1 i1 j))) 0 0 (nI n) = vp_cell (E.2.1 1) (n1, .inl (va_cpy f (fun j => S.1 k1 i1 j) 0 0 n)) := by
    have h8 := va_copiedX (fun z => .int z) scr (E.2.1 1) (n1 := n1) (sp := 0) (dp := 0) (n := n) f (fun j => S.1 k1 i1 j) hs5 (by omega)
    have h9 : copied scr (vp_cell (E.2.1 1) (n1, .inl (fun j => S.1 k1 i1 j))) 0 0 (nI n) = (arrV (E.2.1 1) n1 (fun j => .int (S.1 k1 i1 j))).storeRun 0 (scr.stretch 0 (nI n).toNatClampNeg) := rfl
    rw [h9, e3]
    exact h8
  rw [e1] at X' step
  have hl : Y.2.1 E k1 i1 < H.size := (Array.getElem?_eq_some_iff.mp hc1).1
  have hheap : ((T.setVm vm').setCell (Y.2.1 E k1 i1) (vp_cell (E.2.1 1) (n1, .inl (va_cpy f (fun j => S.1 k1 i1 j) 0 0 n)))).heap = H.setIfInBounds (Y.2.1 E k1 i1) (vp_cell (E.2.1 1) (n1, .inl (va_cpy f (fun j => S.1 k1 i1 j) 0 0 n))) := by rw [← hTT]; rfl
  have oq : ∀ q : Nat, q ≠ Y.2.1 E k1 i1 → (H.setIfInBounds (Y.2.1 E k1 i1) (vp_cell (E.2.1 1) (n1, .inl (va_cpy f (fun j => S.1 k1 i1 j) 0 0 n))))[q]? = H[q]? := fun q hq => by simp [Array.getElem?_setIfInBounds, Ne.symm hq]
  have hP := hH.set (hO.2 S) (e := .inl (E.2.1 1, n1, .inl (va_cpy f (fun j => S.1 k1 i1 j) 0 0 n))) ha1 (show (H.setIfInBounds (Y.2.1 E k1 i1) _)[Y.2.1 E k1 i1]? = some _ by simp [Array.getElem?_setIfInBounds, hl]) oq
  rw [mWl_AM (g := va_cpy f (S.1 k1 i1) 0 0 n) hO.1 hq1 (hB1.2.2 E _ |>.trans (by
    refine congrArg (fun f => (.inl (E.2.1 1, n1, .inl f) : va_E)) (funext fun j => ?_)
    simp only [mAM, mA, and_self, if_true]))] at hP
  obtain ⟨t2, a1, b1'⟩ := kk _ _ hP ⟨by simp; exact hS.1, fun q g1 g2 => by
      rw [oq q (fun e => g2 (by rw [e]; exact (hO.2 S).2 q1 _ ha1))]
      exact hS.2.1 q g1 g2, fun q hq => by
      rcases List.mem_append.mp hq with h | h
      · exact hS.2.2 q h
      · obtain ⟨z, -, hz⟩ := List.mem_map.mp h
        rw [← hz]
        exact (hO.2 S).2 q1 _ ha1⟩ _ hheap X'
  exact ⟨t2, step t2 a1, b1'⟩
theorem mv_sta (Cx : CallFix p m c cc nL s args (cd :: mv_ws) own) (hS : va_S A s.heap H locs) {C n : String} {t index : Nat} (hZ : va_Z C n "[I" (.ref t) A s s.heap) (ql : Cond.fieldLink own index C n "[I" ∈ mv_ws) (hdg : decode cc pc = .ok (.getstatic index, 3))
    (kk : W p l e R s m args below meth c H locs cells slots Q (F0 m (pc + 3) ls (.ref t :: rest))) : W p l e R s m args below meth c H locs cells slots Q (F0 m pc ls rest) :=
  va_gets Cx.1 Cx.2.1 hZ hS Cx.2.2.2.1 (Cx.2.2.2.2 _ (List.mem_cons_of_mem _ ql)) (fun _ h => h) hdg kk
theorem mv_stl (Cx : CallFix p m c cc nL s args (cd :: mv_ws) own) (hS : va_S A s.heap H locs) {t N : Nat} {f : Nat → Int32} (hT : va_T .int t N (fun j => .int (f j)) A s s.heap) (hN : N < 2 ^ 31) (j : Nat) {x : Int32} (hx : x = nI j) (hj : j < N) (hdg : decode cc pc = .ok (.iaload, 1))
    (kk : W p l e R s m args below meth c H locs cells slots Q (F0 m (pc + 1) ls (.int (f j) :: rest))) : W p l e R s m args below meth c H locs cells slots Q (F0 m pc ls (.int x :: .ref t :: rest)) := by
  subst hx
  exact va_ti Cx.1 Cx.2.1 hT hS (vp_in_nI hj hN) (by rw [nI_clamp (by omega)]) hdg kk
/-- behind a call -/
theorem mv_after {P : mSt → Prop} {v : Option Value} {st0 : List Value} {a : Array Value} (hr : va_Run p l e R s m args below meth c H locs cells slots 0 0 (F0 m pc ls st0) rest (mQ Y E A P v a) A) (hS : va_S A s.heap H locs)
    (kk : ∀ (S' : mSt) (H1 : Heap) (locs1 : List Loc), P S' → mHold Y E S' H1 → va_S A s.heap H1 locs1 → W p l e R s m args below meth c H1 locs1 cells slots Q (F0 m (pc + 3) ls (v.toList ++ rest))) : W p l e R s m args below meth c H locs cells slots Q (F0 m pc ls st0) := by
  intro T hT X
  obtain ⟨v', st₀, t, T', L, h0, X', hL, e1, e2, ⟨⟨hv, S', hps, hp⟩, hz, hk⟩, st⟩ := hr T hT X
  cases hv
  rw [h0] at hz hk
  obtain ⟨t2, a1, b1⟩ := kk S' T'.heap (locs ++ L) hps (by rw [e1]; exact hp)
    ⟨Nat.le_trans hS.1 (by rw [e1]; exact hz), fun q h1 h2 => by rw [e1, hk q (Nat.lt_of_lt_of_le h1 hS.1) h2]; exact hS.2.1 q h1 h2, fun q hq => by
      rcases List.mem_append.mp hq with h | h
      · exact hS.2.2 q h
      · exact hL q h⟩ T' rfl X'
  exact ⟨t2, st t2 a1, b1⟩
/-- an instance method of a class of ours, called by its own class's name -/
theorem mv_callV (Cx : CallFix p m c cc nL s args (cd :: mv_ws) own) (hG : mG E A s) (hH : mHold Y E S H) (hS : va_S A s.heap H locs) {C : String} {T : u_T} {N ci index k i d q maxL n : Nat} {y : MethodName} {bytes : ByteArray} {ret : Option FieldType} {fs : List Value} {P : mSt → Prop} {v : Option Value} {As : List Value}
    (hM : Met l y (Cond.code y bytes maxL ret :: mv_ws) (mRm d q) (mPc Y E A S (.ref (Y.2.1 E k i) :: As)) (mQ Y E A P v) 0 0 A) (qc : Cond.code y bytes maxL ret ∈ mv_ws) (ql : Cond.methodLink own index y ∈ mv_ws) (qi : Cond.instanceMethod y ∈ mv_ws) (qs : Cond.selects C y y ∈ mv_ws) (qn : Cond.initialized y.cls ∈ mv_ws)
    (hok : (k, i) ∈ Y.1) (he : Y.2.2 E S k i = .inr (ci, fs)) (hc : vwCl[ci]? = some (C, T, N)) (hd : y.cls ≠ "java/lang/invoke/MethodHandle" ∧ y.cls ≠ "java/lang/invoke/VarHandle" ∧ (parseMethodDescriptor y.desc).map (fun d => d.parameters.length) = some n) (hR : d + 1 ≤ R.frames ∧ 8 + (maxL + 11) + q ≤ R.locals) (hn : As.length = n) (hsz : ls.size = nL) {st0 : List Value} (hst : st0 = As.reverse ++ .ref (Y.2.1 E k i) :: rest) (hW : (rest.map fun v => v.category).sum ≤ 8) (hf : cells ≤ R.cells ∧ slots ≤ R.slots) (hdg : decode cc pc = .ok (.invokevirtual index, 3))
    (kk : ∀ (S' : mSt) (H1 : Heap) (locs1 : List Loc), P S' → mHold Y E S' H1 → va_S A s.heap H1 locs1 → W p l e R s m args below meth c H1 locs1 cells slots Q (F0 m (pc + 3) ls (v.toList ++ rest))) : W p l e R s m args below meth c H locs cells slots Q (F0 m pc ls st0) := by
  have hw : ∀ {w : Cond}, w ∈ mv_ws → w.before args s = true := fun h => Cx.2.2.2.2 _ (List.mem_cons_of_mem _ h)
  obtain ⟨q0, hq0⟩ := mWl_find hok
  refine mv_after (va_runV (As := As) (rest := rest) Cx hM ⟨callB_of n Cx.2.2.2.2 (mv_gi qc) rfl rfl rfl (hw qn) (hw ql) hd hR, hw qi, hw qs⟩ ⟨mPc.blind, va_recv hG.1 hH hc ((mWl_at hq0).trans (by rw [he])), fun U hU hWm => ⟨rfl, hG.go hS hU hWm, by rw [hU]; exact hH⟩⟩ rfl hn hsz hst (lv_room hW) hdg hf) hS kk
/-- a static method of a class of ours -/
theorem mv_callS (Cx : CallFix p m c cc nL s args (cd :: mv_ws) own) (hG : mG E A s) (hH : mHold Y E S H) (hS : va_S A s.heap H locs) {index d q maxL n : Nat} {y : MethodName} {bytes : ByteArray} {ret : Option FieldType} {P : mSt → Prop} {v : Option Value} {As : List Value}
    (hM : Met l y (Cond.code y bytes maxL ret :: mv_ws) (mRm d q) (mPc Y E A S As) (mQ Y E A P v) 0 0 A) (qc : Cond.code y bytes maxL ret ∈ mv_ws) (ql : Cond.methodLink own index y ∈ mv_ws) (qs : Cond.static y ∈ mv_ws) (qn : Cond.initialized y.cls ∈ mv_ws)
    (hd : y.cls ≠ "java/lang/invoke/MethodHandle" ∧ y.cls ≠ "java/lang/invoke/VarHandle" ∧ (parseMethodDescriptor y.desc).map (fun d => d.parameters.length) = some n) (hR : d + 1 ≤ R.frames ∧ 8 + (maxL + 11) + q ≤ R.locals) (hn : As.length = n) (hsz : ls.size = nL) {st0 : List Value} (hst : st0 = As.reverse ++ rest) (hW : (rest.map fun v => v.category).sum ≤ 8) (hf : cells ≤ R.cells ∧ slots ≤ R.slots) (hdg : decode cc pc = .ok (.invokestatic index, 3))
    (kk : ∀ (S' : mSt) (H1 : Heap) (locs1 : List Loc), P S' → mHold Y E S' H1 → va_S A s.heap H1 locs1 → W p l e R s m args below meth c H1 locs1 cells slots Q (F0 m (pc + 3) ls (v.toList ++ rest))) : W p l e R s m args below meth c H locs cells slots Q (F0 m pc ls st0) := by
  have hw : ∀ {w : Cond}, w ∈ mv_ws → w.before args s = true := fun h => Cx.2.2.2.2 _ (List.mem_cons_of_mem _ h)
  refine mv_after (va_runS (As := As) (rest := rest) Cx hM ⟨callB_of n Cx.2.2.2.2 (mv_gi qc) rfl rfl rfl (hw qn) (hw ql) hd hR, hw qs⟩ ⟨mPc.blind, fun U hU hWm => ⟨rfl, hG.go hS hU hWm, by rw [hU]; exact hH⟩⟩ rfl hn hsz hst (lv_room hW) hdg hf) hS kk
/-- ends -/
theorem mv_retv {P : mSt → Prop} (Cx : CallFix p m c cc nL s args (cd :: mv_ws) own) (hr : meth.sig.returnType = none) (hH : mHold Y E S H) (hS : va_S A s.heap H locs) (hE : P S) (hdg : decode cc pc = .ok (.return_, 1)) (hlocks : meth.locks = false) : W p l e R s m args below meth c H locs cells slots (MQ below (mQ Y E A P none) args s cells slots A) (F0 m pc ls []) := by
  exact W.vret Cx.1 Cx.2.1 hr (fun t ht _ => ⟨⟨rfl, S, hE, by rw [ht]; exact hH⟩, hS.F ht⟩) hS.2.2 hdg hlocks
theorem mv_reti {x x' : Int32} {P : mSt → Prop} (Cx : CallFix p m c cc nL s args (cd :: mv_ws) own) (hr : meth.sig.returnType = some .int) (hH : mHold Y E S H) (hS : va_S A s.heap H locs) (hx : x = x') (hE : P S) (hdg : decode cc pc = .ok (.ireturn, 1)) (hlocks : meth.locks = false) : W p l e R s m args below meth c H locs cells slots (MQ below (mQ Y E A P (some (.int x'))) args s cells slots A) (F0 m pc ls [.int x]) := by
  subst hx
  exact W.iret Cx.1 Cx.2.1 hr (fun t ht _ => ⟨⟨rfl, S, hE, by rw [ht]; exact hH⟩, hS.F ht⟩) hS.2.2 hdg hlocks
theorem mv_retz {x x' : Int32} {P : mSt → Prop} (Cx : CallFix p m c cc nL s args (cd :: mv_ws) own) (hr : meth.sig.returnType = some .boolean) (hH : mHold Y E S H) (hS : va_S A s.heap H locs) (hz : x = 0 ∨ x = 1) (hx : x = x') (hE : P S) (hdg : decode cc pc = .ok (.ireturn, 1)) (hlocks : meth.locks = false) : W p l e R s m args below meth c H locs cells slots (MQ below (mQ Y E A P (some (.int x'))) args s cells slots A) (F0 m pc ls [.int x]) := by
  subst hx
  exact W.zret Cx.1 Cx.2.1 hr (by rcases hz with h | h <;> (rw [h]; rfl)) (fun t ht _ => ⟨⟨rfl, S, hE, by rw [ht]; exact hH⟩, hS.F ht⟩) hS.2.2 hdg hlocks
theorem mv_retl {x x' : Int64} {P : mSt → Prop} (Cx : CallFix p m c cc nL s args (cd :: mv_ws) own) (hr : meth.sig.returnType = some .long) (hH : mHold Y E S H) (hS : va_S A s.heap H locs) (hx : x = x') (hE : P S) (hdg : decode cc pc = .ok (.lreturn, 1)) (hlocks : meth.locks = false) : W p l e R s m args below meth c H locs cells slots (MQ below (mQ Y E A P (some (.long x'))) args s cells slots A) (F0 m pc ls [.long x]) := by
  subst hx
  exact W.lret Cx.1 Cx.2.1 hr (fun t ht _ => ⟨⟨rfl, S, hE, by rw [ht]; exact hH⟩, hS.F ht⟩) hS.2.2 hdg hlocks
theorem mv_reta {v v' : Value} {rt : FieldType} {P : mSt → Prop} (Cx : CallFix p m c cc nL s args (cd :: mv_ws) own) (hr : meth.sig.returnType = some rt) (hrt : (∃ n, rt = .object n) ∨ ∃ t, rt = .array t) (hH : mHold Y E S H) (hS : va_S A s.heap H locs) (ha : v = .null ∨ ∃ a, v = .ref a) (hx : v = v') (hE : P S) (hdg : decode cc pc = .ok (.areturn, 1)) (hlocks : meth.locks = false) : W p l e R s m args below meth c H locs cells slots (MQ below (mQ Y E A P (some v')) args s cells slots A) (F0 m pc ls [v]) := by
  subst hx
  exact W.aret Cx.1 Cx.2.1 hr hrt ha (fun t ht _ => ⟨⟨rfl, S, hE, by rw [ht]; exact hH⟩, hS.F ht⟩) hS.2.2 hdg hlocks
theorem mv_eqi {x x' : Int32} (h : x = x') (k : W p l e R s m args below meth c H locs cells slots Q (F0 m pc ls (.int x' :: rest))) : W p l e R s m args below meth c H locs cells slots Q (F0 m pc ls (.int x :: rest)) := by
  subst h
  exact k
theorem mv_eql {x x' : Int64} (h : x = x') (k : W p l e R s m args below meth c H locs cells slots Q (F0 m pc ls (.long x' :: rest))) : W p l e R s m args below meth c H locs cells slots Q (F0 m pc ls (.long x :: rest)) := by
  subst h
  exact k
theorem mv_bas8 (Cx : CallFix p m c cc nL s args (cd :: mv_ws) own) (hG : mG E A s) (hO : mOwn Y E A) (hH : mHold Y E S H) (hS : va_S A s.heap H locs) {k i n : Nat} (hB : mIsB Y k i n) (j : Nat) {x v : Int32} (b : Int8) (hv : v = b.toInt32) (hx : x = nI j) (hj : j < n) (hdg : decode cc pc = .ok (.bastore, 1))
    (kk : ∀ (H1 : Heap) (locs1 : List Loc), mHold Y E (mB S k i j b) H1 → va_S A s.heap H1 locs1 → W p l e R s m args below meth c H1 locs1 cells slots Q (F0 m (pc + 1) ls rest)) : W p l e R s m args below meth c H locs cells slots Q (F0 m pc ls (.int v :: .int x :: .ref (Y.2.1 E k i) :: rest)) := by
  subst hv
  have h8 : b.toInt32.toInt8 = b := Int8.toInt8_toInt32 b
  exact mv_bas Cx hG hO hH hS hB j hx hj hdg (by rw [h8]; exact kk)
theorem mv_S {S' : mSt} (h : S = S') (hH : mHold Y E S H) : mHold Y E S' H := h ▸ hH
end MVS
