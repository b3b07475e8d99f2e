/-! ===== the law: one call of each ===== -/
section LWC
variable {p : Program} {l : Launch} {e : Env} {R : Room} {s : State} {m : MethodId} {args : Array Value} {below : List Frame} {meth : Method} {c : Code} {H : Heap} {cells slots : Nat} {Q : State → Prop}
variable {cc : ByteArray} {pc nL : Nat} {ls : Array Slot} {rest : List Value} {A : Nat → Prop} {Y : mLY} {E : mEv} {S : mSt} {cd : Cond} {own : String}
/-- a call out of the law: what lies outside of the callee's cells stays -/
theorem mv_callL (Cx : CallFix p m c cc nL s args (cd :: mv_ws) own) (hG : mG E A s) (hH : mHold Y E S H) (hU : va_S (fun q : Nat => s.heap.size ≤ q) s.heap H []) (hAU : ∀ q, A q → s.heap.size ≤ q) {C : String} {T : u_T} {N ci index k i d q maxL n : Nat} {y : MethodName} {bytes : ByteArray} {ret : Option FieldType} {fs : List Value} {P : mSt → Prop} {v : Option Value} {As : List Value}
    (hM : Met l y (Cond.code y bytes maxL ret :: mv_ws) (mRm d q) (mPc Y E A S (.ref (Y.2.1 E k i) :: As)) (mQ Y E A P v) 0 0 A) (qc : Cond.code y bytes maxL ret ∈ mv_ws) (ql : Cond.methodLink own index y ∈ mv_ws) (qi : Cond.instanceMethod y ∈ mv_ws) (qs : Cond.selects C y y ∈ mv_ws) (qn : Cond.initialized y.cls ∈ mv_ws)
    (hok : (k, i) ∈ Y.1) (he : Y.2.2 E S k i = .inr (ci, fs)) (hc : vwCl[ci]? = some (C, T, N)) (hd : y.cls ≠ "java/lang/invoke/MethodHandle" ∧ y.cls ≠ "java/lang/invoke/VarHandle" ∧ (parseMethodDescriptor y.desc).map (fun d => d.parameters.length) = some n) (hR : d + 1 ≤ R.frames ∧ 8 + (maxL + 11) + q ≤ R.locals) (hn : As.length = n) (hsz : ls.size = nL) {st0 : List Value} (hst : st0 = As.reverse ++ .ref (Y.2.1 E k i) :: rest) (hW : (rest.map fun v => v.category).sum ≤ 8) (hf : cells ≤ R.cells ∧ slots ≤ R.slots) (hdg : decode cc pc = .ok (.invokevirtual index, 3))
    (kk : ∀ (S' : mSt) (H1 : Heap), P S' → mHold Y E S' H1 → va_S (fun q : Nat => s.heap.size ≤ q) s.heap H1 [] → (∀ q, q < H.size → ¬ A q → H1[q]? = H[q]?) → W p l e R s m args below meth c H1 [] cells slots Q (F0 m (pc + 3) ls (v.toList ++ rest))) : W p l e R s m args below meth c H [] cells slots Q (F0 m pc ls st0) := by
  have hw : ∀ {w : Cond}, w ∈ mv_ws → w.before args s = true := fun h => Cx.2.2.2.2 _ (List.mem_cons_of_mem _ h)
  obtain ⟨q0, hq0⟩ := mWl_find hok
  have hS : va_S A s.heap H [] := ⟨hU.1, fun q h1 _ => hU.2.1 q h1 (Nat.not_le.mpr h1), fun q h => by cases h⟩
  intro T0 hT X
  obtain ⟨v', st₀, t, T', L, h0, X', hL, e1, e2, ⟨⟨hv, S', hps, hp⟩, hz, hk⟩, st⟩ := (va_runV (As := As) (rest := rest) Cx hM ⟨callB_of n Cx.2.2.2.2 (mv_gi qc) rfl rfl rfl (hw qn) (hw ql) hd hR, hw qi, hw qs⟩ ⟨mPc.blind, va_recv hG.1 hH hc ((mWl_at hq0).trans (by rw [he])), fun U hU hWm => ⟨rfl, hG.go hS hU hWm, by rw [hU]; exact hH⟩⟩ rfl hn hsz hst (lv_room hW) hdg hf) T0 hT X
  cases hv
  rw [h0] at hz hk
  have X'' := Stand.forget (locs := []) X' (fun q hq => hAU _ (hL q (by simpa using hq)))
  obtain ⟨t2, a1, b1⟩ := kk S' T'.heap hps (by rw [e1]; exact hp)
    ⟨Nat.le_trans hU.1 (by rw [e1]; exact hz), fun q h1 h2 => by rw [e1, hk q (Nat.lt_of_lt_of_le h1 hU.1) (fun a => absurd (hAU q a) (Nat.not_le.mpr h1))]; exact hU.2.1 q h1 h2, fun q h => by cases h⟩ (fun q h1 h2 => by rw [e1]; exact hk q h1 h2) T' rfl X''
  exact ⟨t2, st t2 a1, b1⟩
end LWC
theorem hold_kp {Y : mLY} {E : mEv} {A B : Nat → Prop} {S : mSt} {H H1 : Heap} (hO : mOwn Y E A) (h : mHold Y E S H) (hk : ∀ q, q < H.size → ¬ B q → H1[q]? = H[q]?) (hd : ∀ q, A q → ¬ B q) : mHold Y E S H1 := va_P.kept h (fun k q hq => hk q.1 ((h k q hq).lt) (hd _ ((hO.2 S).2 k q hq)))
def lwB (p : Program) (s : State) (m : MethodId) (c : Code) (b L : Nat) (xs : Nat → Int32) (E F : mEv) (A G : Nat → Prop) : Prop :=
  CallFix p m c cL_law 4 s #[Value.ref b] (Cond.initialized RX7 :: mv_ws) RL ∧ mG E A s ∧ mG F G s ∧ mOwn mLC E A ∧ mOwn mLM F G ∧ va_X b L xs s s.heap ∧ b < s.heap.size ∧ (∀ q, A q → s.heap.size ≤ q) ∧ (∀ q, G q → s.heap.size ≤ q) ∧ (∀ q, A q → ¬ G q) ∧ L ≤ 385
theorem p_doC {N : Nat} {C M : mSt} (h0 : Rel0 N C M) (x : Int32) : ∀ i, obO C x = some i → ∃ ds, bHas C (3 + i) ds := fun i h => by
  obtain ⟨-, hi, ho⟩ := obO_some h
  obtain ⟨-, -, n, hn, z1, -, -⟩ := (h0.2.2.2.2.2.2.2.2.2.2.1 i (by omega)).2 ho
  exact ⟨_, bHas_of z1 hn⟩
theorem p_sz {N : Nat} {C M : mSt} (h0 : Rel0 N C M) {t : Nat} (ht : t < 12) (ho : ¬ M.1 30 0 t = 0) : ∃ n, n ≤ mLn (3 + t) ∧ C.1 2 (3 + t) 1 = nI n ∧ M.1 34 0 t = nI n := by
  have h := h0.2.2.2.2.2.2.2.2.2.2.1 t ht
  rw [← h.1] at ho
  obtain ⟨-, -, n, hn, z1, z2, -⟩ := h.2 ho
  exact ⟨n, hn, z1, z2⟩
theorem p_doM {N : Nat} {C M : mSt} (h0 : Rel0 N C M) (x : Int32) : ∀ i, moO M x = some i → ∃ n, n ≤ 128 ∧ M.1 34 0 i = nI n := fun i h => by
  obtain ⟨-, hi, ho⟩ := opO_some (by decide) h
  obtain ⟨n, hn, -, z2⟩ := p_sz h0 (show i < 12 by omega) ho
  have := mLn_le (3 + i) (by omega)
  exact ⟨n, by omega, z2⟩
theorem p_ddM {N : Nat} {C M : mSt} (h0 : Rel0 N C M) (x kd : Int32) : ∀ i, mtO M x kd = some i → ∃ dn, M.1 34 0 (4 + i) = nI dn ∧ dn ≤ 64 := fun i h => by
  have hi := mtO_lt h
  obtain ⟨n, hn, -, z2⟩ := p_sz h0 (show 4 + i < 12 by omega) (opO_some (by decide) (mtO_some h).1).2.2
  rw [mLn_w] at hn
  exact ⟨n, z2, hn⟩
theorem p_dvM {N : Nat} {C M : mSt} (h0 : Rel0 N C M) (x kd : Int32) : ∀ i, mtO M x kd = some i → ∃ n, n ≤ 128 ∧ M.1 34 0 (4 + i) = nI n := fun i h => by
  obtain ⟨n, h1, h2⟩ := p_ddM h0 x kd i h
  exact ⟨n, by omega, h1⟩
theorem p_vsz {N : Nat} {C M : mSt} (h0 : Rel0 N C M) {x : Int32} {i : Nat} (h : vaO C x = some i) : ∃ n, n ≤ 64 ∧ C.1 2 (3 + (4 + i)) 1 = nI n := by
  obtain ⟨-, hi, ho⟩ := vaO_some h
  obtain ⟨-, -, n, hn, z1, -, -⟩ := (h0.2.2.2.2.2.2.2.2.2.2.1 (4 + i) (by omega)).2 ho
  rw [mLn_w] at hn
  exact ⟨n, hn, z1⟩
theorem p_ddC {N : Nat} {C M : mSt} (h0 : Rel0 N C M) (x kd : Int32) : ∀ i, voO C x kd = some i → ∃ dn, C.1 2 (3 + (4 + i)) 1 = nI dn ∧ dn ≤ 64 := fun i h => by
  obtain ⟨n, hn, z1⟩ := p_vsz h0 (voO_some h).1
  exact ⟨n, z1, hn⟩
theorem p_dvC {N : Nat} {C M : mSt} (h0 : Rel0 N C M) (x : Int32) : ∀ i, vaO C x = some i → ∃ ds, bHas C (3 + (4 + i)) ds := fun i h => by
  obtain ⟨n, hn, z1⟩ := p_vsz h0 h
  exact ⟨_, bHas_of z1 (by rw [mLn_w]; exact hn)⟩
set_option maxHeartbeats 4000000 in
set_option maxRecDepth 100000 in
theorem lw_c_feed {p : Program} {l : Launch} {e : Env} {s : State} {m : MethodId} {below : List Frame} {meth : Method} {c : Code} {Q : State → Prop} {b L : Nat} {xs : Nat → Int32} {E F : mEv} {A G : Nat → Prop} (B : lwB p s m c b L xs E F A G) {N i ca sl : Nat} {C M : mSt} {H : Heap} {ls : Array Slot} (hca : ca ≤ 600000) (hsl : sl ≤ 7302250) (hR : Rel N C M) (hN : N ≤ 1000) (hHC : mHold mLC E C H) (hHM : mHold mLM F M H) (hU : va_S (fun q : Nat => s.heap.size ≤ q) s.heap H []) (hl : lv_has ls 4 [(0, .ref b), (1, .ref (mAdC E 0 0)), (2, .ref (mAdM F 0 0)), (3, .int (nI i))]) (hi : i + 5 < L) (K : ∀ (C' M' : mSt) (H1 : Heap), Rel (N + 1) C' M' → mHold mLC E C' H1 → mHold mLM F M' H1 → va_S (fun q : Nat => s.heap.size ≤ q) s.heap H1 [] → W p l e room_1 s m #[Value.ref b] below meth c H1 [] ca sl Q (F0 m 1064 ls [])) : W p l e room_1 s m #[Value.ref b] below meth c H [] ca sl Q (F0 m 192 ls []) := by
  obtain ⟨Cx, hGC, hGM, hOC, hOM, hX, hbl, hAU, hGU, hdis, hL⟩ := B
  have hx := Cx.1
  have hb := Cx.2.1
  have hbA : ¬ (fun q : Nat => s.heap.size ≤ q) b := Nat.not_le.mpr hbl
  have hT := hR.1
  obtain ⟨⟨ts, htC, htM⟩, h0⟩ := hR
  obtain ⟨v1, hv1⟩ : ∃ v, v = xs (nI (i + 1)).toNatClampNeg := ⟨_, rfl⟩
  obtain ⟨v2, hv2⟩ : ∃ v, v = xs (nI (i + 2)).toNatClampNeg := ⟨_, rfl⟩
  obtain ⟨v3, hv3⟩ : ∃ v, v = xs (nI (i + 3)).toNatClampNeg := ⟨_, rfl⟩
  obtain ⟨v4, hv4⟩ : ∃ v, v = xs (nI (i + 4)).toNatClampNeg := ⟨_, rfl⟩
  obtain ⟨v5, hv5⟩ : ∃ v, v = xs (nI (i + 5)).toNatClampNeg := ⟨_, rfl⟩
  refine lv_aload_n hx hb dL_law_192 rfl (lv_at hl 1 rfl) ?_
  refine lv_aload_n hx hb dL_law_193 rfl (lv_at hl 0 rfl) ?_
  refine lv_iload_n hx hb dL_law_194 rfl (lv_at hl 3 rfl) ?_
  refine lv_iconst (v := 1) hx hb dL_law_195 (by decide) ?_
  refine lv_iadd hx hb dL_law_196 ?_
  refine mv_eqi (x' := nI (i + 1)) (nI_add i 1) ?_
  refine va_sld hx hb hX hbl hbA hU (vp_in_nI (by omega) (by omega)) dL_law_197 ?_
  refine mv_eqi (x' := v1) hv1.symm ?_
  refine lv_aload_n hx hb dL_law_198 rfl (lv_at hl 0 rfl) ?_
  refine lv_iload_n hx hb dL_law_199 rfl (lv_at hl 3 rfl) ?_
  refine lv_iconst (v := 2) hx hb dL_law_200 (by decide) ?_
  refine lv_iadd hx hb dL_law_201 ?_
  refine mv_eqi (x' := nI (i + 2)) (nI_add i 2) ?_
  refine va_sld hx hb hX hbl hbA hU (vp_in_nI (by omega) (by omega)) dL_law_202 ?_
  refine mv_eqi (x' := v2) hv2.symm ?_
  refine lv_aload_n hx hb dL_law_203 rfl (lv_at hl 0 rfl) ?_
  refine lv_iload_n hx hb dL_law_204 rfl (lv_at hl 3 rfl) ?_
  refine lv_iconst (v := 3) hx hb dL_law_205 (by decide) ?_
  refine lv_iadd hx hb dL_law_206 ?_
  refine mv_eqi (x' := nI (i + 3)) (nI_add i 3) ?_
  refine va_sld hx hb hX hbl hbA hU (vp_in_nI (by omega) (by omega)) dL_law_207 ?_
  refine mv_eqi (x' := v3) hv3.symm ?_
  refine lv_aload_n hx hb dL_law_208 rfl (lv_at hl 0 rfl) ?_
  refine lv_iload_n hx hb dL_law_209 rfl (lv_at hl 3 rfl) ?_
  refine lv_iconst (v := 4) hx hb dL_law_210 (by decide) ?_
  refine lv_iadd hx hb dL_law_211 ?_
  refine mv_eqi (x' := nI (i + 4)) (nI_add i 4) ?_
  refine va_sld hx hb hX hbl hbA hU (vp_in_nI (by omega) (by omega)) dL_law_212 ?_
  refine mv_eqi (x' := v4) hv4.symm ?_
  refine lv_aload_n hx hb dL_law_213 rfl (lv_at hl 0 rfl) ?_
  refine lv_iload_n hx hb dL_law_214 rfl (lv_at hl 3 rfl) ?_
  refine lv_iconst (v := 5) hx hb dL_law_215 (by decide) ?_
  refine lv_iadd hx hb dL_law_216 ?_
  refine mv_eqi (x' := nI (i + 5)) (nI_add i 5) ?_
  refine va_sld hx hb hX hbl hbA hU (vp_in_nI (by omega) (by omega)) dL_law_217 ?_
  refine mv_eqi (x' := v5) hv5.symm ?_
  refine mv_callL (Y := mLC) (C := RX7) (k := 0) (i := 0) (rest := []) Cx hGC hHC hU hAU (c_X7_feed l E A hOC C v1 v2 v3 v4 v5 ts htC) q_co_X7_feed q_ml_L_21 q_im_X7_feed q_se_X7_feed q_in_X7 okC_0 rfl rfl hd_X7_feed ⟨Nat.le_of_ble_eq_true rfl, Nat.le_of_ble_eq_true rfl⟩ rfl hl.1 rfl (Nat.le_of_ble_eq_true rfl) ⟨hca, hsl⟩ dL_law_218 (fun C' H1 hPC hhC hU hk => ?_)
  have hHM := hold_kp hOM hHM hk (fun q g a => hdis q a g)
  clear hHC hk
  refine W.eq (g2 := F0 m 221 ls [.int ((if ts.length + 20 ≤ 400 then nI (ts.length + 20) else -3))]) rfl ?_
  generalize H1 = H at hhC hHM hU ⊢
  refine lv_aload_n hx hb dL_law_221 rfl (lv_at hl 2 rfl) ?_
  refine lv_aload_n hx hb dL_law_222 rfl (lv_at hl 0 rfl) ?_
  refine lv_iload_n hx hb dL_law_223 rfl (lv_at hl 3 rfl) ?_
  refine lv_iconst (v := 1) hx hb dL_law_224 (by decide) ?_
  refine lv_iadd hx hb dL_law_225 ?_
  refine mv_eqi (x' := nI (i + 1)) (nI_add i 1) ?_
  refine va_sld hx hb hX hbl hbA hU (vp_in_nI (by omega) (by omega)) dL_law_226 ?_
  refine mv_eqi (x' := v1) hv1.symm ?_
  refine lv_aload_n hx hb dL_law_227 rfl (lv_at hl 0 rfl) ?_
  refine lv_iload_n hx hb dL_law_228 rfl (lv_at hl 3 rfl) ?_
  refine lv_iconst (v := 2) hx hb dL_law_229 (by decide) ?_
  refine lv_iadd hx hb dL_law_230 ?_
  refine mv_eqi (x' := nI (i + 2)) (nI_add i 2) ?_
  refine va_sld hx hb hX hbl hbA hU (vp_in_nI (by omega) (by omega)) dL_law_231 ?_
  refine mv_eqi (x' := v2) hv2.symm ?_
  refine lv_aload_n hx hb dL_law_232 rfl (lv_at hl 0 rfl) ?_
  refine lv_iload_n hx hb dL_law_233 rfl (lv_at hl 3 rfl) ?_
  refine lv_iconst (v := 3) hx hb dL_law_234 (by decide) ?_
  refine lv_iadd hx hb dL_law_235 ?_
  refine mv_eqi (x' := nI (i + 3)) (nI_add i 3) ?_
  refine va_sld hx hb hX hbl hbA hU (vp_in_nI (by omega) (by omega)) dL_law_236 ?_
  refine mv_eqi (x' := v3) hv3.symm ?_
  refine lv_aload_n hx hb dL_law_237 rfl (lv_at hl 0 rfl) ?_
  refine lv_iload_n hx hb dL_law_238 rfl (lv_at hl 3 rfl) ?_
  refine lv_iconst (v := 4) hx hb dL_law_239 (by decide) ?_
  refine lv_iadd hx hb dL_law_240 ?_
  refine mv_eqi (x' := nI (i + 4)) (nI_add i 4) ?_
  refine va_sld hx hb hX hbl hbA hU (vp_in_nI (by omega) (by omega)) dL_law_241 ?_
  refine mv_eqi (x' := v4) hv4.symm ?_
  refine lv_aload_n hx hb dL_law_242 rfl (lv_at hl 0 rfl) ?_
  refine lv_iload_n hx hb dL_law_243 rfl (lv_at hl 3 rfl) ?_
  refine lv_iconst (v := 5) hx hb dL_law_244 (by decide) ?_
  refine lv_iadd hx hb dL_law_245 ?_
  refine mv_eqi (x' := nI (i + 5)) (nI_add i 5) ?_
  refine va_sld hx hb hX hbl hbA hU (vp_in_nI (by omega) (by omega)) dL_law_246 ?_
  refine mv_eqi (x' := v5) hv5.symm ?_
  refine mv_callL (Y := mLM) (C := RX8) (k := 0) (i := 0) (rest := [.int ((if ts.length + 20 ≤ 400 then nI (ts.length + 20) else -3))]) Cx hGM hHM hU hGU (c_X8_feed l F G hOM M v1 v2 v3 v4 v5 ts htM) q_co_X8_feed q_ml_L_25 q_im_X8_feed q_se_X8_feed q_in_X8 okM_0 rfl rfl hd_X8_feed ⟨Nat.le_of_ble_eq_true rfl, Nat.le_of_ble_eq_true rfl⟩ rfl hl.1 rfl (Nat.le_of_ble_eq_true rfl) ⟨hca, hsl⟩ dL_law_247 (fun M' H1 hPM hhM hU hk => ?_)
  have hHC := hold_kp hOC hhC hk (fun q a => hdis q a)
  refine W.eq (g2 := F0 m 250 ls [.int ((if ts.length + 20 ≤ 400 then nI (ts.length + 20) else -3)), .int ((if ts.length + 20 ≤ 400 then nI (ts.length + 20) else -3))]) rfl ?_
  have hrl := rl_feed v1 v2 v3 v4 v5 ts htC htM h0 hN hPC hPM
  refine lv_icmp_eq (tgt := 1064) hx hb dL_law_250 (by decide) (fun hq => ?_) (fun hq => ?_)
  · exact K C' M' _ hrl.2 hHC hhM hU
  · exact absurd hrl.1 hq

set_option maxHeartbeats 4000000 in
set_option maxRecDepth 100000 in
theorem lw_c_end {p : Program} {l : Launch} {e : Env} {s : State} {m : MethodId} {below : List Frame} {meth : Method} {c : Code} {Q : State → Prop} {b L : Nat} {xs : Nat → Int32} {E F : mEv} {A G : Nat → Prop} (B : lwB p s m c b L xs E F A G) {N i ca sl : Nat} {C M : mSt} {H : Heap} {ls : Array Slot} (hca : ca ≤ 600000) (hsl : sl ≤ 7302250) (hR : Rel N C M) (hN : N ≤ 1000) (hHC : mHold mLC E C H) (hHM : mHold mLM F M H) (hU : va_S (fun q : Nat => s.heap.size ≤ q) s.heap H []) (hl : lv_has ls 4 [(0, .ref b), (1, .ref (mAdC E 0 0)), (2, .ref (mAdM F 0 0)), (3, .int (nI i))]) (hi : i + 5 < L) (K : ∀ (C' M' : mSt) (H1 : Heap), Rel (N + 1) C' M' → mHold mLC E C' H1 → mHold mLM F M' H1 → va_S (fun q : Nat => s.heap.size ≤ q) s.heap H1 [] → W p l e room_1 s m #[Value.ref b] below meth c H1 [] ca sl Q (F0 m 1064 ls [])) : W p l e room_1 s m #[Value.ref b] below meth c H [] ca sl Q (F0 m 255 ls []) := by
  obtain ⟨Cx, hGC, hGM, hOC, hOM, hX, hbl, hAU, hGU, hdis, hL⟩ := B
  have hx := Cx.1
  have hb := Cx.2.1
  have hbA : ¬ (fun q : Nat => s.heap.size ≤ q) b := Nat.not_le.mpr hbl
  have hT := hR.1
  obtain ⟨⟨ts, htC, htM⟩, h0⟩ := hR
  obtain ⟨v1, hv1⟩ : ∃ v, v = xs (nI (i + 1)).toNatClampNeg := ⟨_, rfl⟩
  refine lv_aload_n hx hb dL_law_255 rfl (lv_at hl 1 rfl) ?_
  refine lv_aload_n hx hb dL_law_256 rfl (lv_at hl 0 rfl) ?_
  refine lv_iload_n hx hb dL_law_257 rfl (lv_at hl 3 rfl) ?_
  refine lv_iconst (v := 1) hx hb dL_law_258 (by decide) ?_
  refine lv_iadd hx hb dL_law_259 ?_
  refine mv_eqi (x' := nI (i + 1)) (nI_add i 1) ?_
  refine va_sld hx hb hX hbl hbA hU (vp_in_nI (by omega) (by omega)) dL_law_260 ?_
  refine mv_eqi (x' := v1) hv1.symm ?_
  refine mv_callL (Y := mLC) (C := RX7) (k := 0) (i := 0) (rest := []) Cx hGC hHC hU hAU (c_X7_end l E A hOC C v1 ts htC) q_co_X7_end q_ml_L_26 q_im_X7_end q_se_X7_end q_in_X7 okC_0 rfl rfl hd_X7_end ⟨Nat.le_of_ble_eq_true rfl, Nat.le_of_ble_eq_true rfl⟩ rfl hl.1 rfl (Nat.le_of_ble_eq_true rfl) ⟨hca, hsl⟩ dL_law_261 (fun C' H1 hPC hhC hU hk => ?_)
  have hHM := hold_kp hOM hHM hk (fun q g a => hdis q a g)
  clear hHC hk
  refine W.eq (g2 := F0 m 264 ls [.int ((if ¬ v1 < 0 ∧ v1 ≤ nI ts.length then v1 else -1))]) rfl ?_
  generalize H1 = H at hhC hHM hU ⊢
  refine lv_aload_n hx hb dL_law_264 rfl (lv_at hl 2 rfl) ?_
  refine lv_aload_n hx hb dL_law_265 rfl (lv_at hl 0 rfl) ?_
  refine lv_iload_n hx hb dL_law_266 rfl (lv_at hl 3 rfl) ?_
  refine lv_iconst (v := 1) hx hb dL_law_267 (by decide) ?_
  refine lv_iadd hx hb dL_law_268 ?_
  refine mv_eqi (x' := nI (i + 1)) (nI_add i 1) ?_
  refine va_sld hx hb hX hbl hbA hU (vp_in_nI (by omega) (by omega)) dL_law_269 ?_
  refine mv_eqi (x' := v1) hv1.symm ?_
  refine mv_callL (Y := mLM) (C := RX8) (k := 0) (i := 0) (rest := [.int ((if ¬ v1 < 0 ∧ v1 ≤ nI ts.length then v1 else -1))]) Cx hGM hHM hU hGU (c_X8_end l F G hOM M v1 ts htM) q_co_X8_end q_ml_L_30 q_im_X8_end q_se_X8_end q_in_X8 okM_0 rfl rfl hd_X8_end ⟨Nat.le_of_ble_eq_true rfl, Nat.le_of_ble_eq_true rfl⟩ rfl hl.1 rfl (Nat.le_of_ble_eq_true rfl) ⟨hca, hsl⟩ dL_law_270 (fun M' H1 hPM hhM hU hk => ?_)
  have hHC := hold_kp hOC hhC hk (fun q a => hdis q a)
  refine W.eq (g2 := F0 m 273 ls [.int ((if ¬ v1 < 0 ∧ v1 ≤ nI ts.length then v1 else -1)), .int ((if ¬ v1 < 0 ∧ v1 ≤ nI ts.length then v1 else -1))]) rfl ?_
  have hrl := rl_end v1 ts htC htM h0 hN hPC hPM
  refine lv_icmp_eq (tgt := 1064) hx hb dL_law_273 (by decide) (fun hq => ?_) (fun hq => ?_)
  · exact K C' M' _ hrl.2 hHC hhM hU
  · exact absurd hrl.1 hq

set_option maxHeartbeats 4000000 in
set_option maxRecDepth 100000 in
theorem lw_c_octet {p : Program} {l : Launch} {e : Env} {s : State} {m : MethodId} {below : List Frame} {meth : Method} {c : Code} {Q : State → Prop} {b L : Nat} {xs : Nat → Int32} {E F : mEv} {A G : Nat → Prop} (B : lwB p s m c b L xs E F A G) {N i ca sl : Nat} {C M : mSt} {H : Heap} {ls : Array Slot} (hca : ca ≤ 600000) (hsl : sl ≤ 7302250) (hR : Rel N C M) (hN : N ≤ 1000) (hHC : mHold mLC E C H) (hHM : mHold mLM F M H) (hU : va_S (fun q : Nat => s.heap.size ≤ q) s.heap H []) (hl : lv_has ls 4 [(0, .ref b), (1, .ref (mAdC E 0 0)), (2, .ref (mAdM F 0 0)), (3, .int (nI i))]) (hi : i + 5 < L) (K : ∀ (C' M' : mSt) (H1 : Heap), Rel (N + 1) C' M' → mHold mLC E C' H1 → mHold mLM F M' H1 → va_S (fun q : Nat => s.heap.size ≤ q) s.heap H1 [] → W p l e room_1 s m #[Value.ref b] below meth c H1 [] ca sl Q (F0 m 1064 ls [])) : W p l e room_1 s m #[Value.ref b] below meth c H [] ca sl Q (F0 m 278 ls []) := by
  obtain ⟨Cx, hGC, hGM, hOC, hOM, hX, hbl, hAU, hGU, hdis, hL⟩ := B
  have hx := Cx.1
  have hb := Cx.2.1
  have hbA : ¬ (fun q : Nat => s.heap.size ≤ q) b := Nat.not_le.mpr hbl
  have hT := hR.1
  obtain ⟨⟨ts, htC, htM⟩, h0⟩ := hR
  obtain ⟨os, hoC, hoM⟩ := h0.1
  obtain ⟨v1, hv1⟩ : ∃ v, v = xs (nI (i + 1)).toNatClampNeg := ⟨_, rfl⟩
  refine lv_aload_n hx hb dL_law_278 rfl (lv_at hl 1 rfl) ?_
  refine lv_aload_n hx hb dL_law_279 rfl (lv_at hl 0 rfl) ?_
  refine lv_iload_n hx hb dL_law_280 rfl (lv_at hl 3 rfl) ?_
  refine lv_iconst (v := 1) hx hb dL_law_281 (by decide) ?_
  refine lv_iadd hx hb dL_law_282 ?_
  refine mv_eqi (x' := nI (i + 1)) (nI_add i 1) ?_
  refine va_sld hx hb hX hbl hbA hU (vp_in_nI (by omega) (by omega)) dL_law_283 ?_
  refine mv_eqi (x' := v1) hv1.symm ?_
  refine mv_callL (Y := mLC) (C := RX7) (k := 0) (i := 0) (rest := []) Cx hGC hHC hU hAU (c_X7_octet l E A hOC C v1 os hoC) q_co_X7_octet q_ml_L_31 q_im_X7_octet q_se_X7_octet q_in_X7 okC_0 rfl rfl hd_X7_octet ⟨Nat.le_of_ble_eq_true rfl, Nat.le_of_ble_eq_true rfl⟩ rfl hl.1 rfl (Nat.le_of_ble_eq_true rfl) ⟨hca, hsl⟩ dL_law_284 (fun C' H1 hPC hhC hU hk => ?_)
  have hHM := hold_kp hOM hHM hk (fun q g a => hdis q a g)
  clear hHC hk
  refine W.eq (g2 := F0 m 287 ls [.int ((if v1 = -1 then nI os.length else if v1 < 0 then -2 else if v1 < nI os.length then (os.getD v1.toNatClampNeg 0).toInt32 &&& 255 else -2))]) rfl ?_
  generalize H1 = H at hhC hHM hU ⊢
  refine lv_aload_n hx hb dL_law_287 rfl (lv_at hl 2 rfl) ?_
  refine lv_aload_n hx hb dL_law_288 rfl (lv_at hl 0 rfl) ?_
  refine lv_iload_n hx hb dL_law_289 rfl (lv_at hl 3 rfl) ?_
  refine lv_iconst (v := 1) hx hb dL_law_290 (by decide) ?_
  refine lv_iadd hx hb dL_law_291 ?_
  refine mv_eqi (x' := nI (i + 1)) (nI_add i 1) ?_
  refine va_sld hx hb hX hbl hbA hU (vp_in_nI (by omega) (by omega)) dL_law_292 ?_
  refine mv_eqi (x' := v1) hv1.symm ?_
  refine mv_callL (Y := mLM) (C := RX8) (k := 0) (i := 0) (rest := [.int ((if v1 = -1 then nI os.length else if v1 < 0 then -2 else if v1 < nI os.length then (os.getD v1.toNatClampNeg 0).toInt32 &&& 255 else -2))]) Cx hGM hHM hU hGU (c_X8_octet l F G hOM M v1 os hoM) q_co_X8_octet q_ml_L_34 q_im_X8_octet q_se_X8_octet q_in_X8 okM_0 rfl rfl hd_X8_octet ⟨Nat.le_of_ble_eq_true rfl, Nat.le_of_ble_eq_true rfl⟩ rfl hl.1 rfl (Nat.le_of_ble_eq_true rfl) ⟨hca, hsl⟩ dL_law_293 (fun M' H1 hPM hhM hU hk => ?_)
  have hHC := hold_kp hOC hhC hk (fun q a => hdis q a)
  refine W.eq (g2 := F0 m 296 ls [.int ((if v1 = -1 then nI os.length else if v1 < 0 then -2 else if v1 < nI os.length then (os.getD v1.toNatClampNeg 0).toInt32 &&& 255 else -2)), .int ((if v1 = -1 then nI os.length else if v1 < 0 then -2 else if v1 < nI os.length then (os.getD v1.toNatClampNeg 0).toInt32 &&& 255 else -2))]) rfl ?_
  have hrl := rl_octet v1 hT os h0 hN hPC hPM
  refine lv_icmp_eq (tgt := 1064) hx hb dL_law_296 (by decide) (fun hq => ?_) (fun hq => ?_)
  · exact K C' M' _ hrl.2 hHC hhM hU
  · exact absurd hrl.1 hq

set_option maxHeartbeats 4000000 in
set_option maxRecDepth 100000 in
theorem lw_c_back {p : Program} {l : Launch} {e : Env} {s : State} {m : MethodId} {below : List Frame} {meth : Method} {c : Code} {Q : State → Prop} {b L : Nat} {xs : Nat → Int32} {E F : mEv} {A G : Nat → Prop} (B : lwB p s m c b L xs E F A G) {N i ca sl : Nat} {C M : mSt} {H : Heap} {ls : Array Slot} (hca : ca ≤ 600000) (hsl : sl ≤ 7302250) (hR : Rel N C M) (hN : N ≤ 1000) (hHC : mHold mLC E C H) (hHM : mHold mLM F M H) (hU : va_S (fun q : Nat => s.heap.size ≤ q) s.heap H []) (hl : lv_has ls 4 [(0, .ref b), (1, .ref (mAdC E 0 0)), (2, .ref (mAdM F 0 0)), (3, .int (nI i))]) (hi : i + 5 < L) (K : ∀ (C' M' : mSt) (H1 : Heap), Rel (N + 1) C' M' → mHold mLC E C' H1 → mHold mLM F M' H1 → va_S (fun q : Nat => s.heap.size ≤ q) s.heap H1 [] → W p l e room_1 s m #[Value.ref b] below meth c H1 [] ca sl Q (F0 m 1064 ls [])) : W p l e room_1 s m #[Value.ref b] below meth c H [] ca sl Q (F0 m 301 ls []) := by
  obtain ⟨Cx, hGC, hGM, hOC, hOM, hX, hbl, hAU, hGU, hdis, hL⟩ := B
  have hx := Cx.1
  have hb := Cx.2.1
  have hbA : ¬ (fun q : Nat => s.heap.size ≤ q) b := Nat.not_le.mpr hbl
  have hT := hR.1
  obtain ⟨⟨ts, htC, htM⟩, h0⟩ := hR
  obtain ⟨os, hoC, hoM⟩ := h0.1
  refine lv_aload_n hx hb dL_law_301 rfl (lv_at hl 1 rfl) ?_
  refine mv_callL (Y := mLC) (C := RX7) (k := 0) (i := 0) (rest := []) Cx hGC hHC hU hAU (c_X7_back l E A hOC C ts htC os hoC) q_co_X7_back q_ml_L_35 q_im_X7_back q_se_X7_back q_in_X7 okC_0 rfl rfl hd_X7_back ⟨Nat.le_of_ble_eq_true rfl, Nat.le_of_ble_eq_true rfl⟩ rfl hl.1 rfl (Nat.le_of_ble_eq_true rfl) ⟨hca, hsl⟩ dL_law_302 (fun C' H1 hPC hhC hU hk => ?_)
  have hHM := hold_kp hOM hHM hk (fun q g a => hdis q a g)
  clear hHC hk
  refine W.eq (g2 := F0 m 305 ls [.int ((if ts.length + os.length ≤ 400 then nI (ts.length + os.length) else -3))]) rfl ?_
  generalize H1 = H at hhC hHM hU ⊢
  refine lv_aload_n hx hb dL_law_305 rfl (lv_at hl 2 rfl) ?_
  refine mv_callL (Y := mLM) (C := RX8) (k := 0) (i := 0) (rest := [.int ((if ts.length + os.length ≤ 400 then nI (ts.length + os.length) else -3))]) Cx hGM hHM hU hGU (c_X8_back l F G hOM M ts htM os hoM) q_co_X8_back q_ml_L_39 q_im_X8_back q_se_X8_back q_in_X8 okM_0 rfl rfl hd_X8_back ⟨Nat.le_of_ble_eq_true rfl, Nat.le_of_ble_eq_true rfl⟩ rfl hl.1 rfl (Nat.le_of_ble_eq_true rfl) ⟨hca, hsl⟩ dL_law_306 (fun M' H1 hPM hhM hU hk => ?_)
  have hHC := hold_kp hOC hhC hk (fun q a => hdis q a)
  refine W.eq (g2 := F0 m 309 ls [.int ((if ts.length + os.length ≤ 400 then nI (ts.length + os.length) else -3)), .int ((if ts.length + os.length ≤ 400 then nI (ts.length + os.length) else -3))]) rfl ?_
  have hrl := rl_back ts htC htM os h0 hN hPC hPM
  refine lv_icmp_eq (tgt := 1064) hx hb dL_law_309 (by decide) (fun hq => ?_) (fun hq => ?_)
  · exact K C' M' _ hrl.2 hHC hhM hU
  · exact absurd hrl.1 hq

set_option maxHeartbeats 4000000 in
set_option maxRecDepth 100000 in
theorem lw_c_hash {p : Program} {l : Launch} {e : Env} {s : State} {m : MethodId} {below : List Frame} {meth : Method} {c : Code} {Q : State → Prop} {b L : Nat} {xs : Nat → Int32} {E F : mEv} {A G : Nat → Prop} (B : lwB p s m c b L xs E F A G) {N i ca sl : Nat} {C M : mSt} {H : Heap} {ls : Array Slot} (hca : ca ≤ 600000) (hsl : sl ≤ 7302250) (hR : Rel N C M) (hN : N ≤ 1000) (hHC : mHold mLC E C H) (hHM : mHold mLM F M H) (hU : va_S (fun q : Nat => s.heap.size ≤ q) s.heap H []) (hl : lv_has ls 4 [(0, .ref b), (1, .ref (mAdC E 0 0)), (2, .ref (mAdM F 0 0)), (3, .int (nI i))]) (hi : i + 5 < L) (K : ∀ (C' M' : mSt) (H1 : Heap), Rel (N + 1) C' M' → mHold mLC E C' H1 → mHold mLM F M' H1 → va_S (fun q : Nat => s.heap.size ≤ q) s.heap H1 [] → W p l e room_1 s m #[Value.ref b] below meth c H1 [] ca sl Q (F0 m 1064 ls [])) : W p l e room_1 s m #[Value.ref b] below meth c H [] ca sl Q (F0 m 314 ls []) := by
  obtain ⟨Cx, hGC, hGM, hOC, hOM, hX, hbl, hAU, hGU, hdis, hL⟩ := B
  have hx := Cx.1
  have hb := Cx.2.1
  have hbA : ¬ (fun q : Nat => s.heap.size ≤ q) b := Nat.not_le.mpr hbl
  have hT := hR.1
  obtain ⟨⟨ts, htC, htM⟩, h0⟩ := hR
  refine lv_aload_n hx hb dL_law_314 rfl (lv_at hl 1 rfl) ?_
  refine mv_callL (Y := mLC) (C := RX7) (k := 0) (i := 0) (rest := []) Cx hGC hHC hU hAU (c_X7_hash l E A hOC C ts htC) q_co_X7_hash q_ml_L_40 q_im_X7_hash q_se_X7_hash q_in_X7 okC_0 rfl rfl hd_X7_hash ⟨Nat.le_of_ble_eq_true rfl, Nat.le_of_ble_eq_true rfl⟩ rfl hl.1 rfl (Nat.le_of_ble_eq_true rfl) ⟨hca, hsl⟩ dL_law_315 (fun C' H1 hPC hhC hU hk => ?_)
  have hHM := hold_kp hOM hHM hk (fun q g a => hdis q a g)
  clear hHC hk
  refine W.eq (g2 := F0 m 318 ls [.int (32)]) rfl ?_
  generalize H1 = H at hhC hHM hU ⊢
  refine lv_aload_n hx hb dL_law_318 rfl (lv_at hl 2 rfl) ?_
  refine mv_callL (Y := mLM) (C := RX8) (k := 0) (i := 0) (rest := [.int (32)]) Cx hGM hHM hU hGU (c_X8_hash l F G hOM M ts htM) q_co_X8_hash q_ml_L_43 q_im_X8_hash q_se_X8_hash q_in_X8 okM_0 rfl rfl hd_X8_hash ⟨Nat.le_of_ble_eq_true rfl, Nat.le_of_ble_eq_true rfl⟩ rfl hl.1 rfl (Nat.le_of_ble_eq_true rfl) ⟨hca, hsl⟩ dL_law_319 (fun M' H1 hPM hhM hU hk => ?_)
  have hHC := hold_kp hOC hhC hk (fun q a => hdis q a)
  refine W.eq (g2 := F0 m 322 ls [.int (32), .int (32)]) rfl ?_
  have hrl := rl_hash ts h0 hN hPC hPM
  refine lv_icmp_eq (tgt := 1064) hx hb dL_law_322 (by decide) (fun hq => ?_) (fun hq => ?_)
  · exact K C' M' _ hrl.2 hHC hhM hU
  · exact absurd hrl.1 hq

set_option maxHeartbeats 4000000 in
set_option maxRecDepth 100000 in
theorem lw_c_key {p : Program} {l : Launch} {e : Env} {s : State} {m : MethodId} {below : List Frame} {meth : Method} {c : Code} {Q : State → Prop} {b L : Nat} {xs : Nat → Int32} {E F : mEv} {A G : Nat → Prop} (B : lwB p s m c b L xs E F A G) {N i ca sl : Nat} {C M : mSt} {H : Heap} {ls : Array Slot} (hca : ca ≤ 600000) (hsl : sl ≤ 7302250) (hR : Rel N C M) (hN : N ≤ 1000) (hHC : mHold mLC E C H) (hHM : mHold mLM F M H) (hU : va_S (fun q : Nat => s.heap.size ≤ q) s.heap H []) (hl : lv_has ls 4 [(0, .ref b), (1, .ref (mAdC E 0 0)), (2, .ref (mAdM F 0 0)), (3, .int (nI i))]) (hi : i + 5 < L) (K : ∀ (C' M' : mSt) (H1 : Heap), Rel (N + 1) C' M' → mHold mLC E C' H1 → mHold mLM F M' H1 → va_S (fun q : Nat => s.heap.size ≤ q) s.heap H1 [] → W p l e room_1 s m #[Value.ref b] below meth c H1 [] ca sl Q (F0 m 1064 ls [])) : W p l e room_1 s m #[Value.ref b] below meth c H [] ca sl Q (F0 m 327 ls []) := by
  obtain ⟨Cx, hGC, hGM, hOC, hOM, hX, hbl, hAU, hGU, hdis, hL⟩ := B
  have hx := Cx.1
  have hb := Cx.2.1
  have hbA : ¬ (fun q : Nat => s.heap.size ≤ q) b := Nat.not_le.mpr hbl
  have hT := hR.1
  obtain ⟨⟨ts, htC, htM⟩, h0⟩ := hR
  refine lv_aload_n hx hb dL_law_327 rfl (lv_at hl 1 rfl) ?_
  refine mv_callL (Y := mLC) (C := RX7) (k := 0) (i := 0) (rest := []) Cx hGC hHC hU hAU (c_X7_key l E A hOC C ts htC) q_co_X7_key q_ml_L_44 q_im_X7_key q_se_X7_key q_in_X7 okC_0 rfl rfl hd_X7_key ⟨Nat.le_of_ble_eq_true rfl, Nat.le_of_ble_eq_true rfl⟩ rfl hl.1 rfl (Nat.le_of_ble_eq_true rfl) ⟨hca, hsl⟩ dL_law_328 (fun C' H1 hPC hhC hU hk => ?_)
  have hHM := hold_kp hOM hHM hk (fun q g a => hdis q a g)
  clear hHC hk
  refine W.eq (g2 := F0 m 331 ls [.int (0)]) rfl ?_
  generalize H1 = H at hhC hHM hU ⊢
  refine lv_aload_n hx hb dL_law_331 rfl (lv_at hl 2 rfl) ?_
  refine mv_callL (Y := mLM) (C := RX8) (k := 0) (i := 0) (rest := [.int (0)]) Cx hGM hHM hU hGU (c_X8_key l F G hOM M ts htM) q_co_X8_key q_ml_L_47 q_im_X8_key q_se_X8_key q_in_X8 okM_0 rfl rfl hd_X8_key ⟨Nat.le_of_ble_eq_true rfl, Nat.le_of_ble_eq_true rfl⟩ rfl hl.1 rfl (Nat.le_of_ble_eq_true rfl) ⟨hca, hsl⟩ dL_law_332 (fun M' H1 hPM hhM hU hk => ?_)
  have hHC := hold_kp hOC hhC hk (fun q a => hdis q a)
  refine W.eq (g2 := F0 m 335 ls [.int (0), .int (0)]) rfl ?_
  have hrl := rl_key ts h0 hN hPC hPM
  refine lv_icmp_eq (tgt := 1064) hx hb dL_law_335 (by decide) (fun hq => ?_) (fun hq => ?_)
  · exact K C' M' _ hrl.2 hHC hhM hU
  · exact absurd hrl.1 hq

set_option maxHeartbeats 4000000 in
set_option maxRecDepth 100000 in
theorem lw_c_extend {p : Program} {l : Launch} {e : Env} {s : State} {m : MethodId} {below : List Frame} {meth : Method} {c : Code} {Q : State → Prop} {b L : Nat} {xs : Nat → Int32} {E F : mEv} {A G : Nat → Prop} (B : lwB p s m c b L xs E F A G) {N i ca sl : Nat} {C M : mSt} {H : Heap} {ls : Array Slot} (hca : ca ≤ 600000) (hsl : sl ≤ 7302250) (hR : Rel N C M) (hN : N ≤ 1000) (hHC : mHold mLC E C H) (hHM : mHold mLM F M H) (hU : va_S (fun q : Nat => s.heap.size ≤ q) s.heap H []) (hl : lv_has ls 4 [(0, .ref b), (1, .ref (mAdC E 0 0)), (2, .ref (mAdM F 0 0)), (3, .int (nI i))]) (hi : i + 5 < L) (K : ∀ (C' M' : mSt) (H1 : Heap), Rel (N + 1) C' M' → mHold mLC E C' H1 → mHold mLM F M' H1 → va_S (fun q : Nat => s.heap.size ≤ q) s.heap H1 [] → W p l e room_1 s m #[Value.ref b] below meth c H1 [] ca sl Q (F0 m 1064 ls [])) : W p l e room_1 s m #[Value.ref b] below meth c H [] ca sl Q (F0 m 340 ls []) := by
  obtain ⟨Cx, hGC, hGM, hOC, hOM, hX, hbl, hAU, hGU, hdis, hL⟩ := B
  have hx := Cx.1
  have hb := Cx.2.1
  have hbA : ¬ (fun q : Nat => s.heap.size ≤ q) b := Nat.not_le.mpr hbl
  have hT := hR.1
  obtain ⟨⟨ts, htC, htM⟩, h0⟩ := hR
  obtain ⟨v1, hv1⟩ : ∃ v, v = xs (nI (i + 1)).toNatClampNeg := ⟨_, rfl⟩
  refine lv_aload_n hx hb dL_law_340 rfl (lv_at hl 1 rfl) ?_
  refine lv_aload_n hx hb dL_law_341 rfl (lv_at hl 0 rfl) ?_
  refine lv_iload_n hx hb dL_law_342 rfl (lv_at hl 3 rfl) ?_
  refine lv_iconst (v := 1) hx hb dL_law_343 (by decide) ?_
  refine lv_iadd hx hb dL_law_344 ?_
  refine mv_eqi (x' := nI (i + 1)) (nI_add i 1) ?_
  refine va_sld hx hb hX hbl hbA hU (vp_in_nI (by omega) (by omega)) dL_law_345 ?_
  refine mv_eqi (x' := v1) hv1.symm ?_
  refine mv_callL (Y := mLC) (C := RX7) (k := 0) (i := 0) (rest := []) Cx hGC hHC hU hAU (c_X7_extend l E A hOC C v1 ts htC) q_co_X7_extend q_ml_L_48 q_im_X7_extend q_se_X7_extend q_in_X7 okC_0 rfl rfl hd_X7_extend ⟨Nat.le_of_ble_eq_true rfl, Nat.le_of_ble_eq_true rfl⟩ rfl hl.1 rfl (Nat.le_of_ble_eq_true rfl) ⟨hca, hsl⟩ dL_law_346 (fun C' H1 hPC hhC hU hk => ?_)
  have hHM := hold_kp hOM hHM hk (fun q g a => hdis q a g)
  clear hHC hk
  refine W.eq (g2 := F0 m 349 ls [.int ((if ¬ v1 < 0 ∧ v1 < nI 8 then 0 else -1))]) rfl ?_
  generalize H1 = H at hhC hHM hU ⊢
  refine lv_aload_n hx hb dL_law_349 rfl (lv_at hl 2 rfl) ?_
  refine lv_aload_n hx hb dL_law_350 rfl (lv_at hl 0 rfl) ?_
  refine lv_iload_n hx hb dL_law_351 rfl (lv_at hl 3 rfl) ?_
  refine lv_iconst (v := 1) hx hb dL_law_352 (by decide) ?_
  refine lv_iadd hx hb dL_law_353 ?_
  refine mv_eqi (x' := nI (i + 1)) (nI_add i 1) ?_
  refine va_sld hx hb hX hbl hbA hU (vp_in_nI (by omega) (by omega)) dL_law_354 ?_
  refine mv_eqi (x' := v1) hv1.symm ?_
  refine mv_callL (Y := mLM) (C := RX8) (k := 0) (i := 0) (rest := [.int ((if ¬ v1 < 0 ∧ v1 < nI 8 then 0 else -1))]) Cx hGM hHM hU hGU (c_X8_extend l F G hOM M v1 ts htM) q_co_X8_extend q_ml_L_51 q_im_X8_extend q_se_X8_extend q_in_X8 okM_0 rfl rfl hd_X8_extend ⟨Nat.le_of_ble_eq_true rfl, Nat.le_of_ble_eq_true rfl⟩ rfl hl.1 rfl (Nat.le_of_ble_eq_true rfl) ⟨hca, hsl⟩ dL_law_355 (fun M' H1 hPM hhM hU hk => ?_)
  have hHC := hold_kp hOC hhC hk (fun q a => hdis q a)
  refine W.eq (g2 := F0 m 358 ls [.int ((if ¬ v1 < 0 ∧ v1 < nI 8 then 0 else -1)), .int ((if ¬ v1 < 0 ∧ v1 < nI 8 then 0 else -1))]) rfl ?_
  have hrl := rl_extend v1 ts h0 hN hPC hPM
  refine lv_icmp_eq (tgt := 1064) hx hb dL_law_358 (by decide) (fun hq => ?_) (fun hq => ?_)
  · exact K C' M' _ hrl.2 hHC hhM hU
  · exact absurd hrl.1 hq

set_option maxHeartbeats 4000000 in
set_option maxRecDepth 100000 in
theorem lw_c_reset {p : Program} {l : Launch} {e : Env} {s : State} {m : MethodId} {below : List Frame} {meth : Method} {c : Code} {Q : State → Prop} {b L : Nat} {xs : Nat → Int32} {E F : mEv} {A G : Nat → Prop} (B : lwB p s m c b L xs E F A G) {N i ca sl : Nat} {C M : mSt} {H : Heap} {ls : Array Slot} (hca : ca ≤ 600000) (hsl : sl ≤ 7302250) (hR : Rel N C M) (hN : N ≤ 1000) (hHC : mHold mLC E C H) (hHM : mHold mLM F M H) (hU : va_S (fun q : Nat => s.heap.size ≤ q) s.heap H []) (hl : lv_has ls 4 [(0, .ref b), (1, .ref (mAdC E 0 0)), (2, .ref (mAdM F 0 0)), (3, .int (nI i))]) (hi : i + 5 < L) (K : ∀ (C' M' : mSt) (H1 : Heap), Rel (N + 1) C' M' → mHold mLC E C' H1 → mHold mLM F M' H1 → va_S (fun q : Nat => s.heap.size ≤ q) s.heap H1 [] → W p l e room_1 s m #[Value.ref b] below meth c H1 [] ca sl Q (F0 m 1064 ls [])) : W p l e room_1 s m #[Value.ref b] below meth c H [] ca sl Q (F0 m 363 ls []) := by
  obtain ⟨Cx, hGC, hGM, hOC, hOM, hX, hbl, hAU, hGU, hdis, hL⟩ := B
  have hx := Cx.1
  have hb := Cx.2.1
  have hbA : ¬ (fun q : Nat => s.heap.size ≤ q) b := Nat.not_le.mpr hbl
  have hT := hR.1
  obtain ⟨⟨ts, htC, htM⟩, h0⟩ := hR
  obtain ⟨v1, hv1⟩ : ∃ v, v = xs (nI (i + 1)).toNatClampNeg := ⟨_, rfl⟩
  refine lv_aload_n hx hb dL_law_363 rfl (lv_at hl 1 rfl) ?_
  refine lv_aload_n hx hb dL_law_364 rfl (lv_at hl 0 rfl) ?_
  refine lv_iload_n hx hb dL_law_365 rfl (lv_at hl 3 rfl) ?_
  refine lv_iconst (v := 1) hx hb dL_law_366 (by decide) ?_
  refine lv_iadd hx hb dL_law_367 ?_
  refine mv_eqi (x' := nI (i + 1)) (nI_add i 1) ?_
  refine va_sld hx hb hX hbl hbA hU (vp_in_nI (by omega) (by omega)) dL_law_368 ?_
  refine mv_eqi (x' := v1) hv1.symm ?_
  refine mv_callL (Y := mLC) (C := RX7) (k := 0) (i := 0) (rest := []) Cx hGC hHC hU hAU (c_X7_reset l E A hOC C v1) q_co_X7_reset q_ml_L_52 q_im_X7_reset q_se_X7_reset q_in_X7 okC_0 rfl rfl hd_X7_reset ⟨Nat.le_of_ble_eq_true rfl, Nat.le_of_ble_eq_true rfl⟩ rfl hl.1 rfl (Nat.le_of_ble_eq_true rfl) ⟨hca, hsl⟩ dL_law_369 (fun C' H1 hPC hhC hU hk => ?_)
  have hHM := hold_kp hOM hHM hk (fun q g a => hdis q a g)
  clear hHC hk
  refine W.eq (g2 := F0 m 372 ls [.int ((if v1 = 6 ∨ v1 = 7 then 0 else -1))]) rfl ?_
  generalize H1 = H at hhC hHM hU ⊢
  refine lv_aload_n hx hb dL_law_372 rfl (lv_at hl 2 rfl) ?_
  refine lv_aload_n hx hb dL_law_373 rfl (lv_at hl 0 rfl) ?_
  refine lv_iload_n hx hb dL_law_374 rfl (lv_at hl 3 rfl) ?_
  refine lv_iconst (v := 1) hx hb dL_law_375 (by decide) ?_
  refine lv_iadd hx hb dL_law_376 ?_
  refine mv_eqi (x' := nI (i + 1)) (nI_add i 1) ?_
  refine va_sld hx hb hX hbl hbA hU (vp_in_nI (by omega) (by omega)) dL_law_377 ?_
  refine mv_eqi (x' := v1) hv1.symm ?_
  refine mv_callL (Y := mLM) (C := RX8) (k := 0) (i := 0) (rest := [.int ((if v1 = 6 ∨ v1 = 7 then 0 else -1))]) Cx hGM hHM hU hGU (c_X8_reset l F G hOM M v1) q_co_X8_reset q_ml_L_55 q_im_X8_reset q_se_X8_reset q_in_X8 okM_0 rfl rfl hd_X8_reset ⟨Nat.le_of_ble_eq_true rfl, Nat.le_of_ble_eq_true rfl⟩ rfl hl.1 rfl (Nat.le_of_ble_eq_true rfl) ⟨hca, hsl⟩ dL_law_378 (fun M' H1 hPM hhM hU hk => ?_)
  have hHC := hold_kp hOC hhC hk (fun q a => hdis q a)
  refine W.eq (g2 := F0 m 381 ls [.int ((if v1 = 6 ∨ v1 = 7 then 0 else -1)), .int ((if v1 = 6 ∨ v1 = 7 then 0 else -1))]) rfl ?_
  have hrl := rl_reset v1 hT h0 hN hPC hPM
  refine lv_icmp_eq (tgt := 1064) hx hb dL_law_381 (by decide) (fun hq => ?_) (fun hq => ?_)
  · exact K C' M' _ hrl.2 hHC hhM hU
  · exact absurd hrl.1 hq

set_option maxHeartbeats 4000000 in
set_option maxRecDepth 100000 in
theorem lw_c_state {p : Program} {l : Launch} {e : Env} {s : State} {m : MethodId} {below : List Frame} {meth : Method} {c : Code} {Q : State → Prop} {b L : Nat} {xs : Nat → Int32} {E F : mEv} {A G : Nat → Prop} (B : lwB p s m c b L xs E F A G) {N i ca sl : Nat} {C M : mSt} {H : Heap} {ls : Array Slot} (hca : ca ≤ 600000) (hsl : sl ≤ 7302250) (hR : Rel N C M) (hN : N ≤ 1000) (hHC : mHold mLC E C H) (hHM : mHold mLM F M H) (hU : va_S (fun q : Nat => s.heap.size ≤ q) s.heap H []) (hl : lv_has ls 4 [(0, .ref b), (1, .ref (mAdC E 0 0)), (2, .ref (mAdM F 0 0)), (3, .int (nI i))]) (hi : i + 5 < L) (K : ∀ (C' M' : mSt) (H1 : Heap), Rel (N + 1) C' M' → mHold mLC E C' H1 → mHold mLM F M' H1 → va_S (fun q : Nat => s.heap.size ≤ q) s.heap H1 [] → W p l e room_1 s m #[Value.ref b] below meth c H1 [] ca sl Q (F0 m 1064 ls [])) : W p l e room_1 s m #[Value.ref b] below meth c H [] ca sl Q (F0 m 386 ls []) := by
  obtain ⟨Cx, hGC, hGM, hOC, hOM, hX, hbl, hAU, hGU, hdis, hL⟩ := B
  have hx := Cx.1
  have hb := Cx.2.1
  have hbA : ¬ (fun q : Nat => s.heap.size ≤ q) b := Nat.not_le.mpr hbl
  have hT := hR.1
  obtain ⟨⟨ts, htC, htM⟩, h0⟩ := hR
  obtain ⟨v1, hv1⟩ : ∃ v, v = xs (nI (i + 1)).toNatClampNeg := ⟨_, rfl⟩
  refine lv_aload_n hx hb dL_law_386 rfl (lv_at hl 1 rfl) ?_
  refine lv_aload_n hx hb dL_law_387 rfl (lv_at hl 0 rfl) ?_
  refine lv_iload_n hx hb dL_law_388 rfl (lv_at hl 3 rfl) ?_
  refine lv_iconst (v := 1) hx hb dL_law_389 (by decide) ?_
  refine lv_iadd hx hb dL_law_390 ?_
  refine mv_eqi (x' := nI (i + 1)) (nI_add i 1) ?_
  refine va_sld hx hb hX hbl hbA hU (vp_in_nI (by omega) (by omega)) dL_law_391 ?_
  refine mv_eqi (x' := v1) hv1.symm ?_
  refine mv_callL (Y := mLC) (C := RX7) (k := 0) (i := 0) (rest := []) Cx hGC hHC hU hAU (c_X7_state l E A hOC C v1) q_co_X7_state q_ml_L_56 q_im_X7_state q_se_X7_state q_in_X7 okC_0 rfl rfl hd_X7_state ⟨Nat.le_of_ble_eq_true rfl, Nat.le_of_ble_eq_true rfl⟩ rfl hl.1 rfl (Nat.le_of_ble_eq_true rfl) ⟨hca, hsl⟩ dL_law_392 (fun C' H1 hPC hhC hU hk => ?_)
  have hHM := hold_kp hOM hHM hk (fun q g a => hdis q a g)
  clear hHC hk
  refine W.eq (g2 := F0 m 395 ls [.int (32)]) rfl ?_
  generalize H1 = H at hhC hHM hU ⊢
  refine lv_aload_n hx hb dL_law_395 rfl (lv_at hl 2 rfl) ?_
  refine lv_aload_n hx hb dL_law_396 rfl (lv_at hl 0 rfl) ?_
  refine lv_iload_n hx hb dL_law_397 rfl (lv_at hl 3 rfl) ?_
  refine lv_iconst (v := 1) hx hb dL_law_398 (by decide) ?_
  refine lv_iadd hx hb dL_law_399 ?_
  refine mv_eqi (x' := nI (i + 1)) (nI_add i 1) ?_
  refine va_sld hx hb hX hbl hbA hU (vp_in_nI (by omega) (by omega)) dL_law_400 ?_
  refine mv_eqi (x' := v1) hv1.symm ?_
  refine mv_callL (Y := mLM) (C := RX8) (k := 0) (i := 0) (rest := [.int (32)]) Cx hGM hHM hU hGU (c_X8_state l F G hOM M v1) q_co_X8_state q_ml_L_59 q_im_X8_state q_se_X8_state q_in_X8 okM_0 rfl rfl hd_X8_state ⟨Nat.le_of_ble_eq_true rfl, Nat.le_of_ble_eq_true rfl⟩ rfl hl.1 rfl (Nat.le_of_ble_eq_true rfl) ⟨hca, hsl⟩ dL_law_401 (fun M' H1 hPM hhM hU hk => ?_)
  have hHC := hold_kp hOC hhC hk (fun q a => hdis q a)
  refine W.eq (g2 := F0 m 404 ls [.int (32), .int (32)]) rfl ?_
  have hrl := rl_state v1 hT h0 hN hPC hPM
  refine lv_icmp_eq (tgt := 1064) hx hb dL_law_404 (by decide) (fun hq => ?_) (fun hq => ?_)
  · exact K C' M' _ hrl.2 hHC hhM hU
  · exact absurd hrl.1 hq

set_option maxHeartbeats 4000000 in
set_option maxRecDepth 100000 in
theorem lw_c_quote {p : Program} {l : Launch} {e : Env} {s : State} {m : MethodId} {below : List Frame} {meth : Method} {c : Code} {Q : State → Prop} {b L : Nat} {xs : Nat → Int32} {E F : mEv} {A G : Nat → Prop} (B : lwB p s m c b L xs E F A G) {N i ca sl : Nat} {C M : mSt} {H : Heap} {ls : Array Slot} (hca : ca ≤ 600000) (hsl : sl ≤ 7302250) (hR : Rel N C M) (hN : N ≤ 1000) (hHC : mHold mLC E C H) (hHM : mHold mLM F M H) (hU : va_S (fun q : Nat => s.heap.size ≤ q) s.heap H []) (hl : lv_has ls 4 [(0, .ref b), (1, .ref (mAdC E 0 0)), (2, .ref (mAdM F 0 0)), (3, .int (nI i))]) (hi : i + 5 < L) (K : ∀ (C' M' : mSt) (H1 : Heap), Rel (N + 1) C' M' → mHold mLC E C' H1 → mHold mLM F M' H1 → va_S (fun q : Nat => s.heap.size ≤ q) s.heap H1 [] → W p l e room_1 s m #[Value.ref b] below meth c H1 [] ca sl Q (F0 m 1064 ls [])) : W p l e room_1 s m #[Value.ref b] below meth c H [] ca sl Q (F0 m 409 ls []) := by
  obtain ⟨Cx, hGC, hGM, hOC, hOM, hX, hbl, hAU, hGU, hdis, hL⟩ := B
  have hx := Cx.1
  have hb := Cx.2.1
  have hbA : ¬ (fun q : Nat => s.heap.size ≤ q) b := Nat.not_le.mpr hbl
  have hT := hR.1
  obtain ⟨⟨ts, htC, htM⟩, h0⟩ := hR
  obtain ⟨v1, hv1⟩ : ∃ v, v = xs (nI (i + 1)).toNatClampNeg := ⟨_, rfl⟩
  refine lv_aload_n hx hb dL_law_409 rfl (lv_at hl 1 rfl) ?_
  refine lv_aload_n hx hb dL_law_410 rfl (lv_at hl 0 rfl) ?_
  refine lv_iload_n hx hb dL_law_411 rfl (lv_at hl 3 rfl) ?_
  refine lv_iconst (v := 1) hx hb dL_law_412 (by decide) ?_
  refine lv_iadd hx hb dL_law_413 ?_
  refine mv_eqi (x' := nI (i + 1)) (nI_add i 1) ?_
  refine va_sld hx hb hX hbl hbA hU (vp_in_nI (by omega) (by omega)) dL_law_414 ?_
  refine mv_eqi (x' := v1) hv1.symm ?_
  refine mv_callL (Y := mLC) (C := RX7) (k := 0) (i := 0) (rest := []) Cx hGC hHC hU hAU (c_X7_quote l E A hOC C v1 ts htC) q_co_X7_quote q_ml_L_60 q_im_X7_quote q_se_X7_quote q_in_X7 okC_0 rfl rfl hd_X7_quote ⟨Nat.le_of_ble_eq_true rfl, Nat.le_of_ble_eq_true rfl⟩ rfl hl.1 rfl (Nat.le_of_ble_eq_true rfl) ⟨hca, hsl⟩ dL_law_415 (fun C' H1 hPC hhC hU hk => ?_)
  have hHM := hold_kp hOM hHM hk (fun q g a => hdis q a g)
  clear hHC hk
  refine W.eq (g2 := F0 m 418 ls [.int ((if ts.length ≤ 32 then nI (74 + ts.length) else -1))]) rfl ?_
  generalize H1 = H at hhC hHM hU ⊢
  refine lv_aload_n hx hb dL_law_418 rfl (lv_at hl 2 rfl) ?_
  refine lv_aload_n hx hb dL_law_419 rfl (lv_at hl 0 rfl) ?_
  refine lv_iload_n hx hb dL_law_420 rfl (lv_at hl 3 rfl) ?_
  refine lv_iconst (v := 1) hx hb dL_law_421 (by decide) ?_
  refine lv_iadd hx hb dL_law_422 ?_
  refine mv_eqi (x' := nI (i + 1)) (nI_add i 1) ?_
  refine va_sld hx hb hX hbl hbA hU (vp_in_nI (by omega) (by omega)) dL_law_423 ?_
  refine mv_eqi (x' := v1) hv1.symm ?_
  refine mv_callL (Y := mLM) (C := RX8) (k := 0) (i := 0) (rest := [.int ((if ts.length ≤ 32 then nI (74 + ts.length) else -1))]) Cx hGM hHM hU hGU (c_X8_quote l F G hOM M v1 ts htM) q_co_X8_quote q_ml_L_63 q_im_X8_quote q_se_X8_quote q_in_X8 okM_0 rfl rfl hd_X8_quote ⟨Nat.le_of_ble_eq_true rfl, Nat.le_of_ble_eq_true rfl⟩ rfl hl.1 rfl (Nat.le_of_ble_eq_true rfl) ⟨hca, hsl⟩ dL_law_424 (fun M' H1 hPM hhM hU hk => ?_)
  have hHC := hold_kp hOC hhC hk (fun q a => hdis q a)
  refine W.eq (g2 := F0 m 427 ls [.int ((if ts.length ≤ 32 then nI (74 + ts.length) else -1)), .int ((if ts.length ≤ 32 then nI (74 + ts.length) else -1))]) rfl ?_
  have hrl := rl_quote v1 ts htC htM h0 hN hPC hPM
  refine lv_icmp_eq (tgt := 1064) hx hb dL_law_427 (by decide) (fun hq => ?_) (fun hq => ?_)
  · exact K C' M' _ hrl.2 hHC hhM hU
  · exact absurd hrl.1 hq

set_option maxHeartbeats 4000000 in
set_option maxRecDepth 100000 in
theorem lw_c_open {p : Program} {l : Launch} {e : Env} {s : State} {m : MethodId} {below : List Frame} {meth : Method} {c : Code} {Q : State → Prop} {b L : Nat} {xs : Nat → Int32} {E F : mEv} {A G : Nat → Prop} (B : lwB p s m c b L xs E F A G) {N i ca sl : Nat} {C M : mSt} {H : Heap} {ls : Array Slot} (hca : ca ≤ 600000) (hsl : sl ≤ 7302250) (hR : Rel N C M) (hN : N ≤ 1000) (hHC : mHold mLC E C H) (hHM : mHold mLM F M H) (hU : va_S (fun q : Nat => s.heap.size ≤ q) s.heap H []) (hl : lv_has ls 4 [(0, .ref b), (1, .ref (mAdC E 0 0)), (2, .ref (mAdM F 0 0)), (3, .int (nI i))]) (hi : i + 5 < L) (K : ∀ (C' M' : mSt) (H1 : Heap), Rel (N + 1) C' M' → mHold mLC E C' H1 → mHold mLM F M' H1 → va_S (fun q : Nat => s.heap.size ≤ q) s.heap H1 [] → W p l e room_1 s m #[Value.ref b] below meth c H1 [] ca sl Q (F0 m 1064 ls [])) : W p l e room_1 s m #[Value.ref b] below meth c H [] ca sl Q (F0 m 432 ls []) := by
  obtain ⟨Cx, hGC, hGM, hOC, hOM, hX, hbl, hAU, hGU, hdis, hL⟩ := B
  have hx := Cx.1
  have hb := Cx.2.1
  have hbA : ¬ (fun q : Nat => s.heap.size ≤ q) b := Nat.not_le.mpr hbl
  have hT := hR.1
  obtain ⟨⟨ts, htC, htM⟩, h0⟩ := hR
  obtain ⟨v1, hv1⟩ : ∃ v, v = xs (nI (i + 1)).toNatClampNeg := ⟨_, rfl⟩
  refine lv_aload_n hx hb dL_law_432 rfl (lv_at hl 1 rfl) ?_
  refine lv_aload_n hx hb dL_law_433 rfl (lv_at hl 0 rfl) ?_
  refine lv_iload_n hx hb dL_law_434 rfl (lv_at hl 3 rfl) ?_
  refine lv_iconst (v := 1) hx hb dL_law_435 (by decide) ?_
  refine lv_iadd hx hb dL_law_436 ?_
  refine mv_eqi (x' := nI (i + 1)) (nI_add i 1) ?_
  refine va_sld hx hb hX hbl hbA hU (vp_in_nI (by omega) (by omega)) dL_law_437 ?_
  refine mv_eqi (x' := v1) hv1.symm ?_
  refine mv_callL (Y := mLC) (C := RX7) (k := 0) (i := 0) (rest := []) Cx hGC hHC hU hAU (c_X7_open l E A hOC C v1) q_co_X7_open q_ml_L_64 q_im_X7_open q_se_X7_open q_in_X7 okC_0 rfl rfl hd_X7_open ⟨Nat.le_of_ble_eq_true rfl, Nat.le_of_ble_eq_true rfl⟩ rfl hl.1 rfl (Nat.le_of_ble_eq_true rfl) ⟨hca, hsl⟩ dL_law_438 (fun C' H1 hPC hhC hU hk => ?_)
  have hHM := hold_kp hOM hHM hk (fun q g a => hdis q a g)
  clear hHC hk
  refine W.eq (g2 := F0 m 441 ls [.int ((if ¬ v1 < 0 ∧ v1 < nI 4 then 0 else -1))]) rfl ?_
  generalize H1 = H at hhC hHM hU ⊢
  refine lv_aload_n hx hb dL_law_441 rfl (lv_at hl 2 rfl) ?_
  refine lv_aload_n hx hb dL_law_442 rfl (lv_at hl 0 rfl) ?_
  refine lv_iload_n hx hb dL_law_443 rfl (lv_at hl 3 rfl) ?_
  refine lv_iconst (v := 1) hx hb dL_law_444 (by decide) ?_
  refine lv_iadd hx hb dL_law_445 ?_
  refine mv_eqi (x' := nI (i + 1)) (nI_add i 1) ?_
  refine va_sld hx hb hX hbl hbA hU (vp_in_nI (by omega) (by omega)) dL_law_446 ?_
  refine mv_eqi (x' := v1) hv1.symm ?_
  refine mv_callL (Y := mLM) (C := RX8) (k := 0) (i := 0) (rest := [.int ((if ¬ v1 < 0 ∧ v1 < nI 4 then 0 else -1))]) Cx hGM hHM hU hGU (c_X8_open l F G hOM M v1) q_co_X8_open q_ml_L_67 q_im_X8_open q_se_X8_open q_in_X8 okM_0 rfl rfl hd_X8_open ⟨Nat.le_of_ble_eq_true rfl, Nat.le_of_ble_eq_true rfl⟩ rfl hl.1 rfl (Nat.le_of_ble_eq_true rfl) ⟨hca, hsl⟩ dL_law_447 (fun M' H1 hPM hhM hU hk => ?_)
  have hHC := hold_kp hOC hhC hk (fun q a => hdis q a)
  refine W.eq (g2 := F0 m 450 ls [.int ((if ¬ v1 < 0 ∧ v1 < nI 4 then 0 else -1)), .int ((if ¬ v1 < 0 ∧ v1 < nI 4 then 0 else -1))]) rfl ?_
  have hrl := rl_open v1 hT h0 hN hPC hPM
  refine lv_icmp_eq (tgt := 1064) hx hb dL_law_450 (by decide) (fun hq => ?_) (fun hq => ?_)
  · exact K C' M' _ hrl.2 hHC hhM hU
  · exact absurd hrl.1 hq

set_option maxHeartbeats 4000000 in
set_option maxRecDepth 100000 in
theorem lw_c_policyState {p : Program} {l : Launch} {e : Env} {s : State} {m : MethodId} {below : List Frame} {meth : Method} {c : Code} {Q : State → Prop} {b L : Nat} {xs : Nat → Int32} {E F : mEv} {A G : Nat → Prop} (B : lwB p s m c b L xs E F A G) {N i ca sl : Nat} {C M : mSt} {H : Heap} {ls : Array Slot} (hca : ca ≤ 600000) (hsl : sl ≤ 7302250) (hR : Rel N C M) (hN : N ≤ 1000) (hHC : mHold mLC E C H) (hHM : mHold mLM F M H) (hU : va_S (fun q : Nat => s.heap.size ≤ q) s.heap H []) (hl : lv_has ls 4 [(0, .ref b), (1, .ref (mAdC E 0 0)), (2, .ref (mAdM F 0 0)), (3, .int (nI i))]) (hi : i + 5 < L) (K : ∀ (C' M' : mSt) (H1 : Heap), Rel (N + 1) C' M' → mHold mLC E C' H1 → mHold mLM F M' H1 → va_S (fun q : Nat => s.heap.size ≤ q) s.heap H1 [] → W p l e room_1 s m #[Value.ref b] below meth c H1 [] ca sl Q (F0 m 1064 ls [])) : W p l e room_1 s m #[Value.ref b] below meth c H [] ca sl Q (F0 m 455 ls []) := by
  obtain ⟨Cx, hGC, hGM, hOC, hOM, hX, hbl, hAU, hGU, hdis, hL⟩ := B
  have hx := Cx.1
  have hb := Cx.2.1
  have hbA : ¬ (fun q : Nat => s.heap.size ≤ q) b := Nat.not_le.mpr hbl
  have hT := hR.1
  obtain ⟨⟨ts, htC, htM⟩, h0⟩ := hR
  obtain ⟨v1, hv1⟩ : ∃ v, v = xs (nI (i + 1)).toNatClampNeg := ⟨_, rfl⟩
  obtain ⟨v2, hv2⟩ : ∃ v, v = xs (nI (i + 2)).toNatClampNeg := ⟨_, rfl⟩
  refine lv_aload_n hx hb dL_law_455 rfl (lv_at hl 1 rfl) ?_
  refine lv_aload_n hx hb dL_law_456 rfl (lv_at hl 0 rfl) ?_
  refine lv_iload_n hx hb dL_law_457 rfl (lv_at hl 3 rfl) ?_
  refine lv_iconst (v := 1) hx hb dL_law_458 (by decide) ?_
  refine lv_iadd hx hb dL_law_459 ?_
  refine mv_eqi (x' := nI (i + 1)) (nI_add i 1) ?_
  refine va_sld hx hb hX hbl hbA hU (vp_in_nI (by omega) (by omega)) dL_law_460 ?_
  refine mv_eqi (x' := v1) hv1.symm ?_
  refine lv_aload_n hx hb dL_law_461 rfl (lv_at hl 0 rfl) ?_
  refine lv_iload_n hx hb dL_law_462 rfl (lv_at hl 3 rfl) ?_
  refine lv_iconst (v := 2) hx hb dL_law_463 (by decide) ?_
  refine lv_iadd hx hb dL_law_464 ?_
  refine mv_eqi (x' := nI (i + 2)) (nI_add i 2) ?_
  refine va_sld hx hb hX hbl hbA hU (vp_in_nI (by omega) (by omega)) dL_law_465 ?_
  refine mv_eqi (x' := v2) hv2.symm ?_
  refine mv_callL (Y := mLC) (C := RX7) (k := 0) (i := 0) (rest := []) Cx hGC hHC hU hAU (c_X7_policyState l E A hOC C v1 v2) q_co_X7_policyState q_ml_L_68 q_im_X7_policyState q_se_X7_policyState q_in_X7 okC_0 rfl rfl hd_X7_policyState ⟨Nat.le_of_ble_eq_true rfl, Nat.le_of_ble_eq_true rfl⟩ rfl hl.1 rfl (Nat.le_of_ble_eq_true rfl) ⟨hca, hsl⟩ dL_law_466 (fun C' H1 hPC hhC hU hk => ?_)
  have hHM := hold_kp hOM hHM hk (fun q g a => hdis q a g)
  clear hHC hk
  refine W.eq (g2 := F0 m 469 ls [.int (((seO C v1).elim (-1) (fun _ => 0)))]) rfl ?_
  generalize H1 = H at hhC hHM hU ⊢
  refine lv_aload_n hx hb dL_law_469 rfl (lv_at hl 2 rfl) ?_
  refine lv_aload_n hx hb dL_law_470 rfl (lv_at hl 0 rfl) ?_
  refine lv_iload_n hx hb dL_law_471 rfl (lv_at hl 3 rfl) ?_
  refine lv_iconst (v := 1) hx hb dL_law_472 (by decide) ?_
  refine lv_iadd hx hb dL_law_473 ?_
  refine mv_eqi (x' := nI (i + 1)) (nI_add i 1) ?_
  refine va_sld hx hb hX hbl hbA hU (vp_in_nI (by omega) (by omega)) dL_law_474 ?_
  refine mv_eqi (x' := v1) hv1.symm ?_
  refine lv_aload_n hx hb dL_law_475 rfl (lv_at hl 0 rfl) ?_
  refine lv_iload_n hx hb dL_law_476 rfl (lv_at hl 3 rfl) ?_
  refine lv_iconst (v := 2) hx hb dL_law_477 (by decide) ?_
  refine lv_iadd hx hb dL_law_478 ?_
  refine mv_eqi (x' := nI (i + 2)) (nI_add i 2) ?_
  refine va_sld hx hb hX hbl hbA hU (vp_in_nI (by omega) (by omega)) dL_law_479 ?_
  refine mv_eqi (x' := v2) hv2.symm ?_
  refine mv_callL (Y := mLM) (C := RX8) (k := 0) (i := 0) (rest := [.int (((seO C v1).elim (-1) (fun _ => 0)))]) Cx hGM hHM hU hGU (c_X8_policyState l F G hOM M v1 v2) q_co_X8_policyState q_ml_L_72 q_im_X8_policyState q_se_X8_policyState q_in_X8 okM_0 rfl rfl hd_X8_policyState ⟨Nat.le_of_ble_eq_true rfl, Nat.le_of_ble_eq_true rfl⟩ rfl hl.1 rfl (Nat.le_of_ble_eq_true rfl) ⟨hca, hsl⟩ dL_law_480 (fun M' H1 hPM hhM hU hk => ?_)
  have hHC := hold_kp hOC hhC hk (fun q a => hdis q a)
  refine W.eq (g2 := F0 m 483 ls [.int (((msO M v1).elim (-1) (fun _ => 0))), .int (((seO C v1).elim (-1) (fun _ => 0)))]) rfl ?_
  have hrl := rl_policyState v1 v2 hT h0 hN hPC hPM
  refine lv_icmp_eq (tgt := 1064) hx hb dL_law_483 (by decide) (fun hq => ?_) (fun hq => ?_)
  · exact K C' M' _ hrl.2 hHC hhM hU
  · exact absurd hrl.1 hq

set_option maxHeartbeats 4000000 in
set_option maxRecDepth 100000 in
theorem lw_c_policyAuth {p : Program} {l : Launch} {e : Env} {s : State} {m : MethodId} {below : List Frame} {meth : Method} {c : Code} {Q : State → Prop} {b L : Nat} {xs : Nat → Int32} {E F : mEv} {A G : Nat → Prop} (B : lwB p s m c b L xs E F A G) {N i ca sl : Nat} {C M : mSt} {H : Heap} {ls : Array Slot} (hca : ca ≤ 600000) (hsl : sl ≤ 7302250) (hR : Rel N C M) (hN : N ≤ 1000) (hHC : mHold mLC E C H) (hHM : mHold mLM F M H) (hU : va_S (fun q : Nat => s.heap.size ≤ q) s.heap H []) (hl : lv_has ls 4 [(0, .ref b), (1, .ref (mAdC E 0 0)), (2, .ref (mAdM F 0 0)), (3, .int (nI i))]) (hi : i + 5 < L) (K : ∀ (C' M' : mSt) (H1 : Heap), Rel (N + 1) C' M' → mHold mLC E C' H1 → mHold mLM F M' H1 → va_S (fun q : Nat => s.heap.size ≤ q) s.heap H1 [] → W p l e room_1 s m #[Value.ref b] below meth c H1 [] ca sl Q (F0 m 1064 ls [])) : W p l e room_1 s m #[Value.ref b] below meth c H [] ca sl Q (F0 m 488 ls []) := by
  obtain ⟨Cx, hGC, hGM, hOC, hOM, hX, hbl, hAU, hGU, hdis, hL⟩ := B
  have hx := Cx.1
  have hb := Cx.2.1
  have hbA : ¬ (fun q : Nat => s.heap.size ≤ q) b := Nat.not_le.mpr hbl
  have hT := hR.1
  obtain ⟨⟨ts, htC, htM⟩, h0⟩ := hR
  obtain ⟨v1, hv1⟩ : ∃ v, v = xs (nI (i + 1)).toNatClampNeg := ⟨_, rfl⟩
  refine lv_aload_n hx hb dL_law_488 rfl (lv_at hl 1 rfl) ?_
  refine lv_aload_n hx hb dL_law_489 rfl (lv_at hl 0 rfl) ?_
  refine lv_iload_n hx hb dL_law_490 rfl (lv_at hl 3 rfl) ?_
  refine lv_iconst (v := 1) hx hb dL_law_491 (by decide) ?_
  refine lv_iadd hx hb dL_law_492 ?_
  refine mv_eqi (x' := nI (i + 1)) (nI_add i 1) ?_
  refine va_sld hx hb hX hbl hbA hU (vp_in_nI (by omega) (by omega)) dL_law_493 ?_
  refine mv_eqi (x' := v1) hv1.symm ?_
  refine mv_callL (Y := mLC) (C := RX7) (k := 0) (i := 0) (rest := []) Cx hGC hHC hU hAU (c_X7_policyAuth l E A hOC C v1) q_co_X7_policyAuth q_ml_L_73 q_im_X7_policyAuth q_se_X7_policyAuth q_in_X7 okC_0 rfl rfl hd_X7_policyAuth ⟨Nat.le_of_ble_eq_true rfl, Nat.le_of_ble_eq_true rfl⟩ rfl hl.1 rfl (Nat.le_of_ble_eq_true rfl) ⟨hca, hsl⟩ dL_law_494 (fun C' H1 hPC hhC hU hk => ?_)
  have hHM := hold_kp hOM hHM hk (fun q g a => hdis q a g)
  clear hHC hk
  refine W.eq (g2 := F0 m 497 ls [.int (((seO C v1).elim (-1) (fun _ => 0)))]) rfl ?_
  generalize H1 = H at hhC hHM hU ⊢
  refine lv_aload_n hx hb dL_law_497 rfl (lv_at hl 2 rfl) ?_
  refine lv_aload_n hx hb dL_law_498 rfl (lv_at hl 0 rfl) ?_
  refine lv_iload_n hx hb dL_law_499 rfl (lv_at hl 3 rfl) ?_
  refine lv_iconst (v := 1) hx hb dL_law_500 (by decide) ?_
  refine lv_iadd hx hb dL_law_501 ?_
  refine mv_eqi (x' := nI (i + 1)) (nI_add i 1) ?_
  refine va_sld hx hb hX hbl hbA hU (vp_in_nI (by omega) (by omega)) dL_law_502 ?_
  refine mv_eqi (x' := v1) hv1.symm ?_
  refine mv_callL (Y := mLM) (C := RX8) (k := 0) (i := 0) (rest := [.int (((seO C v1).elim (-1) (fun _ => 0)))]) Cx hGM hHM hU hGU (c_X8_policyAuth l F G hOM M v1) q_co_X8_policyAuth q_ml_L_76 q_im_X8_policyAuth q_se_X8_policyAuth q_in_X8 okM_0 rfl rfl hd_X8_policyAuth ⟨Nat.le_of_ble_eq_true rfl, Nat.le_of_ble_eq_true rfl⟩ rfl hl.1 rfl (Nat.le_of_ble_eq_true rfl) ⟨hca, hsl⟩ dL_law_503 (fun M' H1 hPM hhM hU hk => ?_)
  have hHC := hold_kp hOC hhC hk (fun q a => hdis q a)
  refine W.eq (g2 := F0 m 506 ls [.int (((msO M v1).elim (-1) (fun _ => 0))), .int (((seO C v1).elim (-1) (fun _ => 0)))]) rfl ?_
  have hrl := rl_policyAuth v1 hT h0 hN hPC hPM
  refine lv_icmp_eq (tgt := 1064) hx hb dL_law_506 (by decide) (fun hq => ?_) (fun hq => ?_)
  · exact K C' M' _ hrl.2 hHC hhM hU
  · exact absurd hrl.1 hq

set_option maxHeartbeats 4000000 in
set_option maxRecDepth 100000 in
theorem lw_c_policyCode {p : Program} {l : Launch} {e : Env} {s : State} {m : MethodId} {below : List Frame} {meth : Method} {c : Code} {Q : State → Prop} {b L : Nat} {xs : Nat → Int32} {E F : mEv} {A G : Nat → Prop} (B : lwB p s m c b L xs E F A G) {N i ca sl : Nat} {C M : mSt} {H : Heap} {ls : Array Slot} (hca : ca ≤ 600000) (hsl : sl ≤ 7302250) (hR : Rel N C M) (hN : N ≤ 1000) (hHC : mHold mLC E C H) (hHM : mHold mLM F M H) (hU : va_S (fun q : Nat => s.heap.size ≤ q) s.heap H []) (hl : lv_has ls 4 [(0, .ref b), (1, .ref (mAdC E 0 0)), (2, .ref (mAdM F 0 0)), (3, .int (nI i))]) (hi : i + 5 < L) (K : ∀ (C' M' : mSt) (H1 : Heap), Rel (N + 1) C' M' → mHold mLC E C' H1 → mHold mLM F M' H1 → va_S (fun q : Nat => s.heap.size ≤ q) s.heap H1 [] → W p l e room_1 s m #[Value.ref b] below meth c H1 [] ca sl Q (F0 m 1064 ls [])) : W p l e room_1 s m #[Value.ref b] below meth c H [] ca sl Q (F0 m 511 ls []) := by
  obtain ⟨Cx, hGC, hGM, hOC, hOM, hX, hbl, hAU, hGU, hdis, hL⟩ := B
  have hx := Cx.1
  have hb := Cx.2.1
  have hbA : ¬ (fun q : Nat => s.heap.size ≤ q) b := Nat.not_le.mpr hbl
  have hT := hR.1
  obtain ⟨⟨ts, htC, htM⟩, h0⟩ := hR
  obtain ⟨v1, hv1⟩ : ∃ v, v = xs (nI (i + 1)).toNatClampNeg := ⟨_, rfl⟩
  obtain ⟨v2, hv2⟩ : ∃ v, v = xs (nI (i + 2)).toNatClampNeg := ⟨_, rfl⟩
  refine lv_aload_n hx hb dL_law_511 rfl (lv_at hl 1 rfl) ?_
  refine lv_aload_n hx hb dL_law_512 rfl (lv_at hl 0 rfl) ?_
  refine lv_iload_n hx hb dL_law_513 rfl (lv_at hl 3 rfl) ?_
  refine lv_iconst (v := 1) hx hb dL_law_514 (by decide) ?_
  refine lv_iadd hx hb dL_law_515 ?_
  refine mv_eqi (x' := nI (i + 1)) (nI_add i 1) ?_
  refine va_sld hx hb hX hbl hbA hU (vp_in_nI (by omega) (by omega)) dL_law_516 ?_
  refine mv_eqi (x' := v1) hv1.symm ?_
  refine lv_aload_n hx hb dL_law_517 rfl (lv_at hl 0 rfl) ?_
  refine lv_iload_n hx hb dL_law_518 rfl (lv_at hl 3 rfl) ?_
  refine lv_iconst (v := 2) hx hb dL_law_519 (by decide) ?_
  refine lv_iadd hx hb dL_law_520 ?_
  refine mv_eqi (x' := nI (i + 2)) (nI_add i 2) ?_
  refine va_sld hx hb hX hbl hbA hU (vp_in_nI (by omega) (by omega)) dL_law_521 ?_
  refine mv_eqi (x' := v2) hv2.symm ?_
  refine mv_callL (Y := mLC) (C := RX7) (k := 0) (i := 0) (rest := []) Cx hGC hHC hU hAU (c_X7_policyCode l E A hOC C v1 v2) q_co_X7_policyCode q_ml_L_77 q_im_X7_policyCode q_se_X7_policyCode q_in_X7 okC_0 rfl rfl hd_X7_policyCode ⟨Nat.le_of_ble_eq_true rfl, Nat.le_of_ble_eq_true rfl⟩ rfl hl.1 rfl (Nat.le_of_ble_eq_true rfl) ⟨hca, hsl⟩ dL_law_522 (fun C' H1 hPC hhC hU hk => ?_)
  have hHM := hold_kp hOM hHM hk (fun q g a => hdis q a g)
  clear hHC hk
  refine W.eq (g2 := F0 m 525 ls [.int (((seO C v1).elim (-1) (fun i => if (C.1 19 i 3 = 0 ∧ ¬ v2 < 1 ∧ v2 ≤ 6) then 0 else -1)))]) rfl ?_
  generalize H1 = H at hhC hHM hU ⊢
  refine lv_aload_n hx hb dL_law_525 rfl (lv_at hl 2 rfl) ?_
  refine lv_aload_n hx hb dL_law_526 rfl (lv_at hl 0 rfl) ?_
  refine lv_iload_n hx hb dL_law_527 rfl (lv_at hl 3 rfl) ?_
  refine lv_iconst (v := 1) hx hb dL_law_528 (by decide) ?_
  refine lv_iadd hx hb dL_law_529 ?_
  refine mv_eqi (x' := nI (i + 1)) (nI_add i 1) ?_
  refine va_sld hx hb hX hbl hbA hU (vp_in_nI (by omega) (by omega)) dL_law_530 ?_
  refine mv_eqi (x' := v1) hv1.symm ?_
  refine lv_aload_n hx hb dL_law_531 rfl (lv_at hl 0 rfl) ?_
  refine lv_iload_n hx hb dL_law_532 rfl (lv_at hl 3 rfl) ?_
  refine lv_iconst (v := 2) hx hb dL_law_533 (by decide) ?_
  refine lv_iadd hx hb dL_law_534 ?_
  refine mv_eqi (x' := nI (i + 2)) (nI_add i 2) ?_
  refine va_sld hx hb hX hbl hbA hU (vp_in_nI (by omega) (by omega)) dL_law_535 ?_
  refine mv_eqi (x' := v2) hv2.symm ?_
  refine mv_callL (Y := mLM) (C := RX8) (k := 0) (i := 0) (rest := [.int (((seO C v1).elim (-1) (fun i => if (C.1 19 i 3 = 0 ∧ ¬ v2 < 1 ∧ v2 ≤ 6) then 0 else -1)))]) Cx hGM hHM hU hGU (c_X8_policyCode l F G hOM M v1 v2) q_co_X8_policyCode q_ml_L_80 q_im_X8_policyCode q_se_X8_policyCode q_in_X8 okM_0 rfl rfl hd_X8_policyCode ⟨Nat.le_of_ble_eq_true rfl, Nat.le_of_ble_eq_true rfl⟩ rfl hl.1 rfl (Nat.le_of_ble_eq_true rfl) ⟨hca, hsl⟩ dL_law_536 (fun M' H1 hPM hhM hU hk => ?_)
  have hHC := hold_kp hOC hhC hk (fun q a => hdis q a)
  refine W.eq (g2 := F0 m 539 ls [.int (((msO M v1).elim (-1) (fun i => if (M.1 28 0 i = 0 ∧ ¬ v2 < 1 ∧ v2 ≤ 6) then 0 else -1))), .int (((seO C v1).elim (-1) (fun i => if (C.1 19 i 3 = 0 ∧ ¬ v2 < 1 ∧ v2 ≤ 6) then 0 else -1)))]) rfl ?_
  have hrl := rl_policyCode v1 v2 hT h0 hN hPC hPM
  refine lv_icmp_eq (tgt := 1064) hx hb dL_law_539 (by decide) (fun hq => ?_) (fun hq => ?_)
  · exact K C' M' _ hrl.2 hHC hhM hU
  · exact absurd hrl.1 hq

set_option maxHeartbeats 4000000 in
set_option maxRecDepth 100000 in
theorem lw_c_policyTime {p : Program} {l : Launch} {e : Env} {s : State} {m : MethodId} {below : List Frame} {meth : Method} {c : Code} {Q : State → Prop} {b L : Nat} {xs : Nat → Int32} {E F : mEv} {A G : Nat → Prop} (B : lwB p s m c b L xs E F A G) {N i ca sl : Nat} {C M : mSt} {H : Heap} {ls : Array Slot} (hca : ca ≤ 600000) (hsl : sl ≤ 7302250) (hR : Rel N C M) (hN : N ≤ 1000) (hHC : mHold mLC E C H) (hHM : mHold mLM F M H) (hU : va_S (fun q : Nat => s.heap.size ≤ q) s.heap H []) (hl : lv_has ls 4 [(0, .ref b), (1, .ref (mAdC E 0 0)), (2, .ref (mAdM F 0 0)), (3, .int (nI i))]) (hi : i + 5 < L) (K : ∀ (C' M' : mSt) (H1 : Heap), Rel (N + 1) C' M' → mHold mLC E C' H1 → mHold mLM F M' H1 → va_S (fun q : Nat => s.heap.size ≤ q) s.heap H1 [] → W p l e room_1 s m #[Value.ref b] below meth c H1 [] ca sl Q (F0 m 1064 ls [])) : W p l e room_1 s m #[Value.ref b] below meth c H [] ca sl Q (F0 m 544 ls []) := by
  obtain ⟨Cx, hGC, hGM, hOC, hOM, hX, hbl, hAU, hGU, hdis, hL⟩ := B
  have hx := Cx.1
  have hb := Cx.2.1
  have hbA : ¬ (fun q : Nat => s.heap.size ≤ q) b := Nat.not_le.mpr hbl
  have hT := hR.1
  obtain ⟨⟨ts, htC, htM⟩, h0⟩ := hR
  obtain ⟨v1, hv1⟩ : ∃ v, v = xs (nI (i + 1)).toNatClampNeg := ⟨_, rfl⟩
  obtain ⟨v2, hv2⟩ : ∃ v, v = xs (nI (i + 2)).toNatClampNeg := ⟨_, rfl⟩
  refine lv_aload_n hx hb dL_law_544 rfl (lv_at hl 1 rfl) ?_
  refine lv_aload_n hx hb dL_law_545 rfl (lv_at hl 0 rfl) ?_
  refine lv_iload_n hx hb dL_law_546 rfl (lv_at hl 3 rfl) ?_
  refine lv_iconst (v := 1) hx hb dL_law_547 (by decide) ?_
  refine lv_iadd hx hb dL_law_548 ?_
  refine mv_eqi (x' := nI (i + 1)) (nI_add i 1) ?_
  refine va_sld hx hb hX hbl hbA hU (vp_in_nI (by omega) (by omega)) dL_law_549 ?_
  refine mv_eqi (x' := v1) hv1.symm ?_
  refine lv_aload_n hx hb dL_law_550 rfl (lv_at hl 0 rfl) ?_
  refine lv_iload_n hx hb dL_law_551 rfl (lv_at hl 3 rfl) ?_
  refine lv_iconst (v := 2) hx hb dL_law_552 (by decide) ?_
  refine lv_iadd hx hb dL_law_553 ?_
  refine mv_eqi (x' := nI (i + 2)) (nI_add i 2) ?_
  refine va_sld hx hb hX hbl hbA hU (vp_in_nI (by omega) (by omega)) dL_law_554 ?_
  refine mv_eqi (x' := v2) hv2.symm ?_
  refine mv_callL (Y := mLC) (C := RX7) (k := 0) (i := 0) (rest := []) Cx hGC hHC hU hAU (c_X7_policyTime l E A hOC C v1 v2) q_co_X7_policyTime q_ml_L_81 q_im_X7_policyTime q_se_X7_policyTime q_in_X7 okC_0 rfl rfl hd_X7_policyTime ⟨Nat.le_of_ble_eq_true rfl, Nat.le_of_ble_eq_true rfl⟩ rfl hl.1 rfl (Nat.le_of_ble_eq_true rfl) ⟨hca, hsl⟩ dL_law_555 (fun C' H1 hPC hhC hU hk => ?_)
  have hHM := hold_kp hOM hHM hk (fun q g a => hdis q a g)
  clear hHC hk
  refine W.eq (g2 := F0 m 558 ls [.int (((seO C v1).elim (-1) (fun _ => 0)))]) rfl ?_
  generalize H1 = H at hhC hHM hU ⊢
  refine lv_aload_n hx hb dL_law_558 rfl (lv_at hl 2 rfl) ?_
  refine lv_aload_n hx hb dL_law_559 rfl (lv_at hl 0 rfl) ?_
  refine lv_iload_n hx hb dL_law_560 rfl (lv_at hl 3 rfl) ?_
  refine lv_iconst (v := 1) hx hb dL_law_561 (by decide) ?_
  refine lv_iadd hx hb dL_law_562 ?_
  refine mv_eqi (x' := nI (i + 1)) (nI_add i 1) ?_
  refine va_sld hx hb hX hbl hbA hU (vp_in_nI (by omega) (by omega)) dL_law_563 ?_
  refine mv_eqi (x' := v1) hv1.symm ?_
  refine lv_aload_n hx hb dL_law_564 rfl (lv_at hl 0 rfl) ?_
  refine lv_iload_n hx hb dL_law_565 rfl (lv_at hl 3 rfl) ?_
  refine lv_iconst (v := 2) hx hb dL_law_566 (by decide) ?_
  refine lv_iadd hx hb dL_law_567 ?_
  refine mv_eqi (x' := nI (i + 2)) (nI_add i 2) ?_
  refine va_sld hx hb hX hbl hbA hU (vp_in_nI (by omega) (by omega)) dL_law_568 ?_
  refine mv_eqi (x' := v2) hv2.symm ?_
  refine mv_callL (Y := mLM) (C := RX8) (k := 0) (i := 0) (rest := [.int (((seO C v1).elim (-1) (fun _ => 0)))]) Cx hGM hHM hU hGU (c_X8_policyTime l F G hOM M v1 v2) q_co_X8_policyTime q_ml_L_84 q_im_X8_policyTime q_se_X8_policyTime q_in_X8 okM_0 rfl rfl hd_X8_policyTime ⟨Nat.le_of_ble_eq_true rfl, Nat.le_of_ble_eq_true rfl⟩ rfl hl.1 rfl (Nat.le_of_ble_eq_true rfl) ⟨hca, hsl⟩ dL_law_569 (fun M' H1 hPM hhM hU hk => ?_)
  have hHC := hold_kp hOC hhC hk (fun q a => hdis q a)
  refine W.eq (g2 := F0 m 572 ls [.int (((msO M v1).elim (-1) (fun _ => 0))), .int (((seO C v1).elim (-1) (fun _ => 0)))]) rfl ?_
  have hrl := rl_policyTime v1 v2 hT h0 hN hPC hPM
  refine lv_icmp_eq (tgt := 1064) hx hb dL_law_572 (by decide) (fun hq => ?_) (fun hq => ?_)
  · exact K C' M' _ hrl.2 hHC hhM hU
  · exact absurd hrl.1 hq

set_option maxHeartbeats 4000000 in
set_option maxRecDepth 100000 in
theorem lw_c_policyOr {p : Program} {l : Launch} {e : Env} {s : State} {m : MethodId} {below : List Frame} {meth : Method} {c : Code} {Q : State → Prop} {b L : Nat} {xs : Nat → Int32} {E F : mEv} {A G : Nat → Prop} (B : lwB p s m c b L xs E F A G) {N i ca sl : Nat} {C M : mSt} {H : Heap} {ls : Array Slot} (hca : ca ≤ 600000) (hsl : sl ≤ 7302250) (hR : Rel N C M) (hN : N ≤ 1000) (hHC : mHold mLC E C H) (hHM : mHold mLM F M H) (hU : va_S (fun q : Nat => s.heap.size ≤ q) s.heap H []) (hl : lv_has ls 4 [(0, .ref b), (1, .ref (mAdC E 0 0)), (2, .ref (mAdM F 0 0)), (3, .int (nI i))]) (hi : i + 5 < L) (K : ∀ (C' M' : mSt) (H1 : Heap), Rel (N + 1) C' M' → mHold mLC E C' H1 → mHold mLM F M' H1 → va_S (fun q : Nat => s.heap.size ≤ q) s.heap H1 [] → W p l e room_1 s m #[Value.ref b] below meth c H1 [] ca sl Q (F0 m 1064 ls [])) : W p l e room_1 s m #[Value.ref b] below meth c H [] ca sl Q (F0 m 577 ls []) := by
  obtain ⟨Cx, hGC, hGM, hOC, hOM, hX, hbl, hAU, hGU, hdis, hL⟩ := B
  have hx := Cx.1
  have hb := Cx.2.1
  have hbA : ¬ (fun q : Nat => s.heap.size ≤ q) b := Nat.not_le.mpr hbl
  have hT := hR.1
  obtain ⟨⟨ts, htC, htM⟩, h0⟩ := hR
  obtain ⟨v1, hv1⟩ : ∃ v, v = xs (nI (i + 1)).toNatClampNeg := ⟨_, rfl⟩
  refine lv_aload_n hx hb dL_law_577 rfl (lv_at hl 1 rfl) ?_
  refine lv_aload_n hx hb dL_law_578 rfl (lv_at hl 0 rfl) ?_
  refine lv_iload_n hx hb dL_law_579 rfl (lv_at hl 3 rfl) ?_
  refine lv_iconst (v := 1) hx hb dL_law_580 (by decide) ?_
  refine lv_iadd hx hb dL_law_581 ?_
  refine mv_eqi (x' := nI (i + 1)) (nI_add i 1) ?_
  refine va_sld hx hb hX hbl hbA hU (vp_in_nI (by omega) (by omega)) dL_law_582 ?_
  refine mv_eqi (x' := v1) hv1.symm ?_
  refine mv_callL (Y := mLC) (C := RX7) (k := 0) (i := 0) (rest := []) Cx hGC hHC hU hAU (c_X7_policyOr l E A hOC C v1 ts htC) q_co_X7_policyOr q_ml_L_85 q_im_X7_policyOr q_se_X7_policyOr q_in_X7 okC_0 rfl rfl hd_X7_policyOr ⟨Nat.le_of_ble_eq_true rfl, Nat.le_of_ble_eq_true rfl⟩ rfl hl.1 rfl (Nat.le_of_ble_eq_true rfl) ⟨hca, hsl⟩ dL_law_583 (fun C' H1 hPC hhC hU hk => ?_)
  have hHM := hold_kp hOM hHM hk (fun q g a => hdis q a g)
  clear hHC hk
  refine W.eq (g2 := F0 m 586 ls [.int (((seO C v1).elim (-1) (fun i => orR C i ts)))]) rfl ?_
  generalize H1 = H at hhC hHM hU ⊢
  refine lv_aload_n hx hb dL_law_586 rfl (lv_at hl 2 rfl) ?_
  refine lv_aload_n hx hb dL_law_587 rfl (lv_at hl 0 rfl) ?_
  refine lv_iload_n hx hb dL_law_588 rfl (lv_at hl 3 rfl) ?_
  refine lv_iconst (v := 1) hx hb dL_law_589 (by decide) ?_
  refine lv_iadd hx hb dL_law_590 ?_
  refine mv_eqi (x' := nI (i + 1)) (nI_add i 1) ?_
  refine va_sld hx hb hX hbl hbA hU (vp_in_nI (by omega) (by omega)) dL_law_591 ?_
  refine mv_eqi (x' := v1) hv1.symm ?_
  refine mv_callL (Y := mLM) (C := RX8) (k := 0) (i := 0) (rest := [.int (((seO C v1).elim (-1) (fun i => orR C i ts)))]) Cx hGM hHM hU hGU (c_X8_policyOr l F G hOM M v1 ts htM) q_co_X8_policyOr q_ml_L_88 q_im_X8_policyOr q_se_X8_policyOr q_in_X8 okM_0 rfl rfl hd_X8_policyOr ⟨Nat.le_of_ble_eq_true rfl, Nat.le_of_ble_eq_true rfl⟩ rfl hl.1 rfl (Nat.le_of_ble_eq_true rfl) ⟨hca, hsl⟩ dL_law_592 (fun M' H1 hPM hhM hU hk => ?_)
  have hHC := hold_kp hOC hhC hk (fun q a => hdis q a)
  refine W.eq (g2 := F0 m 595 ls [.int (((msO (mM M 0 0 1 0) v1).elim (-1) (fun i => if orOk ts then (if orB (fun q => M.2.1 23 0 (32 * i + q)) (M.2.1 1 0) (ts.length / 32) = true then 0 else -7) else -1))), .int (((seO C v1).elim (-1) (fun i => orR C i ts)))]) rfl ?_
  have hrl := rl_policyOr v1 ts htC htM h0 hN hPC hPM
  refine lv_icmp_eq (tgt := 1064) hx hb dL_law_595 (by decide) (fun hq => ?_) (fun hq => ?_)
  · exact K C' M' _ hrl.2 hHC hhM hU
  · exact absurd hrl.1 hq

set_option maxHeartbeats 4000000 in
set_option maxRecDepth 100000 in
theorem lw_c_digest {p : Program} {l : Launch} {e : Env} {s : State} {m : MethodId} {below : List Frame} {meth : Method} {c : Code} {Q : State → Prop} {b L : Nat} {xs : Nat → Int32} {E F : mEv} {A G : Nat → Prop} (B : lwB p s m c b L xs E F A G) {N i ca sl : Nat} {C M : mSt} {H : Heap} {ls : Array Slot} (hca : ca ≤ 600000) (hsl : sl ≤ 7302250) (hR : Rel N C M) (hN : N ≤ 1000) (hHC : mHold mLC E C H) (hHM : mHold mLM F M H) (hU : va_S (fun q : Nat => s.heap.size ≤ q) s.heap H []) (hl : lv_has ls 4 [(0, .ref b), (1, .ref (mAdC E 0 0)), (2, .ref (mAdM F 0 0)), (3, .int (nI i))]) (hi : i + 5 < L) (K : ∀ (C' M' : mSt) (H1 : Heap), Rel (N + 1) C' M' → mHold mLC E C' H1 → mHold mLM F M' H1 → va_S (fun q : Nat => s.heap.size ≤ q) s.heap H1 [] → W p l e room_1 s m #[Value.ref b] below meth c H1 [] ca sl Q (F0 m 1064 ls [])) : W p l e room_1 s m #[Value.ref b] below meth c H [] ca sl Q (F0 m 600 ls []) := by
  obtain ⟨Cx, hGC, hGM, hOC, hOM, hX, hbl, hAU, hGU, hdis, hL⟩ := B
  have hx := Cx.1
  have hb := Cx.2.1
  have hbA : ¬ (fun q : Nat => s.heap.size ≤ q) b := Nat.not_le.mpr hbl
  have hT := hR.1
  obtain ⟨⟨ts, htC, htM⟩, h0⟩ := hR
  obtain ⟨v1, hv1⟩ : ∃ v, v = xs (nI (i + 1)).toNatClampNeg := ⟨_, rfl⟩
  refine lv_aload_n hx hb dL_law_600 rfl (lv_at hl 1 rfl) ?_
  refine lv_aload_n hx hb dL_law_601 rfl (lv_at hl 0 rfl) ?_
  refine lv_iload_n hx hb dL_law_602 rfl (lv_at hl 3 rfl) ?_
  refine lv_iconst (v := 1) hx hb dL_law_603 (by decide) ?_
  refine lv_iadd hx hb dL_law_604 ?_
  refine mv_eqi (x' := nI (i + 1)) (nI_add i 1) ?_
  refine va_sld hx hb hX hbl hbA hU (vp_in_nI (by omega) (by omega)) dL_law_605 ?_
  refine mv_eqi (x' := v1) hv1.symm ?_
  refine mv_callL (Y := mLC) (C := RX7) (k := 0) (i := 0) (rest := []) Cx hGC hHC hU hAU (c_X7_digest l E A hOC C v1) q_co_X7_digest q_ml_L_89 q_im_X7_digest q_se_X7_digest q_in_X7 okC_0 rfl rfl hd_X7_digest ⟨Nat.le_of_ble_eq_true rfl, Nat.le_of_ble_eq_true rfl⟩ rfl hl.1 rfl (Nat.le_of_ble_eq_true rfl) ⟨hca, hsl⟩ dL_law_606 (fun C' H1 hPC hhC hU hk => ?_)
  have hHM := hold_kp hOM hHM hk (fun q g a => hdis q a g)
  clear hHC hk
  refine W.eq (g2 := F0 m 609 ls [.int (((seO C v1).elim (-1) (fun _ => 32)))]) rfl ?_
  generalize H1 = H at hhC hHM hU ⊢
  refine lv_aload_n hx hb dL_law_609 rfl (lv_at hl 2 rfl) ?_
  refine lv_aload_n hx hb dL_law_610 rfl (lv_at hl 0 rfl) ?_
  refine lv_iload_n hx hb dL_law_611 rfl (lv_at hl 3 rfl) ?_
  refine lv_iconst (v := 1) hx hb dL_law_612 (by decide) ?_
  refine lv_iadd hx hb dL_law_613 ?_
  refine mv_eqi (x' := nI (i + 1)) (nI_add i 1) ?_
  refine va_sld hx hb hX hbl hbA hU (vp_in_nI (by omega) (by omega)) dL_law_614 ?_
  refine mv_eqi (x' := v1) hv1.symm ?_
  refine mv_callL (Y := mLM) (C := RX8) (k := 0) (i := 0) (rest := [.int (((seO C v1).elim (-1) (fun _ => 32)))]) Cx hGM hHM hU hGU (c_X8_digest l F G hOM M v1) q_co_X8_digest q_ml_L_92 q_im_X8_digest q_se_X8_digest q_in_X8 okM_0 rfl rfl hd_X8_digest ⟨Nat.le_of_ble_eq_true rfl, Nat.le_of_ble_eq_true rfl⟩ rfl hl.1 rfl (Nat.le_of_ble_eq_true rfl) ⟨hca, hsl⟩ dL_law_615 (fun M' H1 hPM hhM hU hk => ?_)
  have hHC := hold_kp hOC hhC hk (fun q a => hdis q a)
  refine W.eq (g2 := F0 m 618 ls [.int (((msO M v1).elim (-1) (fun _ => 32))), .int (((seO C v1).elim (-1) (fun _ => 32)))]) rfl ?_
  have hrl := rl_digest v1 hT h0 hN hPC hPM
  refine lv_icmp_eq (tgt := 1064) hx hb dL_law_618 (by decide) (fun hq => ?_) (fun hq => ?_)
  · exact K C' M' _ hrl.2 hHC hhM hU
  · exact absurd hrl.1 hq

set_option maxHeartbeats 4000000 in
set_option maxRecDepth 100000 in
theorem lw_c_seal {p : Program} {l : Launch} {e : Env} {s : State} {m : MethodId} {below : List Frame} {meth : Method} {c : Code} {Q : State → Prop} {b L : Nat} {xs : Nat → Int32} {E F : mEv} {A G : Nat → Prop} (B : lwB p s m c b L xs E F A G) {N i ca sl : Nat} {C M : mSt} {H : Heap} {ls : Array Slot} (hca : ca ≤ 600000) (hsl : sl ≤ 7302250) (hR : Rel N C M) (hN : N ≤ 1000) (hHC : mHold mLC E C H) (hHM : mHold mLM F M H) (hU : va_S (fun q : Nat => s.heap.size ≤ q) s.heap H []) (hl : lv_has ls 4 [(0, .ref b), (1, .ref (mAdC E 0 0)), (2, .ref (mAdM F 0 0)), (3, .int (nI i))]) (hi : i + 5 < L) (K : ∀ (C' M' : mSt) (H1 : Heap), Rel (N + 1) C' M' → mHold mLC E C' H1 → mHold mLM F M' H1 → va_S (fun q : Nat => s.heap.size ≤ q) s.heap H1 [] → W p l e room_1 s m #[Value.ref b] below meth c H1 [] ca sl Q (F0 m 1064 ls [])) : W p l e room_1 s m #[Value.ref b] below meth c H [] ca sl Q (F0 m 623 ls []) := by
  obtain ⟨Cx, hGC, hGM, hOC, hOM, hX, hbl, hAU, hGU, hdis, hL⟩ := B
  have hx := Cx.1
  have hb := Cx.2.1
  have hbA : ¬ (fun q : Nat => s.heap.size ≤ q) b := Nat.not_le.mpr hbl
  have hT := hR.1
  obtain ⟨⟨ts, htC, htM⟩, h0⟩ := hR
  obtain ⟨v1, hv1⟩ : ∃ v, v = xs (nI (i + 1)).toNatClampNeg := ⟨_, rfl⟩
  refine lv_aload_n hx hb dL_law_623 rfl (lv_at hl 1 rfl) ?_
  refine lv_aload_n hx hb dL_law_624 rfl (lv_at hl 0 rfl) ?_
  refine lv_iload_n hx hb dL_law_625 rfl (lv_at hl 3 rfl) ?_
  refine lv_iconst (v := 1) hx hb dL_law_626 (by decide) ?_
  refine lv_iadd hx hb dL_law_627 ?_
  refine mv_eqi (x' := nI (i + 1)) (nI_add i 1) ?_
  refine va_sld hx hb hX hbl hbA hU (vp_in_nI (by omega) (by omega)) dL_law_628 ?_
  refine mv_eqi (x' := v1) hv1.symm ?_
  refine mv_callL (Y := mLC) (C := RX7) (k := 0) (i := 0) (rest := []) Cx hGC hHC hU hAU (c_X7_seal l E A hOC C v1 ts htC) q_co_X7_seal q_ml_L_93 q_im_X7_seal q_se_X7_seal q_in_X7 okC_0 rfl rfl hd_X7_seal ⟨Nat.le_of_ble_eq_true rfl, Nat.le_of_ble_eq_true rfl⟩ rfl hl.1 rfl (Nat.le_of_ble_eq_true rfl) ⟨hca, hsl⟩ dL_law_629 (fun C' H1 hPC hhC hU hk => ?_)
  have hHM := hold_kp hOM hHM hk (fun q g a => hdis q a g)
  clear hHC hk
  refine W.eq (g2 := F0 m 632 ls [.int (((poO C v1).elim (-1) (fun _ => if ts.length ≤ 128 then nI (101 + ts.length) else -1)))]) rfl ?_
  generalize H1 = H at hhC hHM hU ⊢
  refine lv_aload_n hx hb dL_law_632 rfl (lv_at hl 2 rfl) ?_
  refine lv_aload_n hx hb dL_law_633 rfl (lv_at hl 0 rfl) ?_
  refine lv_iload_n hx hb dL_law_634 rfl (lv_at hl 3 rfl) ?_
  refine lv_iconst (v := 1) hx hb dL_law_635 (by decide) ?_
  refine lv_iadd hx hb dL_law_636 ?_
  refine mv_eqi (x' := nI (i + 1)) (nI_add i 1) ?_
  refine va_sld hx hb hX hbl hbA hU (vp_in_nI (by omega) (by omega)) dL_law_637 ?_
  refine mv_eqi (x' := v1) hv1.symm ?_
  refine mv_callL (Y := mLM) (C := RX8) (k := 0) (i := 0) (rest := [.int (((poO C v1).elim (-1) (fun _ => if ts.length ≤ 128 then nI (101 + ts.length) else -1)))]) Cx hGM hHM hU hGU (c_X8_seal l F G hOM M v1 ts htM) q_co_X8_seal q_ml_L_96 q_im_X8_seal q_se_X8_seal q_in_X8 okM_0 rfl rfl hd_X8_seal ⟨Nat.le_of_ble_eq_true rfl, Nat.le_of_ble_eq_true rfl⟩ rfl hl.1 rfl (Nat.le_of_ble_eq_true rfl) ⟨hca, hsl⟩ dL_law_638 (fun M' H1 hPM hhM hU hk => ?_)
  have hHC := hold_kp hOC hhC hk (fun q a => hdis q a)
  refine W.eq (g2 := F0 m 641 ls [.int ((if (mpOk (mM M 0 0 1 0) v1 ∧ ts.length ≤ 128) then nI (101 + ts.length) else -1)), .int (((poO C v1).elim (-1) (fun _ => if ts.length ≤ 128 then nI (101 + ts.length) else -1)))]) rfl ?_
  have hrl := rl_seal v1 ts htC htM h0 hN hPC hPM
  refine lv_icmp_eq (tgt := 1064) hx hb dL_law_641 (by decide) (fun hq => ?_) (fun hq => ?_)
  · exact K C' M' _ hrl.2 hHC hhM hU
  · exact absurd hrl.1 hq

set_option maxHeartbeats 4000000 in
set_option maxRecDepth 100000 in
theorem lw_c_load {p : Program} {l : Launch} {e : Env} {s : State} {m : MethodId} {below : List Frame} {meth : Method} {c : Code} {Q : State → Prop} {b L : Nat} {xs : Nat → Int32} {E F : mEv} {A G : Nat → Prop} (B : lwB p s m c b L xs E F A G) {N i ca sl : Nat} {C M : mSt} {H : Heap} {ls : Array Slot} (hca : ca ≤ 600000) (hsl : sl ≤ 7302250) (hR : Rel N C M) (hN : N ≤ 1000) (hHC : mHold mLC E C H) (hHM : mHold mLM F M H) (hU : va_S (fun q : Nat => s.heap.size ≤ q) s.heap H []) (hl : lv_has ls 4 [(0, .ref b), (1, .ref (mAdC E 0 0)), (2, .ref (mAdM F 0 0)), (3, .int (nI i))]) (hi : i + 5 < L) (K : ∀ (C' M' : mSt) (H1 : Heap), Rel (N + 1) C' M' → mHold mLC E C' H1 → mHold mLM F M' H1 → va_S (fun q : Nat => s.heap.size ≤ q) s.heap H1 [] → W p l e room_1 s m #[Value.ref b] below meth c H1 [] ca sl Q (F0 m 1064 ls [])) : W p l e room_1 s m #[Value.ref b] below meth c H [] ca sl Q (F0 m 646 ls []) := by
  obtain ⟨Cx, hGC, hGM, hOC, hOM, hX, hbl, hAU, hGU, hdis, hL⟩ := B
  have hx := Cx.1
  have hb := Cx.2.1
  have hbA : ¬ (fun q : Nat => s.heap.size ≤ q) b := Nat.not_le.mpr hbl
  have hT := hR.1
  obtain ⟨⟨ts, htC, htM⟩, h0⟩ := hR
  refine lv_aload_n hx hb dL_law_646 rfl (lv_at hl 1 rfl) ?_
  refine mv_callL (Y := mLC) (C := RX7) (k := 0) (i := 0) (rest := []) Cx hGC hHC hU hAU (c_X7_load l E A hOC C ts htC) q_co_X7_load q_ml_L_97 q_im_X7_load q_se_X7_load q_in_X7 okC_0 rfl rfl hd_X7_load ⟨Nat.le_of_ble_eq_true rfl, Nat.le_of_ble_eq_true rfl⟩ rfl hl.1 rfl (Nat.le_of_ble_eq_true rfl) ⟨hca, hsl⟩ dL_law_647 (fun C' H1 hPC hhC hU hk => ?_)
  have hHM := hold_kp hOM hHM hk (fun q g a => hdis q a g)
  clear hHC hk
  refine W.eq (g2 := F0 m 650 ls [.int ((if uwB (C.2.1 8 0) ts = true then (ffO C).elim (-3) nI else -6))]) rfl ?_
  generalize H1 = H at hhC hHM hU ⊢
  refine lv_aload_n hx hb dL_law_650 rfl (lv_at hl 2 rfl) ?_
  refine mv_callL (Y := mLM) (C := RX8) (k := 0) (i := 0) (rest := [.int ((if uwB (C.2.1 8 0) ts = true then (ffO C).elim (-3) nI else -6))]) Cx hGM hHM hU hGU (c_X8_load l F G hOM M ts htM) q_co_X8_load q_ml_L_100 q_im_X8_load q_se_X8_load q_in_X8 okM_0 rfl rfl hd_X8_load ⟨Nat.le_of_ble_eq_true rfl, Nat.le_of_ble_eq_true rfl⟩ rfl hl.1 rfl (Nat.le_of_ble_eq_true rfl) ⟨hca, hsl⟩ dL_law_651 (fun M' H1 hPM hhM hU hk => ?_)
  have hHC := hold_kp hOC hhC hk (fun q a => hdis q a)
  refine W.eq (g2 := F0 m 654 ls [.int ((if uwB (M.2.1 13 0) ts = true then (mfO (mM M 0 0 1 0)).elim (-3) nI else -6)), .int ((if uwB (C.2.1 8 0) ts = true then (ffO C).elim (-3) nI else -6))]) rfl ?_
  have hrl := rl_load ts htC htM h0 hN hPC hPM
  refine lv_icmp_eq (tgt := 1064) hx hb dL_law_654 (by decide) (fun hq => ?_) (fun hq => ?_)
  · exact K C' M' _ hrl.2 hHC hhM hU
  · exact absurd hrl.1 hq

set_option maxHeartbeats 4000000 in
set_option maxRecDepth 100000 in
theorem lw_c_unseal {p : Program} {l : Launch} {e : Env} {s : State} {m : MethodId} {below : List Frame} {meth : Method} {c : Code} {Q : State → Prop} {b L : Nat} {xs : Nat → Int32} {E F : mEv} {A G : Nat → Prop} (B : lwB p s m c b L xs E F A G) {N i ca sl : Nat} {C M : mSt} {H : Heap} {ls : Array Slot} (hca : ca ≤ 600000) (hsl : sl ≤ 7302250) (hR : Rel N C M) (hN : N ≤ 1000) (hHC : mHold mLC E C H) (hHM : mHold mLM F M H) (hU : va_S (fun q : Nat => s.heap.size ≤ q) s.heap H []) (hl : lv_has ls 4 [(0, .ref b), (1, .ref (mAdC E 0 0)), (2, .ref (mAdM F 0 0)), (3, .int (nI i))]) (hi : i + 5 < L) (K : ∀ (C' M' : mSt) (H1 : Heap), Rel (N + 1) C' M' → mHold mLC E C' H1 → mHold mLM F M' H1 → va_S (fun q : Nat => s.heap.size ≤ q) s.heap H1 [] → W p l e room_1 s m #[Value.ref b] below meth c H1 [] ca sl Q (F0 m 1064 ls [])) : W p l e room_1 s m #[Value.ref b] below meth c H [] ca sl Q (F0 m 659 ls []) := by
  obtain ⟨Cx, hGC, hGM, hOC, hOM, hX, hbl, hAU, hGU, hdis, hL⟩ := B
  have hx := Cx.1
  have hb := Cx.2.1
  have hbA : ¬ (fun q : Nat => s.heap.size ≤ q) b := Nat.not_le.mpr hbl
  have hT := hR.1
  obtain ⟨⟨ts, htC, htM⟩, h0⟩ := hR
  obtain ⟨v1, hv1⟩ : ∃ v, v = xs (nI (i + 1)).toNatClampNeg := ⟨_, rfl⟩
  obtain ⟨v2, hv2⟩ : ∃ v, v = xs (nI (i + 2)).toNatClampNeg := ⟨_, rfl⟩
  refine lv_aload_n hx hb dL_law_659 rfl (lv_at hl 1 rfl) ?_
  refine lv_aload_n hx hb dL_law_660 rfl (lv_at hl 0 rfl) ?_
  refine lv_iload_n hx hb dL_law_661 rfl (lv_at hl 3 rfl) ?_
  refine lv_iconst (v := 1) hx hb dL_law_662 (by decide) ?_
  refine lv_iadd hx hb dL_law_663 ?_
  refine mv_eqi (x' := nI (i + 1)) (nI_add i 1) ?_
  refine va_sld hx hb hX hbl hbA hU (vp_in_nI (by omega) (by omega)) dL_law_664 ?_
  refine mv_eqi (x' := v1) hv1.symm ?_
  refine lv_aload_n hx hb dL_law_665 rfl (lv_at hl 0 rfl) ?_
  refine lv_iload_n hx hb dL_law_666 rfl (lv_at hl 3 rfl) ?_
  refine lv_iconst (v := 2) hx hb dL_law_667 (by decide) ?_
  refine lv_iadd hx hb dL_law_668 ?_
  refine mv_eqi (x' := nI (i + 2)) (nI_add i 2) ?_
  refine va_sld hx hb hX hbl hbA hU (vp_in_nI (by omega) (by omega)) dL_law_669 ?_
  refine mv_eqi (x' := v2) hv2.symm ?_
  refine mv_callL (Y := mLC) (C := RX7) (k := 0) (i := 0) (rest := []) Cx hGC hHC hU hAU (c_X7_unseal l E A hOC C v1 v2 (p_doC h0 v1)) q_co_X7_unseal q_ml_L_101 q_im_X7_unseal q_se_X7_unseal q_in_X7 okC_0 rfl rfl hd_X7_unseal ⟨Nat.le_of_ble_eq_true rfl, Nat.le_of_ble_eq_true rfl⟩ rfl hl.1 rfl (Nat.le_of_ble_eq_true rfl) ⟨hca, hsl⟩ dL_law_670 (fun C' H1 hPC hhC hU hk => ?_)
  have hHM := hold_kp hOM hHM hk (fun q g a => hdis q a g)
  clear hHC hk
  refine W.eq (g2 := F0 m 673 ls [.int (((obO C v1).elim (-2) (fun i => if (askP C i v2 1).1 = 0 then C.1 2 (3 + i) 1 else (askP C i v2 1).1)))]) rfl ?_
  generalize H1 = H at hhC hHM hU ⊢
  refine lv_aload_n hx hb dL_law_673 rfl (lv_at hl 2 rfl) ?_
  refine lv_aload_n hx hb dL_law_674 rfl (lv_at hl 0 rfl) ?_
  refine lv_iload_n hx hb dL_law_675 rfl (lv_at hl 3 rfl) ?_
  refine lv_iconst (v := 1) hx hb dL_law_676 (by decide) ?_
  refine lv_iadd hx hb dL_law_677 ?_
  refine mv_eqi (x' := nI (i + 1)) (nI_add i 1) ?_
  refine va_sld hx hb hX hbl hbA hU (vp_in_nI (by omega) (by omega)) dL_law_678 ?_
  refine mv_eqi (x' := v1) hv1.symm ?_
  refine lv_aload_n hx hb dL_law_679 rfl (lv_at hl 0 rfl) ?_
  refine lv_iload_n hx hb dL_law_680 rfl (lv_at hl 3 rfl) ?_
  refine lv_iconst (v := 2) hx hb dL_law_681 (by decide) ?_
  refine lv_iadd hx hb dL_law_682 ?_
  refine mv_eqi (x' := nI (i + 2)) (nI_add i 2) ?_
  refine va_sld hx hb hX hbl hbA hU (vp_in_nI (by omega) (by omega)) dL_law_683 ?_
  refine mv_eqi (x' := v2) hv2.symm ?_
  refine mv_callL (Y := mLM) (C := RX8) (k := 0) (i := 0) (rest := [.int (((obO C v1).elim (-2) (fun i => if (askP C i v2 1).1 = 0 then C.1 2 (3 + i) 1 else (askP C i v2 1).1)))]) Cx hGM hHM hU hGU (c_X8_unseal l F G hOM M v1 v2 (p_doM h0 v1)) q_co_X8_unseal q_ml_L_104 q_im_X8_unseal q_se_X8_unseal q_in_X8 okM_0 rfl rfl hd_X8_unseal ⟨Nat.le_of_ble_eq_true rfl, Nat.le_of_ble_eq_true rfl⟩ rfl hl.1 rfl (Nat.le_of_ble_eq_true rfl) ⟨hca, hsl⟩ dL_law_684 (fun M' H1 hPM hhM hU hk => ?_)
  have hHC := hold_kp hOC hhC hk (fun q a => hdis q a)
  refine W.eq (g2 := F0 m 687 ls [.int (((moO M v1).elim (-2) (fun i => if (mbP M i v2 1).1 = 0 then M.1 34 0 i else (mbP M i v2 1).1))), .int (((obO C v1).elim (-2) (fun i => if (askP C i v2 1).1 = 0 then C.1 2 (3 + i) 1 else (askP C i v2 1).1)))]) rfl ?_
  have hrl := rl_unseal v1 v2 hT h0 hN hPC hPM
  refine lv_icmp_eq (tgt := 1064) hx hb dL_law_687 (by decide) (fun hq => ?_) (fun hq => ?_)
  · exact K C' M' _ hrl.2 hHC hhM hU
  · exact absurd hrl.1 hq

set_option maxHeartbeats 4000000 in
set_option maxRecDepth 100000 in
theorem lw_c_flush {p : Program} {l : Launch} {e : Env} {s : State} {m : MethodId} {below : List Frame} {meth : Method} {c : Code} {Q : State → Prop} {b L : Nat} {xs : Nat → Int32} {E F : mEv} {A G : Nat → Prop} (B : lwB p s m c b L xs E F A G) {N i ca sl : Nat} {C M : mSt} {H : Heap} {ls : Array Slot} (hca : ca ≤ 600000) (hsl : sl ≤ 7302250) (hR : Rel N C M) (hN : N ≤ 1000) (hHC : mHold mLC E C H) (hHM : mHold mLM F M H) (hU : va_S (fun q : Nat => s.heap.size ≤ q) s.heap H []) (hl : lv_has ls 4 [(0, .ref b), (1, .ref (mAdC E 0 0)), (2, .ref (mAdM F 0 0)), (3, .int (nI i))]) (hi : i + 5 < L) (K : ∀ (C' M' : mSt) (H1 : Heap), Rel (N + 1) C' M' → mHold mLC E C' H1 → mHold mLM F M' H1 → va_S (fun q : Nat => s.heap.size ≤ q) s.heap H1 [] → W p l e room_1 s m #[Value.ref b] below meth c H1 [] ca sl Q (F0 m 1064 ls [])) : W p l e room_1 s m #[Value.ref b] below meth c H [] ca sl Q (F0 m 692 ls []) := by
  obtain ⟨Cx, hGC, hGM, hOC, hOM, hX, hbl, hAU, hGU, hdis, hL⟩ := B
  have hx := Cx.1
  have hb := Cx.2.1
  have hbA : ¬ (fun q : Nat => s.heap.size ≤ q) b := Nat.not_le.mpr hbl
  have hT := hR.1
  obtain ⟨⟨ts, htC, htM⟩, h0⟩ := hR
  obtain ⟨v1, hv1⟩ : ∃ v, v = xs (nI (i + 1)).toNatClampNeg := ⟨_, rfl⟩
  refine lv_aload_n hx hb dL_law_692 rfl (lv_at hl 1 rfl) ?_
  refine lv_aload_n hx hb dL_law_693 rfl (lv_at hl 0 rfl) ?_
  refine lv_iload_n hx hb dL_law_694 rfl (lv_at hl 3 rfl) ?_
  refine lv_iconst (v := 1) hx hb dL_law_695 (by decide) ?_
  refine lv_iadd hx hb dL_law_696 ?_
  refine mv_eqi (x' := nI (i + 1)) (nI_add i 1) ?_
  refine va_sld hx hb hX hbl hbA hU (vp_in_nI (by omega) (by omega)) dL_law_697 ?_
  refine mv_eqi (x' := v1) hv1.symm ?_
  refine mv_callL (Y := mLC) (C := RX7) (k := 0) (i := 0) (rest := []) Cx hGC hHC hU hAU (c_X7_flush l E A hOC C v1) q_co_X7_flush q_ml_L_105 q_im_X7_flush q_se_X7_flush q_in_X7 okC_0 rfl rfl hd_X7_flush ⟨Nat.le_of_ble_eq_true rfl, Nat.le_of_ble_eq_true rfl⟩ rfl hl.1 rfl (Nat.le_of_ble_eq_true rfl) ⟨hca, hsl⟩ dL_law_698 (fun C' H1 hPC hhC hU hk => ?_)
  have hHM := hold_kp hOM hHM hk (fun q g a => hdis q a g)
  clear hHC hk
  refine W.eq (g2 := F0 m 701 ls [.int (((obO C v1).elim (-2) (fun _ => 0)))]) rfl ?_
  generalize H1 = H at hhC hHM hU ⊢
  refine lv_aload_n hx hb dL_law_701 rfl (lv_at hl 2 rfl) ?_
  refine lv_aload_n hx hb dL_law_702 rfl (lv_at hl 0 rfl) ?_
  refine lv_iload_n hx hb dL_law_703 rfl (lv_at hl 3 rfl) ?_
  refine lv_iconst (v := 1) hx hb dL_law_704 (by decide) ?_
  refine lv_iadd hx hb dL_law_705 ?_
  refine mv_eqi (x' := nI (i + 1)) (nI_add i 1) ?_
  refine va_sld hx hb hX hbl hbA hU (vp_in_nI (by omega) (by omega)) dL_law_706 ?_
  refine mv_eqi (x' := v1) hv1.symm ?_
  refine mv_callL (Y := mLM) (C := RX8) (k := 0) (i := 0) (rest := [.int (((obO C v1).elim (-2) (fun _ => 0)))]) Cx hGM hHM hU hGU (c_X8_flush l F G hOM M v1) q_co_X8_flush q_ml_L_108 q_im_X8_flush q_se_X8_flush q_in_X8 okM_0 rfl rfl hd_X8_flush ⟨Nat.le_of_ble_eq_true rfl, Nat.le_of_ble_eq_true rfl⟩ rfl hl.1 rfl (Nat.le_of_ble_eq_true rfl) ⟨hca, hsl⟩ dL_law_707 (fun M' H1 hPM hhM hU hk => ?_)
  have hHC := hold_kp hOC hhC hk (fun q a => hdis q a)
  refine W.eq (g2 := F0 m 710 ls [.int (((moO M v1).elim (-2) (fun _ => 0))), .int (((obO C v1).elim (-2) (fun _ => 0)))]) rfl ?_
  have hrl := rl_flush v1 hT h0 hN hPC hPM
  refine lv_icmp_eq (tgt := 1064) hx hb dL_law_710 (by decide) (fun hq => ?_) (fun hq => ?_)
  · exact K C' M' _ hrl.2 hHC hhM hU
  · exact absurd hrl.1 hq

set_option maxHeartbeats 4000000 in
set_option maxRecDepth 100000 in
theorem lw_c_define {p : Program} {l : Launch} {e : Env} {s : State} {m : MethodId} {below : List Frame} {meth : Method} {c : Code} {Q : State → Prop} {b L : Nat} {xs : Nat → Int32} {E F : mEv} {A G : Nat → Prop} (B : lwB p s m c b L xs E F A G) {N i ca sl : Nat} {C M : mSt} {H : Heap} {ls : Array Slot} (hca : ca ≤ 600000) (hsl : sl ≤ 7302250) (hR : Rel N C M) (hN : N ≤ 1000) (hHC : mHold mLC E C H) (hHM : mHold mLM F M H) (hU : va_S (fun q : Nat => s.heap.size ≤ q) s.heap H []) (hl : lv_has ls 4 [(0, .ref b), (1, .ref (mAdC E 0 0)), (2, .ref (mAdM F 0 0)), (3, .int (nI i))]) (hi : i + 5 < L) (K : ∀ (C' M' : mSt) (H1 : Heap), Rel (N + 1) C' M' → mHold mLC E C' H1 → mHold mLM F M' H1 → va_S (fun q : Nat => s.heap.size ≤ q) s.heap H1 [] → W p l e room_1 s m #[Value.ref b] below meth c H1 [] ca sl Q (F0 m 1064 ls [])) : W p l e room_1 s m #[Value.ref b] below meth c H [] ca sl Q (F0 m 715 ls []) := by
  obtain ⟨Cx, hGC, hGM, hOC, hOM, hX, hbl, hAU, hGU, hdis, hL⟩ := B
  have hx := Cx.1
  have hb := Cx.2.1
  have hbA : ¬ (fun q : Nat => s.heap.size ≤ q) b := Nat.not_le.mpr hbl
  have hT := hR.1
  obtain ⟨⟨ts, htC, htM⟩, h0⟩ := hR
  obtain ⟨v1, hv1⟩ : ∃ v, v = xs (nI (i + 1)).toNatClampNeg := ⟨_, rfl⟩
  obtain ⟨v2, hv2⟩ : ∃ v, v = xs (nI (i + 2)).toNatClampNeg := ⟨_, rfl⟩
  obtain ⟨v3, hv3⟩ : ∃ v, v = xs (nI (i + 3)).toNatClampNeg := ⟨_, rfl⟩
  obtain ⟨v4, hv4⟩ : ∃ v, v = xs (nI (i + 4)).toNatClampNeg := ⟨_, rfl⟩
  refine lv_aload_n hx hb dL_law_715 rfl (lv_at hl 1 rfl) ?_
  refine lv_aload_n hx hb dL_law_716 rfl (lv_at hl 0 rfl) ?_
  refine lv_iload_n hx hb dL_law_717 rfl (lv_at hl 3 rfl) ?_
  refine lv_iconst (v := 1) hx hb dL_law_718 (by decide) ?_
  refine lv_iadd hx hb dL_law_719 ?_
  refine mv_eqi (x' := nI (i + 1)) (nI_add i 1) ?_
  refine va_sld hx hb hX hbl hbA hU (vp_in_nI (by omega) (by omega)) dL_law_720 ?_
  refine mv_eqi (x' := v1) hv1.symm ?_
  refine lv_aload_n hx hb dL_law_721 rfl (lv_at hl 0 rfl) ?_
  refine lv_iload_n hx hb dL_law_722 rfl (lv_at hl 3 rfl) ?_
  refine lv_iconst (v := 2) hx hb dL_law_723 (by decide) ?_
  refine lv_iadd hx hb dL_law_724 ?_
  refine mv_eqi (x' := nI (i + 2)) (nI_add i 2) ?_
  refine va_sld hx hb hX hbl hbA hU (vp_in_nI (by omega) (by omega)) dL_law_725 ?_
  refine mv_eqi (x' := v2) hv2.symm ?_
  refine lv_aload_n hx hb dL_law_726 rfl (lv_at hl 0 rfl) ?_
  refine lv_iload_n hx hb dL_law_727 rfl (lv_at hl 3 rfl) ?_
  refine lv_iconst (v := 3) hx hb dL_law_728 (by decide) ?_
  refine lv_iadd hx hb dL_law_729 ?_
  refine mv_eqi (x' := nI (i + 3)) (nI_add i 3) ?_
  refine va_sld hx hb hX hbl hbA hU (vp_in_nI (by omega) (by omega)) dL_law_730 ?_
  refine mv_eqi (x' := v3) hv3.symm ?_
  refine lv_aload_n hx hb dL_law_731 rfl (lv_at hl 0 rfl) ?_
  refine lv_iload_n hx hb dL_law_732 rfl (lv_at hl 3 rfl) ?_
  refine lv_iconst (v := 4) hx hb dL_law_733 (by decide) ?_
  refine lv_iadd hx hb dL_law_734 ?_
  refine mv_eqi (x' := nI (i + 4)) (nI_add i 4) ?_
  refine va_sld hx hb hX hbl hbA hU (vp_in_nI (by omega) (by omega)) dL_law_735 ?_
  refine mv_eqi (x' := v4) hv4.symm ?_
  refine mv_callL (Y := mLC) (C := RX7) (k := 0) (i := 0) (rest := []) Cx hGC hHC hU hAU (c_X7_define l E A hOC C v1 v2 v3 v4 ts htC) q_co_X7_define q_ml_L_109 q_im_X7_define q_se_X7_define q_in_X7 okC_0 rfl rfl hd_X7_define ⟨Nat.le_of_ble_eq_true rfl, Nat.le_of_ble_eq_true rfl⟩ rfl hl.1 rfl (Nat.le_of_ble_eq_true rfl) ⟨hca, hsl⟩ dL_law_736 (fun C' H1 hPC hhC hU hk => ?_)
  have hHM := hold_kp hOM hHM hk (fun q g a => hdis q a g)
  clear hHC hk
  refine W.eq (g2 := F0 m 739 ls [.int (((poO C v4).elim (-1) (fun _ => if (¬ v1 < 0 ∧ ¬ nI 8 ≤ v1 ∧ (v2 = 1 ∨ v2 = 2 ∨ (v2 = 0 ∧ ¬ v3 < 1 ∧ ¬ 64 < v3))) then (if C.1 22 (4 + v1.toNatClampNeg) 3 = 0 then (akR C (C.2.1 12 0)) else -2) else -1)))]) rfl ?_
  generalize H1 = H at hhC hHM hU ⊢
  refine lv_aload_n hx hb dL_law_739 rfl (lv_at hl 2 rfl) ?_
  refine lv_aload_n hx hb dL_law_740 rfl (lv_at hl 0 rfl) ?_
  refine lv_iload_n hx hb dL_law_741 rfl (lv_at hl 3 rfl) ?_
  refine lv_iconst (v := 1) hx hb dL_law_742 (by decide) ?_
  refine lv_iadd hx hb dL_law_743 ?_
  refine mv_eqi (x' := nI (i + 1)) (nI_add i 1) ?_
  refine va_sld hx hb hX hbl hbA hU (vp_in_nI (by omega) (by omega)) dL_law_744 ?_
  refine mv_eqi (x' := v1) hv1.symm ?_
  refine lv_aload_n hx hb dL_law_745 rfl (lv_at hl 0 rfl) ?_
  refine lv_iload_n hx hb dL_law_746 rfl (lv_at hl 3 rfl) ?_
  refine lv_iconst (v := 2) hx hb dL_law_747 (by decide) ?_
  refine lv_iadd hx hb dL_law_748 ?_
  refine mv_eqi (x' := nI (i + 2)) (nI_add i 2) ?_
  refine va_sld hx hb hX hbl hbA hU (vp_in_nI (by omega) (by omega)) dL_law_749 ?_
  refine mv_eqi (x' := v2) hv2.symm ?_
  refine lv_aload_n hx hb dL_law_750 rfl (lv_at hl 0 rfl) ?_
  refine lv_iload_n hx hb dL_law_751 rfl (lv_at hl 3 rfl) ?_
  refine lv_iconst (v := 3) hx hb dL_law_752 (by decide) ?_
  refine lv_iadd hx hb dL_law_753 ?_
  refine mv_eqi (x' := nI (i + 3)) (nI_add i 3) ?_
  refine va_sld hx hb hX hbl hbA hU (vp_in_nI (by omega) (by omega)) dL_law_754 ?_
  refine mv_eqi (x' := v3) hv3.symm ?_
  refine lv_aload_n hx hb dL_law_755 rfl (lv_at hl 0 rfl) ?_
  refine lv_iload_n hx hb dL_law_756 rfl (lv_at hl 3 rfl) ?_
  refine lv_iconst (v := 4) hx hb dL_law_757 (by decide) ?_
  refine lv_iadd hx hb dL_law_758 ?_
  refine mv_eqi (x' := nI (i + 4)) (nI_add i 4) ?_
  refine va_sld hx hb hX hbl hbA hU (vp_in_nI (by omega) (by omega)) dL_law_759 ?_
  refine mv_eqi (x' := v4) hv4.symm ?_
  refine mv_callL (Y := mLM) (C := RX8) (k := 0) (i := 0) (rest := [.int (((poO C v4).elim (-1) (fun _ => if (¬ v1 < 0 ∧ ¬ nI 8 ≤ v1 ∧ (v2 = 1 ∨ v2 = 2 ∨ (v2 = 0 ∧ ¬ v3 < 1 ∧ ¬ 64 < v3))) then (if C.1 22 (4 + v1.toNatClampNeg) 3 = 0 then (akR C (C.2.1 12 0)) else -2) else -1)))]) Cx hGM hHM hU hGU (c_X8_define l F G hOM M v1 v2 v3 v4 ts htM) q_co_X8_define q_ml_L_113 q_im_X8_define q_se_X8_define q_in_X8 okM_0 rfl rfl hd_X8_define ⟨Nat.le_of_ble_eq_true rfl, Nat.le_of_ble_eq_true rfl⟩ rfl hl.1 rfl (Nat.le_of_ble_eq_true rfl) ⟨hca, hsl⟩ dL_law_760 (fun M' H1 hPM hhM hU hk => ?_)
  have hHC := hold_kp hOC hhC hk (fun q a => hdis q a)
  refine W.eq (g2 := F0 m 763 ls [.int ((if dfOk (mM M 0 0 1 0) v1 v2 v3 v4 then (if (mM M 0 0 1 0).1 30 0 (4 + v1.toNatClampNeg) = 0 then (mkR (mM M 0 0 1 0) (M.2.1 15 0) 0) else -2) else -1)), .int (((poO C v4).elim (-1) (fun _ => if (¬ v1 < 0 ∧ ¬ nI 8 ≤ v1 ∧ (v2 = 1 ∨ v2 = 2 ∨ (v2 = 0 ∧ ¬ v3 < 1 ∧ ¬ 64 < v3))) then (if C.1 22 (4 + v1.toNatClampNeg) 3 = 0 then (akR C (C.2.1 12 0)) else -2) else -1)))]) rfl ?_
  have hrl := rl_define v1 v2 v3 v4 ts h0 hN hPC hPM
  refine lv_icmp_eq (tgt := 1064) hx hb dL_law_763 (by decide) (fun hq => ?_) (fun hq => ?_)
  · exact K C' M' _ hrl.2 hHC hhM hU
  · exact absurd hrl.1 hq

set_option maxHeartbeats 4000000 in
set_option maxRecDepth 100000 in
theorem lw_c_undefine {p : Program} {l : Launch} {e : Env} {s : State} {m : MethodId} {below : List Frame} {meth : Method} {c : Code} {Q : State → Prop} {b L : Nat} {xs : Nat → Int32} {E F : mEv} {A G : Nat → Prop} (B : lwB p s m c b L xs E F A G) {N i ca sl : Nat} {C M : mSt} {H : Heap} {ls : Array Slot} (hca : ca ≤ 600000) (hsl : sl ≤ 7302250) (hR : Rel N C M) (hN : N ≤ 1000) (hHC : mHold mLC E C H) (hHM : mHold mLM F M H) (hU : va_S (fun q : Nat => s.heap.size ≤ q) s.heap H []) (hl : lv_has ls 4 [(0, .ref b), (1, .ref (mAdC E 0 0)), (2, .ref (mAdM F 0 0)), (3, .int (nI i))]) (hi : i + 5 < L) (K : ∀ (C' M' : mSt) (H1 : Heap), Rel (N + 1) C' M' → mHold mLC E C' H1 → mHold mLM F M' H1 → va_S (fun q : Nat => s.heap.size ≤ q) s.heap H1 [] → W p l e room_1 s m #[Value.ref b] below meth c H1 [] ca sl Q (F0 m 1064 ls [])) : W p l e room_1 s m #[Value.ref b] below meth c H [] ca sl Q (F0 m 768 ls []) := by
  obtain ⟨Cx, hGC, hGM, hOC, hOM, hX, hbl, hAU, hGU, hdis, hL⟩ := B
  have hx := Cx.1
  have hb := Cx.2.1
  have hbA : ¬ (fun q : Nat => s.heap.size ≤ q) b := Nat.not_le.mpr hbl
  have hT := hR.1
  obtain ⟨⟨ts, htC, htM⟩, h0⟩ := hR
  obtain ⟨v1, hv1⟩ : ∃ v, v = xs (nI (i + 1)).toNatClampNeg := ⟨_, rfl⟩
  refine lv_aload_n hx hb dL_law_768 rfl (lv_at hl 1 rfl) ?_
  refine lv_aload_n hx hb dL_law_769 rfl (lv_at hl 0 rfl) ?_
  refine lv_iload_n hx hb dL_law_770 rfl (lv_at hl 3 rfl) ?_
  refine lv_iconst (v := 1) hx hb dL_law_771 (by decide) ?_
  refine lv_iadd hx hb dL_law_772 ?_
  refine mv_eqi (x' := nI (i + 1)) (nI_add i 1) ?_
  refine va_sld hx hb hX hbl hbA hU (vp_in_nI (by omega) (by omega)) dL_law_773 ?_
  refine mv_eqi (x' := v1) hv1.symm ?_
  refine mv_callL (Y := mLC) (C := RX7) (k := 0) (i := 0) (rest := []) Cx hGC hHC hU hAU (c_X7_undefine l E A hOC C v1) q_co_X7_undefine q_ml_L_114 q_im_X7_undefine q_se_X7_undefine q_in_X7 okC_0 rfl rfl hd_X7_undefine ⟨Nat.le_of_ble_eq_true rfl, Nat.le_of_ble_eq_true rfl⟩ rfl hl.1 rfl (Nat.le_of_ble_eq_true rfl) ⟨hca, hsl⟩ dL_law_774 (fun C' H1 hPC hhC hU hk => ?_)
  have hHM := hold_kp hOM hHM hk (fun q g a => hdis q a g)
  clear hHC hk
  refine W.eq (g2 := F0 m 777 ls [.int (((vaO C v1).elim (-2) (fun _ => (akR C (C.2.1 12 0)))))]) rfl ?_
  generalize H1 = H at hhC hHM hU ⊢
  refine lv_aload_n hx hb dL_law_777 rfl (lv_at hl 2 rfl) ?_
  refine lv_aload_n hx hb dL_law_778 rfl (lv_at hl 0 rfl) ?_
  refine lv_iload_n hx hb dL_law_779 rfl (lv_at hl 3 rfl) ?_
  refine lv_iconst (v := 1) hx hb dL_law_780 (by decide) ?_
  refine lv_iadd hx hb dL_law_781 ?_
  refine mv_eqi (x' := nI (i + 1)) (nI_add i 1) ?_
  refine va_sld hx hb hX hbl hbA hU (vp_in_nI (by omega) (by omega)) dL_law_782 ?_
  refine mv_eqi (x' := v1) hv1.symm ?_
  refine mv_callL (Y := mLM) (C := RX8) (k := 0) (i := 0) (rest := [.int (((vaO C v1).elim (-2) (fun _ => (akR C (C.2.1 12 0)))))]) Cx hGM hHM hU hGU (c_X8_undefine l F G hOM M v1) q_co_X8_undefine q_ml_L_117 q_im_X8_undefine q_se_X8_undefine q_in_X8 okM_0 rfl rfl hd_X8_undefine ⟨Nat.le_of_ble_eq_true rfl, Nat.le_of_ble_eq_true rfl⟩ rfl hl.1 rfl (Nat.le_of_ble_eq_true rfl) ⟨hca, hsl⟩ dL_law_783 (fun M' H1 hPM hhM hU hk => ?_)
  have hHC := hold_kp hOC hhC hk (fun q a => hdis q a)
  refine W.eq (g2 := F0 m 786 ls [.int (((mtO M v1 (-1)).elim (-2) (fun _ => (mkR M (M.2.1 15 0) 0)))), .int (((vaO C v1).elim (-2) (fun _ => (akR C (C.2.1 12 0)))))]) rfl ?_
  have hrl := rl_undefine v1 hT h0 hN hPC hPM
  refine lv_icmp_eq (tgt := 1064) hx hb dL_law_786 (by decide) (fun hq => ?_) (fun hq => ?_)
  · exact K C' M' _ hrl.2 hHC hhM hU
  · exact absurd hrl.1 hq

set_option maxHeartbeats 4000000 in
set_option maxRecDepth 100000 in
theorem lw_c_write {p : Program} {l : Launch} {e : Env} {s : State} {m : MethodId} {below : List Frame} {meth : Method} {c : Code} {Q : State → Prop} {b L : Nat} {xs : Nat → Int32} {E F : mEv} {A G : Nat → Prop} (B : lwB p s m c b L xs E F A G) {N i ca sl : Nat} {C M : mSt} {H : Heap} {ls : Array Slot} (hca : ca ≤ 600000) (hsl : sl ≤ 7302250) (hR : Rel N C M) (hN : N ≤ 1000) (hHC : mHold mLC E C H) (hHM : mHold mLM F M H) (hU : va_S (fun q : Nat => s.heap.size ≤ q) s.heap H []) (hl : lv_has ls 4 [(0, .ref b), (1, .ref (mAdC E 0 0)), (2, .ref (mAdM F 0 0)), (3, .int (nI i))]) (hi : i + 5 < L) (K : ∀ (C' M' : mSt) (H1 : Heap), Rel (N + 1) C' M' → mHold mLC E C' H1 → mHold mLM F M' H1 → va_S (fun q : Nat => s.heap.size ≤ q) s.heap H1 [] → W p l e room_1 s m #[Value.ref b] below meth c H1 [] ca sl Q (F0 m 1064 ls [])) : W p l e room_1 s m #[Value.ref b] below meth c H [] ca sl Q (F0 m 791 ls []) := by
  obtain ⟨Cx, hGC, hGM, hOC, hOM, hX, hbl, hAU, hGU, hdis, hL⟩ := B
  have hx := Cx.1
  have hb := Cx.2.1
  have hbA : ¬ (fun q : Nat => s.heap.size ≤ q) b := Nat.not_le.mpr hbl
  have hT := hR.1
  obtain ⟨⟨ts, htC, htM⟩, h0⟩ := hR
  obtain ⟨v1, hv1⟩ : ∃ v, v = xs (nI (i + 1)).toNatClampNeg := ⟨_, rfl⟩
  obtain ⟨v2, hv2⟩ : ∃ v, v = xs (nI (i + 2)).toNatClampNeg := ⟨_, rfl⟩
  obtain ⟨v3, hv3⟩ : ∃ v, v = xs (nI (i + 3)).toNatClampNeg := ⟨_, rfl⟩
  refine lv_aload_n hx hb dL_law_791 rfl (lv_at hl 1 rfl) ?_
  refine lv_aload_n hx hb dL_law_792 rfl (lv_at hl 0 rfl) ?_
  refine lv_iload_n hx hb dL_law_793 rfl (lv_at hl 3 rfl) ?_
  refine lv_iconst (v := 1) hx hb dL_law_794 (by decide) ?_
  refine lv_iadd hx hb dL_law_795 ?_
  refine mv_eqi (x' := nI (i + 1)) (nI_add i 1) ?_
  refine va_sld hx hb hX hbl hbA hU (vp_in_nI (by omega) (by omega)) dL_law_796 ?_
  refine mv_eqi (x' := v1) hv1.symm ?_
  refine lv_aload_n hx hb dL_law_797 rfl (lv_at hl 0 rfl) ?_
  refine lv_iload_n hx hb dL_law_798 rfl (lv_at hl 3 rfl) ?_
  refine lv_iconst (v := 2) hx hb dL_law_799 (by decide) ?_
  refine lv_iadd hx hb dL_law_800 ?_
  refine mv_eqi (x' := nI (i + 2)) (nI_add i 2) ?_
  refine va_sld hx hb hX hbl hbA hU (vp_in_nI (by omega) (by omega)) dL_law_801 ?_
  refine mv_eqi (x' := v2) hv2.symm ?_
  refine lv_aload_n hx hb dL_law_802 rfl (lv_at hl 0 rfl) ?_
  refine lv_iload_n hx hb dL_law_803 rfl (lv_at hl 3 rfl) ?_
  refine lv_iconst (v := 3) hx hb dL_law_804 (by decide) ?_
  refine lv_iadd hx hb dL_law_805 ?_
  refine mv_eqi (x' := nI (i + 3)) (nI_add i 3) ?_
  refine va_sld hx hb hX hbl hbA hU (vp_in_nI (by omega) (by omega)) dL_law_806 ?_
  refine mv_eqi (x' := v3) hv3.symm ?_
  refine mv_callL (Y := mLC) (C := RX7) (k := 0) (i := 0) (rest := []) Cx hGC hHC hU hAU (c_X7_write l E A hOC C v1 v2 v3 ts htC (p_ddC h0 v1 0)) q_co_X7_write q_ml_L_118 q_im_X7_write q_se_X7_write q_in_X7 okC_0 rfl rfl hd_X7_write ⟨Nat.le_of_ble_eq_true rfl, Nat.le_of_ble_eq_true rfl⟩ rfl hl.1 rfl (Nat.le_of_ble_eq_true rfl) ⟨hca, hsl⟩ dL_law_807 (fun C' H1 hPC hhC hU hk => ?_)
  have hHM := hold_kp hOM hHM hk (fun q g a => hdis q a g)
  clear hHC hk
  refine W.eq (g2 := F0 m 810 ls [.int (((voO C v1 0).elim (-2) (fun i => if (¬ v2 < 0 ∧ ¬ C.1 2 (3 + (4 + i)) 1 < v2 ∧ nI ts.length ≤ C.1 2 (3 + (4 + i)) 1 - v2) then (acP C i v3 2).1 else -1)))]) rfl ?_
  generalize H1 = H at hhC hHM hU ⊢
  refine lv_aload_n hx hb dL_law_810 rfl (lv_at hl 2 rfl) ?_
  refine lv_aload_n hx hb dL_law_811 rfl (lv_at hl 0 rfl) ?_
  refine lv_iload_n hx hb dL_law_812 rfl (lv_at hl 3 rfl) ?_
  refine lv_iconst (v := 1) hx hb dL_law_813 (by decide) ?_
  refine lv_iadd hx hb dL_law_814 ?_
  refine mv_eqi (x' := nI (i + 1)) (nI_add i 1) ?_
  refine va_sld hx hb hX hbl hbA hU (vp_in_nI (by omega) (by omega)) dL_law_815 ?_
  refine mv_eqi (x' := v1) hv1.symm ?_
  refine lv_aload_n hx hb dL_law_816 rfl (lv_at hl 0 rfl) ?_
  refine lv_iload_n hx hb dL_law_817 rfl (lv_at hl 3 rfl) ?_
  refine lv_iconst (v := 2) hx hb dL_law_818 (by decide) ?_
  refine lv_iadd hx hb dL_law_819 ?_
  refine mv_eqi (x' := nI (i + 2)) (nI_add i 2) ?_
  refine va_sld hx hb hX hbl hbA hU (vp_in_nI (by omega) (by omega)) dL_law_820 ?_
  refine mv_eqi (x' := v2) hv2.symm ?_
  refine lv_aload_n hx hb dL_law_821 rfl (lv_at hl 0 rfl) ?_
  refine lv_iload_n hx hb dL_law_822 rfl (lv_at hl 3 rfl) ?_
  refine lv_iconst (v := 3) hx hb dL_law_823 (by decide) ?_
  refine lv_iadd hx hb dL_law_824 ?_
  refine mv_eqi (x' := nI (i + 3)) (nI_add i 3) ?_
  refine va_sld hx hb hX hbl hbA hU (vp_in_nI (by omega) (by omega)) dL_law_825 ?_
  refine mv_eqi (x' := v3) hv3.symm ?_
  refine mv_callL (Y := mLM) (C := RX8) (k := 0) (i := 0) (rest := [.int (((voO C v1 0).elim (-2) (fun i => if (¬ v2 < 0 ∧ ¬ C.1 2 (3 + (4 + i)) 1 < v2 ∧ nI ts.length ≤ C.1 2 (3 + (4 + i)) 1 - v2) then (acP C i v3 2).1 else -1)))]) Cx hGM hHM hU hGU (c_X8_write l F G hOM M v1 v2 v3 ts htM (p_ddM h0.cutM v1 0)) q_co_X8_write q_ml_L_122 q_im_X8_write q_se_X8_write q_in_X8 okM_0 rfl rfl hd_X8_write ⟨Nat.le_of_ble_eq_true rfl, Nat.le_of_ble_eq_true rfl⟩ rfl hl.1 rfl (Nat.le_of_ble_eq_true rfl) ⟨hca, hsl⟩ dL_law_826 (fun M' H1 hPM hhM hU hk => ?_)
  have hHC := hold_kp hOC hhC hk (fun q a => hdis q a)
  refine W.eq (g2 := F0 m 829 ls [.int (((mtO (mM M 0 0 1 0) v1 0).elim (-2) (fun i => if (¬ v2 < 0 ∧ v2 ≤ (mM M 0 0 1 0).1 34 0 (4 + i) - nI ts.length) then (mcP (mM M 0 0 1 0) i v3 2).1 else -1))), .int (((voO C v1 0).elim (-2) (fun i => if (¬ v2 < 0 ∧ ¬ C.1 2 (3 + (4 + i)) 1 < v2 ∧ nI ts.length ≤ C.1 2 (3 + (4 + i)) 1 - v2) then (acP C i v3 2).1 else -1)))]) rfl ?_
  have hrl := rl_write v1 v2 v3 ts htC htM h0 hN hPC hPM
  refine lv_icmp_eq (tgt := 1064) hx hb dL_law_829 (by decide) (fun hq => ?_) (fun hq => ?_)
  · exact K C' M' _ hrl.2 hHC hhM hU
  · exact absurd hrl.1 hq

set_option maxHeartbeats 4000000 in
set_option maxRecDepth 100000 in
theorem lw_c_count {p : Program} {l : Launch} {e : Env} {s : State} {m : MethodId} {below : List Frame} {meth : Method} {c : Code} {Q : State → Prop} {b L : Nat} {xs : Nat → Int32} {E F : mEv} {A G : Nat → Prop} (B : lwB p s m c b L xs E F A G) {N i ca sl : Nat} {C M : mSt} {H : Heap} {ls : Array Slot} (hca : ca ≤ 600000) (hsl : sl ≤ 7302250) (hR : Rel N C M) (hN : N ≤ 1000) (hHC : mHold mLC E C H) (hHM : mHold mLM F M H) (hU : va_S (fun q : Nat => s.heap.size ≤ q) s.heap H []) (hl : lv_has ls 4 [(0, .ref b), (1, .ref (mAdC E 0 0)), (2, .ref (mAdM F 0 0)), (3, .int (nI i))]) (hi : i + 5 < L) (K : ∀ (C' M' : mSt) (H1 : Heap), Rel (N + 1) C' M' → mHold mLC E C' H1 → mHold mLM F M' H1 → va_S (fun q : Nat => s.heap.size ≤ q) s.heap H1 [] → W p l e room_1 s m #[Value.ref b] below meth c H1 [] ca sl Q (F0 m 1064 ls [])) : W p l e room_1 s m #[Value.ref b] below meth c H [] ca sl Q (F0 m 834 ls []) := by
  obtain ⟨Cx, hGC, hGM, hOC, hOM, hX, hbl, hAU, hGU, hdis, hL⟩ := B
  have hx := Cx.1
  have hb := Cx.2.1
  have hbA : ¬ (fun q : Nat => s.heap.size ≤ q) b := Nat.not_le.mpr hbl
  have hT := hR.1
  obtain ⟨⟨ts, htC, htM⟩, h0⟩ := hR
  obtain ⟨v1, hv1⟩ : ∃ v, v = xs (nI (i + 1)).toNatClampNeg := ⟨_, rfl⟩
  obtain ⟨v2, hv2⟩ : ∃ v, v = xs (nI (i + 2)).toNatClampNeg := ⟨_, rfl⟩
  refine lv_aload_n hx hb dL_law_834 rfl (lv_at hl 1 rfl) ?_
  refine lv_aload_n hx hb dL_law_835 rfl (lv_at hl 0 rfl) ?_
  refine lv_iload_n hx hb dL_law_836 rfl (lv_at hl 3 rfl) ?_
  refine lv_iconst (v := 1) hx hb dL_law_837 (by decide) ?_
  refine lv_iadd hx hb dL_law_838 ?_
  refine mv_eqi (x' := nI (i + 1)) (nI_add i 1) ?_
  refine va_sld hx hb hX hbl hbA hU (vp_in_nI (by omega) (by omega)) dL_law_839 ?_
  refine mv_eqi (x' := v1) hv1.symm ?_
  refine lv_aload_n hx hb dL_law_840 rfl (lv_at hl 0 rfl) ?_
  refine lv_iload_n hx hb dL_law_841 rfl (lv_at hl 3 rfl) ?_
  refine lv_iconst (v := 2) hx hb dL_law_842 (by decide) ?_
  refine lv_iadd hx hb dL_law_843 ?_
  refine mv_eqi (x' := nI (i + 2)) (nI_add i 2) ?_
  refine va_sld hx hb hX hbl hbA hU (vp_in_nI (by omega) (by omega)) dL_law_844 ?_
  refine mv_eqi (x' := v2) hv2.symm ?_
  refine mv_callL (Y := mLC) (C := RX7) (k := 0) (i := 0) (rest := []) Cx hGC hHC hU hAU (c_X7_count l E A hOC C v1 v2) q_co_X7_count q_ml_L_123 q_im_X7_count q_se_X7_count q_in_X7 okC_0 rfl rfl hd_X7_count ⟨Nat.le_of_ble_eq_true rfl, Nat.le_of_ble_eq_true rfl⟩ rfl hl.1 rfl (Nat.le_of_ble_eq_true rfl) ⟨hca, hsl⟩ dL_law_845 (fun C' H1 hPC hhC hU hk => ?_)
  have hHM := hold_kp hOM hHM hk (fun q g a => hdis q a g)
  clear hHC hk
  refine W.eq (g2 := F0 m 848 ls [.int (((voO C v1 1).elim (-2) (fun i => if (acP C i v2 3).1 = 0 then (coN (acP C i v2 3).2 i &&& 2147483647).toInt32 else (acP C i v2 3).1)))]) rfl ?_
  generalize H1 = H at hhC hHM hU ⊢
  refine lv_aload_n hx hb dL_law_848 rfl (lv_at hl 2 rfl) ?_
  refine lv_aload_n hx hb dL_law_849 rfl (lv_at hl 0 rfl) ?_
  refine lv_iload_n hx hb dL_law_850 rfl (lv_at hl 3 rfl) ?_
  refine lv_iconst (v := 1) hx hb dL_law_851 (by decide) ?_
  refine lv_iadd hx hb dL_law_852 ?_
  refine mv_eqi (x' := nI (i + 1)) (nI_add i 1) ?_
  refine va_sld hx hb hX hbl hbA hU (vp_in_nI (by omega) (by omega)) dL_law_853 ?_
  refine mv_eqi (x' := v1) hv1.symm ?_
  refine lv_aload_n hx hb dL_law_854 rfl (lv_at hl 0 rfl) ?_
  refine lv_iload_n hx hb dL_law_855 rfl (lv_at hl 3 rfl) ?_
  refine lv_iconst (v := 2) hx hb dL_law_856 (by decide) ?_
  refine lv_iadd hx hb dL_law_857 ?_
  refine mv_eqi (x' := nI (i + 2)) (nI_add i 2) ?_
  refine va_sld hx hb hX hbl hbA hU (vp_in_nI (by omega) (by omega)) dL_law_858 ?_
  refine mv_eqi (x' := v2) hv2.symm ?_
  refine mv_callL (Y := mLM) (C := RX8) (k := 0) (i := 0) (rest := [.int (((voO C v1 1).elim (-2) (fun i => if (acP C i v2 3).1 = 0 then (coN (acP C i v2 3).2 i &&& 2147483647).toInt32 else (acP C i v2 3).1)))]) Cx hGM hHM hU hGU (c_X8_count l F G hOM M v1 v2) q_co_X8_count q_ml_L_126 q_im_X8_count q_se_X8_count q_in_X8 okM_0 rfl rfl hd_X8_count ⟨Nat.le_of_ble_eq_true rfl, Nat.le_of_ble_eq_true rfl⟩ rfl hl.1 rfl (Nat.le_of_ble_eq_true rfl) ⟨hca, hsl⟩ dL_law_859 (fun M' H1 hPM hhM hU hk => ?_)
  have hHC := hold_kp hOC hhC hk (fun q a => hdis q a)
  refine W.eq (g2 := F0 m 862 ls [.int (((mtO M v1 1).elim (-2) (fun i => if (mcP M i v2 3).1 = 0 then ((mcN (mcP M i v2 3).2 i) &&& 2147483647).toInt32 else (mcP M i v2 3).1))), .int (((voO C v1 1).elim (-2) (fun i => if (acP C i v2 3).1 = 0 then (coN (acP C i v2 3).2 i &&& 2147483647).toInt32 else (acP C i v2 3).1)))]) rfl ?_
  have hrl := rl_count v1 v2 hT h0 hN hPC hPM
  refine lv_icmp_eq (tgt := 1064) hx hb dL_law_862 (by decide) (fun hq => ?_) (fun hq => ?_)
  · exact K C' M' _ hrl.2 hHC hhM hU
  · exact absurd hrl.1 hq

set_option maxHeartbeats 4000000 in
set_option maxRecDepth 100000 in
theorem lw_c_chain {p : Program} {l : Launch} {e : Env} {s : State} {m : MethodId} {below : List Frame} {meth : Method} {c : Code} {Q : State → Prop} {b L : Nat} {xs : Nat → Int32} {E F : mEv} {A G : Nat → Prop} (B : lwB p s m c b L xs E F A G) {N i ca sl : Nat} {C M : mSt} {H : Heap} {ls : Array Slot} (hca : ca ≤ 600000) (hsl : sl ≤ 7302250) (hR : Rel N C M) (hN : N ≤ 1000) (hHC : mHold mLC E C H) (hHM : mHold mLM F M H) (hU : va_S (fun q : Nat => s.heap.size ≤ q) s.heap H []) (hl : lv_has ls 4 [(0, .ref b), (1, .ref (mAdC E 0 0)), (2, .ref (mAdM F 0 0)), (3, .int (nI i))]) (hi : i + 5 < L) (K : ∀ (C' M' : mSt) (H1 : Heap), Rel (N + 1) C' M' → mHold mLC E C' H1 → mHold mLM F M' H1 → va_S (fun q : Nat => s.heap.size ≤ q) s.heap H1 [] → W p l e room_1 s m #[Value.ref b] below meth c H1 [] ca sl Q (F0 m 1064 ls [])) : W p l e room_1 s m #[Value.ref b] below meth c H [] ca sl Q (F0 m 867 ls []) := by
  obtain ⟨Cx, hGC, hGM, hOC, hOM, hX, hbl, hAU, hGU, hdis, hL⟩ := B
  have hx := Cx.1
  have hb := Cx.2.1
  have hbA : ¬ (fun q : Nat => s.heap.size ≤ q) b := Nat.not_le.mpr hbl
  have hT := hR.1
  obtain ⟨⟨ts, htC, htM⟩, h0⟩ := hR
  obtain ⟨v1, hv1⟩ : ∃ v, v = xs (nI (i + 1)).toNatClampNeg := ⟨_, rfl⟩
  obtain ⟨v2, hv2⟩ : ∃ v, v = xs (nI (i + 2)).toNatClampNeg := ⟨_, rfl⟩
  refine lv_aload_n hx hb dL_law_867 rfl (lv_at hl 1 rfl) ?_
  refine lv_aload_n hx hb dL_law_868 rfl (lv_at hl 0 rfl) ?_
  refine lv_iload_n hx hb dL_law_869 rfl (lv_at hl 3 rfl) ?_
  refine lv_iconst (v := 1) hx hb dL_law_870 (by decide) ?_
  refine lv_iadd hx hb dL_law_871 ?_
  refine mv_eqi (x' := nI (i + 1)) (nI_add i 1) ?_
  refine va_sld hx hb hX hbl hbA hU (vp_in_nI (by omega) (by omega)) dL_law_872 ?_
  refine mv_eqi (x' := v1) hv1.symm ?_
  refine lv_aload_n hx hb dL_law_873 rfl (lv_at hl 0 rfl) ?_
  refine lv_iload_n hx hb dL_law_874 rfl (lv_at hl 3 rfl) ?_
  refine lv_iconst (v := 2) hx hb dL_law_875 (by decide) ?_
  refine lv_iadd hx hb dL_law_876 ?_
  refine mv_eqi (x' := nI (i + 2)) (nI_add i 2) ?_
  refine va_sld hx hb hX hbl hbA hU (vp_in_nI (by omega) (by omega)) dL_law_877 ?_
  refine mv_eqi (x' := v2) hv2.symm ?_
  refine mv_callL (Y := mLC) (C := RX7) (k := 0) (i := 0) (rest := []) Cx hGC hHC hU hAU (c_X7_chain l E A hOC C v1 v2 ts htC) q_co_X7_chain q_ml_L_127 q_im_X7_chain q_se_X7_chain q_in_X7 okC_0 rfl rfl hd_X7_chain ⟨Nat.le_of_ble_eq_true rfl, Nat.le_of_ble_eq_true rfl⟩ rfl hl.1 rfl (Nat.le_of_ble_eq_true rfl) ⟨hca, hsl⟩ dL_law_878 (fun C' H1 hPC hhC hU hk => ?_)
  have hHM := hold_kp hOM hHM hk (fun q g a => hdis q a g)
  clear hHC hk
  refine W.eq (g2 := F0 m 881 ls [.int (((voO C v1 2).elim (-2) (fun i => (acP C i v2 4).1)))]) rfl ?_
  generalize H1 = H at hhC hHM hU ⊢
  refine lv_aload_n hx hb dL_law_881 rfl (lv_at hl 2 rfl) ?_
  refine lv_aload_n hx hb dL_law_882 rfl (lv_at hl 0 rfl) ?_
  refine lv_iload_n hx hb dL_law_883 rfl (lv_at hl 3 rfl) ?_
  refine lv_iconst (v := 1) hx hb dL_law_884 (by decide) ?_
  refine lv_iadd hx hb dL_law_885 ?_
  refine mv_eqi (x' := nI (i + 1)) (nI_add i 1) ?_
  refine va_sld hx hb hX hbl hbA hU (vp_in_nI (by omega) (by omega)) dL_law_886 ?_
  refine mv_eqi (x' := v1) hv1.symm ?_
  refine lv_aload_n hx hb dL_law_887 rfl (lv_at hl 0 rfl) ?_
  refine lv_iload_n hx hb dL_law_888 rfl (lv_at hl 3 rfl) ?_
  refine lv_iconst (v := 2) hx hb dL_law_889 (by decide) ?_
  refine lv_iadd hx hb dL_law_890 ?_
  refine mv_eqi (x' := nI (i + 2)) (nI_add i 2) ?_
  refine va_sld hx hb hX hbl hbA hU (vp_in_nI (by omega) (by omega)) dL_law_891 ?_
  refine mv_eqi (x' := v2) hv2.symm ?_
  refine mv_callL (Y := mLM) (C := RX8) (k := 0) (i := 0) (rest := [.int (((voO C v1 2).elim (-2) (fun i => (acP C i v2 4).1)))]) Cx hGM hHM hU hGU (c_X8_chain l F G hOM M v1 v2 ts htM) q_co_X8_chain q_ml_L_130 q_im_X8_chain q_se_X8_chain q_in_X8 okM_0 rfl rfl hd_X8_chain ⟨Nat.le_of_ble_eq_true rfl, Nat.le_of_ble_eq_true rfl⟩ rfl hl.1 rfl (Nat.le_of_ble_eq_true rfl) ⟨hca, hsl⟩ dL_law_892 (fun M' H1 hPM hhM hU hk => ?_)
  have hHC := hold_kp hOC hhC hk (fun q a => hdis q a)
  refine W.eq (g2 := F0 m 895 ls [.int (((mtO (mM M 0 0 1 0) v1 2).elim (-2) (fun i => (mcP (mM M 0 0 1 0) i v2 4).1))), .int (((voO C v1 2).elim (-2) (fun i => (acP C i v2 4).1)))]) rfl ?_
  have hrl := rl_chain v1 v2 ts htC htM h0 hN hPC hPM
  refine lv_icmp_eq (tgt := 1064) hx hb dL_law_895 (by decide) (fun hq => ?_) (fun hq => ?_)
  · exact K C' M' _ hrl.2 hHC hhM hU
  · exact absurd hrl.1 hq

set_option maxHeartbeats 4000000 in
set_option maxRecDepth 100000 in
theorem lw_c_read {p : Program} {l : Launch} {e : Env} {s : State} {m : MethodId} {below : List Frame} {meth : Method} {c : Code} {Q : State → Prop} {b L : Nat} {xs : Nat → Int32} {E F : mEv} {A G : Nat → Prop} (B : lwB p s m c b L xs E F A G) {N i ca sl : Nat} {C M : mSt} {H : Heap} {ls : Array Slot} (hca : ca ≤ 600000) (hsl : sl ≤ 7302250) (hR : Rel N C M) (hN : N ≤ 1000) (hHC : mHold mLC E C H) (hHM : mHold mLM F M H) (hU : va_S (fun q : Nat => s.heap.size ≤ q) s.heap H []) (hl : lv_has ls 4 [(0, .ref b), (1, .ref (mAdC E 0 0)), (2, .ref (mAdM F 0 0)), (3, .int (nI i))]) (hi : i + 5 < L) (K : ∀ (C' M' : mSt) (H1 : Heap), Rel (N + 1) C' M' → mHold mLC E C' H1 → mHold mLM F M' H1 → va_S (fun q : Nat => s.heap.size ≤ q) s.heap H1 [] → W p l e room_1 s m #[Value.ref b] below meth c H1 [] ca sl Q (F0 m 1064 ls [])) : W p l e room_1 s m #[Value.ref b] below meth c H [] ca sl Q (F0 m 900 ls []) := by
  obtain ⟨Cx, hGC, hGM, hOC, hOM, hX, hbl, hAU, hGU, hdis, hL⟩ := B
  have hx := Cx.1
  have hb := Cx.2.1
  have hbA : ¬ (fun q : Nat => s.heap.size ≤ q) b := Nat.not_le.mpr hbl
  have hT := hR.1
  obtain ⟨⟨ts, htC, htM⟩, h0⟩ := hR
  obtain ⟨v1, hv1⟩ : ∃ v, v = xs (nI (i + 1)).toNatClampNeg := ⟨_, rfl⟩
  obtain ⟨v2, hv2⟩ : ∃ v, v = xs (nI (i + 2)).toNatClampNeg := ⟨_, rfl⟩
  refine lv_aload_n hx hb dL_law_900 rfl (lv_at hl 1 rfl) ?_
  refine lv_aload_n hx hb dL_law_901 rfl (lv_at hl 0 rfl) ?_
  refine lv_iload_n hx hb dL_law_902 rfl (lv_at hl 3 rfl) ?_
  refine lv_iconst (v := 1) hx hb dL_law_903 (by decide) ?_
  refine lv_iadd hx hb dL_law_904 ?_
  refine mv_eqi (x' := nI (i + 1)) (nI_add i 1) ?_
  refine va_sld hx hb hX hbl hbA hU (vp_in_nI (by omega) (by omega)) dL_law_905 ?_
  refine mv_eqi (x' := v1) hv1.symm ?_
  refine lv_aload_n hx hb dL_law_906 rfl (lv_at hl 0 rfl) ?_
  refine lv_iload_n hx hb dL_law_907 rfl (lv_at hl 3 rfl) ?_
  refine lv_iconst (v := 2) hx hb dL_law_908 (by decide) ?_
  refine lv_iadd hx hb dL_law_909 ?_
  refine mv_eqi (x' := nI (i + 2)) (nI_add i 2) ?_
  refine va_sld hx hb hX hbl hbA hU (vp_in_nI (by omega) (by omega)) dL_law_910 ?_
  refine mv_eqi (x' := v2) hv2.symm ?_
  refine mv_callL (Y := mLC) (C := RX7) (k := 0) (i := 0) (rest := []) Cx hGC hHC hU hAU (c_X7_read l E A hOC C v1 v2 (p_dvC h0 v1)) q_co_X7_read q_ml_L_131 q_im_X7_read q_se_X7_read q_in_X7 okC_0 rfl rfl hd_X7_read ⟨Nat.le_of_ble_eq_true rfl, Nat.le_of_ble_eq_true rfl⟩ rfl hl.1 rfl (Nat.le_of_ble_eq_true rfl) ⟨hca, hsl⟩ dL_law_911 (fun C' H1 hPC hhC hU hk => ?_)
  have hHM := hold_kp hOM hHM hk (fun q g a => hdis q a g)
  clear hHC hk
  refine W.eq (g2 := F0 m 914 ls [.int (((vaO C v1).elim (-2) (fun i => if C.1 26 i 2 = 0 then -3 else if (askP C (4 + i) v2 5).1 = 0 then C.1 2 (3 + (4 + i)) 1 else (askP C (4 + i) v2 5).1)))]) rfl ?_
  generalize H1 = H at hhC hHM hU ⊢
  refine lv_aload_n hx hb dL_law_914 rfl (lv_at hl 2 rfl) ?_
  refine lv_aload_n hx hb dL_law_915 rfl (lv_at hl 0 rfl) ?_
  refine lv_iload_n hx hb dL_law_916 rfl (lv_at hl 3 rfl) ?_
  refine lv_iconst (v := 1) hx hb dL_law_917 (by decide) ?_
  refine lv_iadd hx hb dL_law_918 ?_
  refine mv_eqi (x' := nI (i + 1)) (nI_add i 1) ?_
  refine va_sld hx hb hX hbl hbA hU (vp_in_nI (by omega) (by omega)) dL_law_919 ?_
  refine mv_eqi (x' := v1) hv1.symm ?_
  refine lv_aload_n hx hb dL_law_920 rfl (lv_at hl 0 rfl) ?_
  refine lv_iload_n hx hb dL_law_921 rfl (lv_at hl 3 rfl) ?_
  refine lv_iconst (v := 2) hx hb dL_law_922 (by decide) ?_
  refine lv_iadd hx hb dL_law_923 ?_
  refine mv_eqi (x' := nI (i + 2)) (nI_add i 2) ?_
  refine va_sld hx hb hX hbl hbA hU (vp_in_nI (by omega) (by omega)) dL_law_924 ?_
  refine mv_eqi (x' := v2) hv2.symm ?_
  refine mv_callL (Y := mLM) (C := RX8) (k := 0) (i := 0) (rest := [.int (((vaO C v1).elim (-2) (fun i => if C.1 26 i 2 = 0 then -3 else if (askP C (4 + i) v2 5).1 = 0 then C.1 2 (3 + (4 + i)) 1 else (askP C (4 + i) v2 5).1)))]) Cx hGM hHM hU hGU (c_X8_read l F G hOM M v1 v2 (p_dvM h0 v1 (-1))) q_co_X8_read q_ml_L_134 q_im_X8_read q_se_X8_read q_in_X8 okM_0 rfl rfl hd_X8_read ⟨Nat.le_of_ble_eq_true rfl, Nat.le_of_ble_eq_true rfl⟩ rfl hl.1 rfl (Nat.le_of_ble_eq_true rfl) ⟨hca, hsl⟩ dL_law_925 (fun M' H1 hPM hhM hU hk => ?_)
  have hHC := hold_kp hOC hhC hk (fun q a => hdis q a)
  refine W.eq (g2 := F0 m 928 ls [.int (((mtO M v1 (-1)).elim (-2) (fun i => if M.1 36 0 (4 + i) = 0 then -3 else if (mbP M (4 + i) v2 5).1 = 0 then M.1 34 0 (4 + i) else (mbP M (4 + i) v2 5).1))), .int (((vaO C v1).elim (-2) (fun i => if C.1 26 i 2 = 0 then -3 else if (askP C (4 + i) v2 5).1 = 0 then C.1 2 (3 + (4 + i)) 1 else (askP C (4 + i) v2 5).1)))]) rfl ?_
  have hrl := rl_read v1 v2 hT h0 hN hPC hPM
  refine lv_icmp_eq (tgt := 1064) hx hb dL_law_928 (by decide) (fun hq => ?_) (fun hq => ?_)
  · exact K C' M' _ hrl.2 hHC hhM hU
  · exact absurd hrl.1 hq

set_option maxHeartbeats 4000000 in
set_option maxRecDepth 100000 in
theorem lw_c_shut {p : Program} {l : Launch} {e : Env} {s : State} {m : MethodId} {below : List Frame} {meth : Method} {c : Code} {Q : State → Prop} {b L : Nat} {xs : Nat → Int32} {E F : mEv} {A G : Nat → Prop} (B : lwB p s m c b L xs E F A G) {N i ca sl : Nat} {C M : mSt} {H : Heap} {ls : Array Slot} (hca : ca ≤ 600000) (hsl : sl ≤ 7302250) (hR : Rel N C M) (hN : N ≤ 1000) (hHC : mHold mLC E C H) (hHM : mHold mLM F M H) (hU : va_S (fun q : Nat => s.heap.size ≤ q) s.heap H []) (hl : lv_has ls 4 [(0, .ref b), (1, .ref (mAdC E 0 0)), (2, .ref (mAdM F 0 0)), (3, .int (nI i))]) (hi : i + 5 < L) (K : ∀ (C' M' : mSt) (H1 : Heap), Rel (N + 1) C' M' → mHold mLC E C' H1 → mHold mLM F M' H1 → va_S (fun q : Nat => s.heap.size ≤ q) s.heap H1 [] → W p l e room_1 s m #[Value.ref b] below meth c H1 [] ca sl Q (F0 m 1064 ls [])) : W p l e room_1 s m #[Value.ref b] below meth c H [] ca sl Q (F0 m 933 ls []) := by
  obtain ⟨Cx, hGC, hGM, hOC, hOM, hX, hbl, hAU, hGU, hdis, hL⟩ := B
  have hx := Cx.1
  have hb := Cx.2.1
  have hbA : ¬ (fun q : Nat => s.heap.size ≤ q) b := Nat.not_le.mpr hbl
  have hT := hR.1
  obtain ⟨⟨ts, htC, htM⟩, h0⟩ := hR
  obtain ⟨v1, hv1⟩ : ∃ v, v = xs (nI (i + 1)).toNatClampNeg := ⟨_, rfl⟩
  obtain ⟨v2, hv2⟩ : ∃ v, v = xs (nI (i + 2)).toNatClampNeg := ⟨_, rfl⟩
  refine lv_aload_n hx hb dL_law_933 rfl (lv_at hl 1 rfl) ?_
  refine lv_aload_n hx hb dL_law_934 rfl (lv_at hl 0 rfl) ?_
  refine lv_iload_n hx hb dL_law_935 rfl (lv_at hl 3 rfl) ?_
  refine lv_iconst (v := 1) hx hb dL_law_936 (by decide) ?_
  refine lv_iadd hx hb dL_law_937 ?_
  refine mv_eqi (x' := nI (i + 1)) (nI_add i 1) ?_
  refine va_sld hx hb hX hbl hbA hU (vp_in_nI (by omega) (by omega)) dL_law_938 ?_
  refine mv_eqi (x' := v1) hv1.symm ?_
  refine lv_aload_n hx hb dL_law_939 rfl (lv_at hl 0 rfl) ?_
  refine lv_iload_n hx hb dL_law_940 rfl (lv_at hl 3 rfl) ?_
  refine lv_iconst (v := 2) hx hb dL_law_941 (by decide) ?_
  refine lv_iadd hx hb dL_law_942 ?_
  refine mv_eqi (x' := nI (i + 2)) (nI_add i 2) ?_
  refine va_sld hx hb hX hbl hbA hU (vp_in_nI (by omega) (by omega)) dL_law_943 ?_
  refine mv_eqi (x' := v2) hv2.symm ?_
  refine mv_callL (Y := mLC) (C := RX7) (k := 0) (i := 0) (rest := []) Cx hGC hHC hU hAU (c_X7_shut l E A hOC C v1 v2) q_co_X7_shut q_ml_L_135 q_im_X7_shut q_se_X7_shut q_in_X7 okC_0 rfl rfl hd_X7_shut ⟨Nat.le_of_ble_eq_true rfl, Nat.le_of_ble_eq_true rfl⟩ rfl hl.1 rfl (Nat.le_of_ble_eq_true rfl) ⟨hca, hsl⟩ dL_law_944 (fun C' H1 hPC hhC hU hk => ?_)
  have hHM := hold_kp hOM hHM hk (fun q g a => hdis q a g)
  clear hHC hk
  refine W.eq (g2 := F0 m 947 ls [.int (((vaO C v1).elim (-2) (fun i => (askP C (4 + i) v2 6).1)))]) rfl ?_
  generalize H1 = H at hhC hHM hU ⊢
  refine lv_aload_n hx hb dL_law_947 rfl (lv_at hl 2 rfl) ?_
  refine lv_aload_n hx hb dL_law_948 rfl (lv_at hl 0 rfl) ?_
  refine lv_iload_n hx hb dL_law_949 rfl (lv_at hl 3 rfl) ?_
  refine lv_iconst (v := 1) hx hb dL_law_950 (by decide) ?_
  refine lv_iadd hx hb dL_law_951 ?_
  refine mv_eqi (x' := nI (i + 1)) (nI_add i 1) ?_
  refine va_sld hx hb hX hbl hbA hU (vp_in_nI (by omega) (by omega)) dL_law_952 ?_
  refine mv_eqi (x' := v1) hv1.symm ?_
  refine lv_aload_n hx hb dL_law_953 rfl (lv_at hl 0 rfl) ?_
  refine lv_iload_n hx hb dL_law_954 rfl (lv_at hl 3 rfl) ?_
  refine lv_iconst (v := 2) hx hb dL_law_955 (by decide) ?_
  refine lv_iadd hx hb dL_law_956 ?_
  refine mv_eqi (x' := nI (i + 2)) (nI_add i 2) ?_
  refine va_sld hx hb hX hbl hbA hU (vp_in_nI (by omega) (by omega)) dL_law_957 ?_
  refine mv_eqi (x' := v2) hv2.symm ?_
  refine mv_callL (Y := mLM) (C := RX8) (k := 0) (i := 0) (rest := [.int (((vaO C v1).elim (-2) (fun i => (askP C (4 + i) v2 6).1)))]) Cx hGM hHM hU hGU (c_X8_shut l F G hOM M v1 v2) q_co_X8_shut q_ml_L_138 q_im_X8_shut q_se_X8_shut q_in_X8 okM_0 rfl rfl hd_X8_shut ⟨Nat.le_of_ble_eq_true rfl, Nat.le_of_ble_eq_true rfl⟩ rfl hl.1 rfl (Nat.le_of_ble_eq_true rfl) ⟨hca, hsl⟩ dL_law_958 (fun M' H1 hPM hhM hU hk => ?_)
  have hHC := hold_kp hOC hhC hk (fun q a => hdis q a)
  refine W.eq (g2 := F0 m 961 ls [.int (((mtO M v1 (-1)).elim (-2) (fun i => (mbP M (4 + i) v2 6).1))), .int (((vaO C v1).elim (-2) (fun i => (askP C (4 + i) v2 6).1)))]) rfl ?_
  have hrl := rl_shut v1 v2 hT h0 hN hPC hPM
  refine lv_icmp_eq (tgt := 1064) hx hb dL_law_961 (by decide) (fun hq => ?_) (fun hq => ?_)
  · exact K C' M' _ hrl.2 hHC hhM hU
  · exact absurd hrl.1 hq

set_option maxHeartbeats 4000000 in
set_option maxRecDepth 100000 in
theorem lw_c_own {p : Program} {l : Launch} {e : Env} {s : State} {m : MethodId} {below : List Frame} {meth : Method} {c : Code} {Q : State → Prop} {b L : Nat} {xs : Nat → Int32} {E F : mEv} {A G : Nat → Prop} (B : lwB p s m c b L xs E F A G) {N i ca sl : Nat} {C M : mSt} {H : Heap} {ls : Array Slot} (hca : ca ≤ 600000) (hsl : sl ≤ 7302250) (hR : Rel N C M) (hN : N ≤ 1000) (hHC : mHold mLC E C H) (hHM : mHold mLM F M H) (hU : va_S (fun q : Nat => s.heap.size ≤ q) s.heap H []) (hl : lv_has ls 4 [(0, .ref b), (1, .ref (mAdC E 0 0)), (2, .ref (mAdM F 0 0)), (3, .int (nI i))]) (hi : i + 5 < L) (K : ∀ (C' M' : mSt) (H1 : Heap), Rel (N + 1) C' M' → mHold mLC E C' H1 → mHold mLM F M' H1 → va_S (fun q : Nat => s.heap.size ≤ q) s.heap H1 [] → W p l e room_1 s m #[Value.ref b] below meth c H1 [] ca sl Q (F0 m 1064 ls [])) : W p l e room_1 s m #[Value.ref b] below meth c H [] ca sl Q (F0 m 966 ls []) := by
  obtain ⟨Cx, hGC, hGM, hOC, hOM, hX, hbl, hAU, hGU, hdis, hL⟩ := B
  have hx := Cx.1
  have hb := Cx.2.1
  have hbA : ¬ (fun q : Nat => s.heap.size ≤ q) b := Nat.not_le.mpr hbl
  have hT := hR.1
  obtain ⟨⟨ts, htC, htM⟩, h0⟩ := hR
  refine lv_aload_n hx hb dL_law_966 rfl (lv_at hl 1 rfl) ?_
  refine mv_callL (Y := mLC) (C := RX7) (k := 0) (i := 0) (rest := []) Cx hGC hHC hU hAU (c_X7_own l E A hOC C ts htC) q_co_X7_own q_ml_L_139 q_im_X7_own q_se_X7_own q_in_X7 okC_0 rfl rfl hd_X7_own ⟨Nat.le_of_ble_eq_true rfl, Nat.le_of_ble_eq_true rfl⟩ rfl hl.1 rfl (Nat.le_of_ble_eq_true rfl) ⟨hca, hsl⟩ dL_law_967 (fun C' H1 hPC hhC hU hk => ?_)
  have hHM := hold_kp hOM hHM hk (fun q g a => hdis q a g)
  clear hHC hk
  refine W.eq (g2 := F0 m 970 ls [.int ((akR C (C.2.1 12 0)))]) rfl ?_
  generalize H1 = H at hhC hHM hU ⊢
  refine lv_aload_n hx hb dL_law_970 rfl (lv_at hl 2 rfl) ?_
  refine mv_callL (Y := mLM) (C := RX8) (k := 0) (i := 0) (rest := [.int ((akR C (C.2.1 12 0)))]) Cx hGM hHM hU hGU (c_X8_own l F G hOM M ts htM) q_co_X8_own q_ml_L_142 q_im_X8_own q_se_X8_own q_in_X8 okM_0 rfl rfl hd_X8_own ⟨Nat.le_of_ble_eq_true rfl, Nat.le_of_ble_eq_true rfl⟩ rfl hl.1 rfl (Nat.le_of_ble_eq_true rfl) ⟨hca, hsl⟩ dL_law_971 (fun M' H1 hPM hhM hU hk => ?_)
  have hHC := hold_kp hOC hhC hk (fun q a => hdis q a)
  refine W.eq (g2 := F0 m 974 ls [.int ((mkR (mM M 0 0 1 0) (M.2.1 15 0) 0)), .int ((akR C (C.2.1 12 0)))]) rfl ?_
  have hrl := rl_own ts h0 hN hPC hPM
  refine lv_icmp_eq (tgt := 1064) hx hb dL_law_974 (by decide) (fun hq => ?_) (fun hq => ?_)
  · exact K C' M' _ hrl.2 hHC hhM hU
  · exact absurd hrl.1 hq

set_option maxHeartbeats 4000000 in
set_option maxRecDepth 100000 in
theorem lw_c_unlock {p : Program} {l : Launch} {e : Env} {s : State} {m : MethodId} {below : List Frame} {meth : Method} {c : Code} {Q : State → Prop} {b L : Nat} {xs : Nat → Int32} {E F : mEv} {A G : Nat → Prop} (B : lwB p s m c b L xs E F A G) {N i ca sl : Nat} {C M : mSt} {H : Heap} {ls : Array Slot} (hca : ca ≤ 600000) (hsl : sl ≤ 7302250) (hR : Rel N C M) (hN : N ≤ 1000) (hHC : mHold mLC E C H) (hHM : mHold mLM F M H) (hU : va_S (fun q : Nat => s.heap.size ≤ q) s.heap H []) (hl : lv_has ls 4 [(0, .ref b), (1, .ref (mAdC E 0 0)), (2, .ref (mAdM F 0 0)), (3, .int (nI i))]) (hi : i + 5 < L) (K : ∀ (C' M' : mSt) (H1 : Heap), Rel (N + 1) C' M' → mHold mLC E C' H1 → mHold mLM F M' H1 → va_S (fun q : Nat => s.heap.size ≤ q) s.heap H1 [] → W p l e room_1 s m #[Value.ref b] below meth c H1 [] ca sl Q (F0 m 1064 ls [])) : W p l e room_1 s m #[Value.ref b] below meth c H [] ca sl Q (F0 m 979 ls []) := by
  obtain ⟨Cx, hGC, hGM, hOC, hOM, hX, hbl, hAU, hGU, hdis, hL⟩ := B
  have hx := Cx.1
  have hb := Cx.2.1
  have hbA : ¬ (fun q : Nat => s.heap.size ≤ q) b := Nat.not_le.mpr hbl
  have hT := hR.1
  obtain ⟨⟨ts, htC, htM⟩, h0⟩ := hR
  refine lv_aload_n hx hb dL_law_979 rfl (lv_at hl 1 rfl) ?_
  refine mv_callL (Y := mLC) (C := RX7) (k := 0) (i := 0) (rest := []) Cx hGC hHC hU hAU (c_X7_unlock l E A hOC C) q_co_X7_unlock q_ml_L_143 q_im_X7_unlock q_se_X7_unlock q_in_X7 okC_0 rfl rfl hd_X7_unlock ⟨Nat.le_of_ble_eq_true rfl, Nat.le_of_ble_eq_true rfl⟩ rfl hl.1 rfl (Nat.le_of_ble_eq_true rfl) ⟨hca, hsl⟩ dL_law_980 (fun C' H1 hPC hhC hU hk => ?_)
  have hHM := hold_kp hOM hHM hk (fun q g a => hdis q a g)
  clear hHC hk
  refine W.eq (g2 := F0 m 983 ls [.int ((if mEq (C.2.1 11 0) (C.2.1 12 0) 0 = true then 0 else -4))]) rfl ?_
  generalize H1 = H at hhC hHM hU ⊢
  refine lv_aload_n hx hb dL_law_983 rfl (lv_at hl 2 rfl) ?_
  refine mv_callL (Y := mLM) (C := RX8) (k := 0) (i := 0) (rest := [.int ((if mEq (C.2.1 11 0) (C.2.1 12 0) 0 = true then 0 else -4))]) Cx hGM hHM hU hGU (c_X8_unlock l F G hOM M) q_co_X8_unlock q_ml_L_146 q_im_X8_unlock q_se_X8_unlock q_in_X8 okM_0 rfl rfl hd_X8_unlock ⟨Nat.le_of_ble_eq_true rfl, Nat.le_of_ble_eq_true rfl⟩ rfl hl.1 rfl (Nat.le_of_ble_eq_true rfl) ⟨hca, hsl⟩ dL_law_984 (fun M' H1 hPM hhM hU hk => ?_)
  have hHC := hold_kp hOC hhC hk (fun q a => hdis q a)
  refine W.eq (g2 := F0 m 987 ls [.int ((if mEq (M.2.1 14 0) (M.2.1 15 0) 0 = true then 0 else -4)), .int ((if mEq (C.2.1 11 0) (C.2.1 12 0) 0 = true then 0 else -4))]) rfl ?_
  have hrl := rl_unlock hT h0 hN hPC hPM
  refine lv_icmp_eq (tgt := 1064) hx hb dL_law_987 (by decide) (fun hq => ?_) (fun hq => ?_)
  · exact K C' M' _ hrl.2 hHC hhM hU
  · exact absurd hrl.1 hq

set_option maxHeartbeats 4000000 in
set_option maxRecDepth 100000 in
theorem lw_c_clear {p : Program} {l : Launch} {e : Env} {s : State} {m : MethodId} {below : List Frame} {meth : Method} {c : Code} {Q : State → Prop} {b L : Nat} {xs : Nat → Int32} {E F : mEv} {A G : Nat → Prop} (B : lwB p s m c b L xs E F A G) {N i ca sl : Nat} {C M : mSt} {H : Heap} {ls : Array Slot} (hca : ca ≤ 600000) (hsl : sl ≤ 7302250) (hR : Rel N C M) (hN : N ≤ 1000) (hHC : mHold mLC E C H) (hHM : mHold mLM F M H) (hU : va_S (fun q : Nat => s.heap.size ≤ q) s.heap H []) (hl : lv_has ls 4 [(0, .ref b), (1, .ref (mAdC E 0 0)), (2, .ref (mAdM F 0 0)), (3, .int (nI i))]) (hi : i + 5 < L) (K : ∀ (C' M' : mSt) (H1 : Heap), Rel (N + 1) C' M' → mHold mLC E C' H1 → mHold mLM F M' H1 → va_S (fun q : Nat => s.heap.size ≤ q) s.heap H1 [] → W p l e room_1 s m #[Value.ref b] below meth c H1 [] ca sl Q (F0 m 1064 ls [])) : W p l e room_1 s m #[Value.ref b] below meth c H [] ca sl Q (F0 m 992 ls []) := by
  obtain ⟨Cx, hGC, hGM, hOC, hOM, hX, hbl, hAU, hGU, hdis, hL⟩ := B
  have hx := Cx.1
  have hb := Cx.2.1
  have hbA : ¬ (fun q : Nat => s.heap.size ≤ q) b := Nat.not_le.mpr hbl
  have hT := hR.1
  obtain ⟨⟨ts, htC, htM⟩, h0⟩ := hR
  refine lv_aload_n hx hb dL_law_992 rfl (lv_at hl 1 rfl) ?_
  refine mv_callL (Y := mLC) (C := RX7) (k := 0) (i := 0) (rest := []) Cx hGC hHC hU hAU (c_X7_clear l E A hOC C) q_co_X7_clear q_ml_L_147 q_im_X7_clear q_se_X7_clear q_in_X7 okC_0 rfl rfl hd_X7_clear ⟨Nat.le_of_ble_eq_true rfl, Nat.le_of_ble_eq_true rfl⟩ rfl hl.1 rfl (Nat.le_of_ble_eq_true rfl) ⟨hca, hsl⟩ dL_law_993 (fun C' H1 hPC hhC hU hk => ?_)
  have hHM := hold_kp hOM hHM hk (fun q g a => hdis q a g)
  clear hHC hk
  refine W.eq (g2 := F0 m 996 ls [.int ((akR C (C.2.1 12 0)))]) rfl ?_
  generalize H1 = H at hhC hHM hU ⊢
  refine lv_aload_n hx hb dL_law_996 rfl (lv_at hl 2 rfl) ?_
  refine mv_callL (Y := mLM) (C := RX8) (k := 0) (i := 0) (rest := [.int ((akR C (C.2.1 12 0)))]) Cx hGM hHM hU hGU (c_X8_clear l F G hOM M) q_co_X8_clear q_ml_L_150 q_im_X8_clear q_se_X8_clear q_in_X8 okM_0 rfl rfl hd_X8_clear ⟨Nat.le_of_ble_eq_true rfl, Nat.le_of_ble_eq_true rfl⟩ rfl hl.1 rfl (Nat.le_of_ble_eq_true rfl) ⟨hca, hsl⟩ dL_law_997 (fun M' H1 hPM hhM hU hk => ?_)
  have hHC := hold_kp hOC hhC hk (fun q a => hdis q a)
  refine W.eq (g2 := F0 m 1000 ls [.int ((mkR M (M.2.1 15 0) 0)), .int ((akR C (C.2.1 12 0)))]) rfl ?_
  have hrl := rl_clear hT h0 hN hPC hPM
  refine lv_icmp_eq (tgt := 1064) hx hb dL_law_1000 (by decide) (fun hq => ?_) (fun hq => ?_)
  · exact K C' M' _ hrl.2 hHC hhM hU
  · exact absurd hrl.1 hq

set_option maxHeartbeats 4000000 in
set_option maxRecDepth 100000 in
theorem lw_c_tick {p : Program} {l : Launch} {e : Env} {s : State} {m : MethodId} {below : List Frame} {meth : Method} {c : Code} {Q : State → Prop} {b L : Nat} {xs : Nat → Int32} {E F : mEv} {A G : Nat → Prop} (B : lwB p s m c b L xs E F A G) {N i ca sl : Nat} {C M : mSt} {H : Heap} {ls : Array Slot} (hca : ca ≤ 600000) (hsl : sl ≤ 7302250) (hR : Rel N C M) (hN : N ≤ 1000) (hHC : mHold mLC E C H) (hHM : mHold mLM F M H) (hU : va_S (fun q : Nat => s.heap.size ≤ q) s.heap H []) (hl : lv_has ls 4 [(0, .ref b), (1, .ref (mAdC E 0 0)), (2, .ref (mAdM F 0 0)), (3, .int (nI i))]) (hi : i + 5 < L) (K : ∀ (C' M' : mSt) (H1 : Heap), Rel (N + 1) C' M' → mHold mLC E C' H1 → mHold mLM F M' H1 → va_S (fun q : Nat => s.heap.size ≤ q) s.heap H1 [] → W p l e room_1 s m #[Value.ref b] below meth c H1 [] ca sl Q (F0 m 1064 ls [])) : W p l e room_1 s m #[Value.ref b] below meth c H [] ca sl Q (F0 m 1005 ls []) := by
  obtain ⟨Cx, hGC, hGM, hOC, hOM, hX, hbl, hAU, hGU, hdis, hL⟩ := B
  have hx := Cx.1
  have hb := Cx.2.1
  have hbA : ¬ (fun q : Nat => s.heap.size ≤ q) b := Nat.not_le.mpr hbl
  have hT := hR.1
  obtain ⟨⟨ts, htC, htM⟩, h0⟩ := hR
  obtain ⟨v1, hv1⟩ : ∃ v, v = xs (nI (i + 1)).toNatClampNeg := ⟨_, rfl⟩
  refine lv_aload_n hx hb dL_law_1005 rfl (lv_at hl 1 rfl) ?_
  refine lv_aload_n hx hb dL_law_1006 rfl (lv_at hl 0 rfl) ?_
  refine lv_iload_n hx hb dL_law_1007 rfl (lv_at hl 3 rfl) ?_
  refine lv_iconst (v := 1) hx hb dL_law_1008 (by decide) ?_
  refine lv_iadd hx hb dL_law_1009 ?_
  refine mv_eqi (x' := nI (i + 1)) (nI_add i 1) ?_
  refine va_sld hx hb hX hbl hbA hU (vp_in_nI (by omega) (by omega)) dL_law_1010 ?_
  refine mv_eqi (x' := v1) hv1.symm ?_
  refine mv_callL (Y := mLC) (C := RX7) (k := 0) (i := 0) (rest := []) Cx hGC hHC hU hAU (c_X7_tick l E A hOC C v1) q_co_X7_tick q_ml_L_151 q_im_X7_tick q_se_X7_tick q_in_X7 okC_0 rfl rfl hd_X7_tick ⟨Nat.le_of_ble_eq_true rfl, Nat.le_of_ble_eq_true rfl⟩ rfl hl.1 rfl (Nat.le_of_ble_eq_true rfl) ⟨hca, hsl⟩ dL_law_1011 (fun C' H1 hPC hhC hU hk => ?_)
  have hHM := hold_kp hOM hHM hk (fun q g a => hdis q a g)
  clear hHC hk
  refine W.eq (g2 := F0 m 1014 ls [.int ((if (¬ v1 < 0 ∧ ¬ 100000 < v1 ∧ v1 ≤ 2000000000 - C.1 0 0 13) then C.1 0 0 13 + v1 else -1))]) rfl ?_
  generalize H1 = H at hhC hHM hU ⊢
  refine lv_aload_n hx hb dL_law_1014 rfl (lv_at hl 2 rfl) ?_
  refine lv_aload_n hx hb dL_law_1015 rfl (lv_at hl 0 rfl) ?_
  refine lv_iload_n hx hb dL_law_1016 rfl (lv_at hl 3 rfl) ?_
  refine lv_iconst (v := 1) hx hb dL_law_1017 (by decide) ?_
  refine lv_iadd hx hb dL_law_1018 ?_
  refine mv_eqi (x' := nI (i + 1)) (nI_add i 1) ?_
  refine va_sld hx hb hX hbl hbA hU (vp_in_nI (by omega) (by omega)) dL_law_1019 ?_
  refine mv_eqi (x' := v1) hv1.symm ?_
  refine mv_callL (Y := mLM) (C := RX8) (k := 0) (i := 0) (rest := [.int ((if (¬ v1 < 0 ∧ ¬ 100000 < v1 ∧ v1 ≤ 2000000000 - C.1 0 0 13) then C.1 0 0 13 + v1 else -1))]) Cx hGM hHM hU hGU (c_X8_tick l F G hOM M v1) q_co_X8_tick q_ml_L_154 q_im_X8_tick q_se_X8_tick q_in_X8 okM_0 rfl rfl hd_X8_tick ⟨Nat.le_of_ble_eq_true rfl, Nat.le_of_ble_eq_true rfl⟩ rfl hl.1 rfl (Nat.le_of_ble_eq_true rfl) ⟨hca, hsl⟩ dL_law_1020 (fun M' H1 hPM hhM hU hk => ?_)
  have hHC := hold_kp hOC hhC hk (fun q a => hdis q a)
  refine W.eq (g2 := F0 m 1023 ls [.int ((if (¬ v1 < 0 ∧ ¬ 100000 < v1 ∧ M.1 0 0 16 ≤ 2000000000 - v1) then M.1 0 0 16 + v1 else -1)), .int ((if (¬ v1 < 0 ∧ ¬ 100000 < v1 ∧ v1 ≤ 2000000000 - C.1 0 0 13) then C.1 0 0 13 + v1 else -1))]) rfl ?_
  have hrl := rl_tick v1 hT h0 hN hPC hPM
  refine lv_icmp_eq (tgt := 1064) hx hb dL_law_1023 (by decide) (fun hq => ?_) (fun hq => ?_)
  · exact K C' M' _ hrl.2 hHC hhM hU
  · exact absurd hrl.1 hq

set_option maxHeartbeats 4000000 in
set_option maxRecDepth 100000 in
theorem lw_c_restart {p : Program} {l : Launch} {e : Env} {s : State} {m : MethodId} {below : List Frame} {meth : Method} {c : Code} {Q : State → Prop} {b L : Nat} {xs : Nat → Int32} {E F : mEv} {A G : Nat → Prop} (B : lwB p s m c b L xs E F A G) {N i ca sl : Nat} {C M : mSt} {H : Heap} {ls : Array Slot} (hca : ca ≤ 600000) (hsl : sl ≤ 7302250) (hR : Rel N C M) (hN : N ≤ 1000) (hHC : mHold mLC E C H) (hHM : mHold mLM F M H) (hU : va_S (fun q : Nat => s.heap.size ≤ q) s.heap H []) (hl : lv_has ls 4 [(0, .ref b), (1, .ref (mAdC E 0 0)), (2, .ref (mAdM F 0 0)), (3, .int (nI i))]) (hi : i + 5 < L) (K : ∀ (C' M' : mSt) (H1 : Heap), Rel (N + 1) C' M' → mHold mLC E C' H1 → mHold mLM F M' H1 → va_S (fun q : Nat => s.heap.size ≤ q) s.heap H1 [] → W p l e room_1 s m #[Value.ref b] below meth c H1 [] ca sl Q (F0 m 1064 ls [])) : W p l e room_1 s m #[Value.ref b] below meth c H [] ca sl Q (F0 m 1028 ls []) := by
  obtain ⟨Cx, hGC, hGM, hOC, hOM, hX, hbl, hAU, hGU, hdis, hL⟩ := B
  have hx := Cx.1
  have hb := Cx.2.1
  have hbA : ¬ (fun q : Nat => s.heap.size ≤ q) b := Nat.not_le.mpr hbl
  have hT := hR.1
  obtain ⟨⟨ts, htC, htM⟩, h0⟩ := hR
  refine lv_aload_n hx hb dL_law_1028 rfl (lv_at hl 1 rfl) ?_
  refine mv_callL (Y := mLC) (C := RX7) (k := 0) (i := 0) (rest := []) Cx hGC hHC hU hAU (c_X7_restart l E A hOC C) q_co_X7_restart q_ml_L_155 q_im_X7_restart q_se_X7_restart q_in_X7 okC_0 rfl rfl hd_X7_restart ⟨Nat.le_of_ble_eq_true rfl, Nat.le_of_ble_eq_true rfl⟩ rfl hl.1 rfl (Nat.le_of_ble_eq_true rfl) ⟨hca, hsl⟩ dL_law_1029 (fun C' H1 hPC hhC hU hk => ?_)
  have hHM := hold_kp hOM hHM hk (fun q g a => hdis q a g)
  clear hHC hk
  refine W.eq (g2 := F0 m 1032 ls [.int ((C.1 0 0 14 + 1))]) rfl ?_
  generalize H1 = H at hhC hHM hU ⊢
  refine lv_aload_n hx hb dL_law_1032 rfl (lv_at hl 2 rfl) ?_
  refine mv_callL (Y := mLM) (C := RX8) (k := 0) (i := 0) (rest := [.int ((C.1 0 0 14 + 1))]) Cx hGM hHM hU hGU (c_X8_restart l F G hOM M) q_co_X8_restart q_ml_L_158 q_im_X8_restart q_se_X8_restart q_in_X8 okM_0 rfl rfl hd_X8_restart ⟨Nat.le_of_ble_eq_true rfl, Nat.le_of_ble_eq_true rfl⟩ rfl hl.1 rfl (Nat.le_of_ble_eq_true rfl) ⟨hca, hsl⟩ dL_law_1033 (fun M' H1 hPM hhM hU hk => ?_)
  have hHC := hold_kp hOC hhC hk (fun q a => hdis q a)
  refine W.eq (g2 := F0 m 1036 ls [.int ((M.1 0 0 17 + 1)), .int ((C.1 0 0 14 + 1))]) rfl ?_
  have hrl := rl_restart hT h0 hN hPC hPM
  refine lv_icmp_eq (tgt := 1064) hx hb dL_law_1036 (by decide) (fun hq => ?_) (fun hq => ?_)
  · exact K C' M' _ hrl.2 hHC hhM hU
  · exact absurd hrl.1 hq

set_option maxHeartbeats 4000000 in
set_option maxRecDepth 100000 in
theorem lw_c_look {p : Program} {l : Launch} {e : Env} {s : State} {m : MethodId} {below : List Frame} {meth : Method} {c : Code} {Q : State → Prop} {b L : Nat} {xs : Nat → Int32} {E F : mEv} {A G : Nat → Prop} (B : lwB p s m c b L xs E F A G) {N i ca sl : Nat} {C M : mSt} {H : Heap} {ls : Array Slot} (hca : ca ≤ 600000) (hsl : sl ≤ 7302250) (hR : Rel N C M) (hN : N ≤ 1000) (hHC : mHold mLC E C H) (hHM : mHold mLM F M H) (hU : va_S (fun q : Nat => s.heap.size ≤ q) s.heap H []) (hl : lv_has ls 4 [(0, .ref b), (1, .ref (mAdC E 0 0)), (2, .ref (mAdM F 0 0)), (3, .int (nI i))]) (hi : i + 5 < L) (K : ∀ (C' M' : mSt) (H1 : Heap), Rel (N + 1) C' M' → mHold mLC E C' H1 → mHold mLM F M' H1 → va_S (fun q : Nat => s.heap.size ≤ q) s.heap H1 [] → W p l e room_1 s m #[Value.ref b] below meth c H1 [] ca sl Q (F0 m 1064 ls [])) : W p l e room_1 s m #[Value.ref b] below meth c H [] ca sl Q (F0 m 1041 ls []) := by
  obtain ⟨Cx, hGC, hGM, hOC, hOM, hX, hbl, hAU, hGU, hdis, hL⟩ := B
  have hx := Cx.1
  have hb := Cx.2.1
  have hbA : ¬ (fun q : Nat => s.heap.size ≤ q) b := Nat.not_le.mpr hbl
  have hT := hR.1
  obtain ⟨⟨ts, htC, htM⟩, h0⟩ := hR
  obtain ⟨v1, hv1⟩ : ∃ v, v = xs (nI (i + 1)).toNatClampNeg := ⟨_, rfl⟩
  refine lv_aload_n hx hb dL_law_1041 rfl (lv_at hl 1 rfl) ?_
  refine lv_aload_n hx hb dL_law_1042 rfl (lv_at hl 0 rfl) ?_
  refine lv_iload_n hx hb dL_law_1043 rfl (lv_at hl 3 rfl) ?_
  refine lv_iconst (v := 1) hx hb dL_law_1044 (by decide) ?_
  refine lv_iadd hx hb dL_law_1045 ?_
  refine mv_eqi (x' := nI (i + 1)) (nI_add i 1) ?_
  refine va_sld hx hb hX hbl hbA hU (vp_in_nI (by omega) (by omega)) dL_law_1046 ?_
  refine mv_eqi (x' := v1) hv1.symm ?_
  refine mv_callL (Y := mLC) (C := RX7) (k := 0) (i := 0) (rest := []) Cx hGC hHC hU hAU (c_X7_look l E A hOC C v1 ts htC) q_co_X7_look q_ml_L_159 q_im_X7_look q_se_X7_look q_in_X7 okC_0 rfl rfl hd_X7_look ⟨Nat.le_of_ble_eq_true rfl, Nat.le_of_ble_eq_true rfl⟩ rfl hl.1 rfl (Nat.le_of_ble_eq_true rfl) ⟨hca, hsl⟩ dL_law_1047 (fun C' H1 hPC hhC hU hk => ?_)
  have hHM := hold_kp hOM hHM hk (fun q g a => hdis q a g)
  clear hHC hk
  refine W.eq (g2 := F0 m 1050 ls [.int ((loR C v1 ts.length))]) rfl ?_
  generalize H1 = H at hhC hHM hU ⊢
  refine lv_aload_n hx hb dL_law_1050 rfl (lv_at hl 2 rfl) ?_
  refine lv_aload_n hx hb dL_law_1051 rfl (lv_at hl 0 rfl) ?_
  refine lv_iload_n hx hb dL_law_1052 rfl (lv_at hl 3 rfl) ?_
  refine lv_iconst (v := 1) hx hb dL_law_1053 (by decide) ?_
  refine lv_iadd hx hb dL_law_1054 ?_
  refine mv_eqi (x' := nI (i + 1)) (nI_add i 1) ?_
  refine va_sld hx hb hX hbl hbA hU (vp_in_nI (by omega) (by omega)) dL_law_1055 ?_
  refine mv_eqi (x' := v1) hv1.symm ?_
  refine mv_callL (Y := mLM) (C := RX8) (k := 0) (i := 0) (rest := [.int ((loR C v1 ts.length))]) Cx hGM hHM hU hGU (c_X8_look l F G hOM M v1 ts htM) q_co_X8_look q_ml_L_162 q_im_X8_look q_se_X8_look q_in_X8 okM_0 rfl rfl hd_X8_look ⟨Nat.le_of_ble_eq_true rfl, Nat.le_of_ble_eq_true rfl⟩ rfl hl.1 rfl (Nat.le_of_ble_eq_true rfl) ⟨hca, hsl⟩ dL_law_1056 (fun M' H1 hPM hhM hU hk => ?_)
  have hHC := hold_kp hOC hhC hk (fun q a => hdis q a)
  refine W.eq (g2 := F0 m 1059 ls [.int ((mloR M v1 ts.length)), .int ((loR C v1 ts.length))]) rfl ?_
  have hrl := rl_look v1 ts htC htM h0 hN hPC hPM
  refine lv_icmp_eq (tgt := 1064) hx hb dL_law_1059 (by decide) (fun hq => ?_) (fun hq => ?_)
  · exact K C' M' _ hrl.2 hHC hhM hU
  · exact absurd hrl.1 hq
