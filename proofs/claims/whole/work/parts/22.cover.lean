/-! ===== blobs ===== -/
section MVN
variable {p : Program} {l : Launch} {e : Env} {R : Room} {s : State} {m : MethodId} {args : Array Value} {below : List Frame} {meth : Method} {c : Code} {H : Heap} {locs : List Loc} {cells slots : Nat} {Q : State → Prop}
variable {cc : ByteArray} {pc nL : Nat} {ls : Array Slot} {rest : List Value} {A : Nat → Prop} {Y : mLY} {E : mEv} {S : mSt} {cd : Cond} {own : String}
theorem mv_callSN (Cx : CallFix p m c cc nL s args (cd :: mv_ws) own) (hG : mG E A s) (hH : mHold Y E S H) (hS : va_S A s.heap H locs) {index d q maxL n : Nat} {y : MethodName} {host : String} {bytes : ByteArray} {ret : Option FieldType} {P : mSt → Prop} {v : Option Value} {As : List Value}
    (hM : Met l y (Cond.code y bytes maxL ret :: mv_ws) (mRm d q) (mPc Y E A S As) (mQ Y E A P v) 0 0 A) (qc : Cond.code y bytes maxL ret ∈ mv_ws) (hN : va_Nw (.methodLinkNest own index y host) s) (qs : Cond.static y ∈ mv_ws) (qn : Cond.initialized y.cls ∈ mv_ws)
    (hd : y.cls ≠ "java/lang/invoke/MethodHandle" ∧ y.cls ≠ "java/lang/invoke/VarHandle" ∧ (parseMethodDescriptor y.desc).map (fun d => d.parameters.length) = some n) (hR : d + 1 ≤ R.frames ∧ 8 + (maxL + 11) + q ≤ R.locals) (hn : As.length = n) (hsz : ls.size = nL) {st0 : List Value} (hst : st0 = As.reverse ++ rest) (hW : (rest.map fun v => v.category).sum ≤ 8) (hf : cells ≤ R.cells ∧ slots ≤ R.slots) (hdg : decode cc pc = .ok (.invokestatic index, 3))
    (kk : ∀ (S' : mSt) (H1 : Heap) (locs1 : List Loc), P S' → mHold Y E S' H1 → va_S A s.heap H1 locs1 → W p l e R s m args below meth c H1 locs1 cells slots Q (F0 m (pc + 3) ls (v.toList ++ rest))) : W p l e R s m args below meth c H locs cells slots Q (F0 m pc ls st0) := by
  have hw : ∀ {w : Cond}, w ∈ mv_ws → w.before args s = true := fun h => Cx.2.2.2.2 _ (List.mem_cons_of_mem _ h)
  exact mv_after (va_runSN (As := As) (rest := rest) Cx hM ⟨va_cnB n Cx.2.2.2.2 (mv_gi qc) rfl rfl rfl hN (hw qn) hd hR, hw qs, trivial⟩ ⟨mPc.blind, fun U hU hWm => ⟨rfl, hG.go hS hU hWm, by rw [hU]; exact hH⟩⟩ rfl hn hsz hst (lv_room hW) hdg hf) hS kk
end MVN
def covF (d f : Nat → Int8) (n j : Nat) : Int8 := if 36 ≤ j ∧ j < n then xor8 (f j) (ks d (j - 36)) else f j
theorem covF_out {d f : Nat → Int8} {n j : Nat} (h : n ≤ j) : covF d f n j = f j := if_neg (by omega)
theorem covF_low {d f : Nat → Int8} {n j : Nat} (h : j < 36) : covF d f n j = f j := if_neg (by omega)
theorem covF_succ {d f : Nat → Int8} {n j : Nat} (h : j ≠ n) : covF d f (n + 1) j = covF d f n j := by
  unfold covF
  by_cases q : 36 ≤ j ∧ j < n
  · rw [if_pos q, if_pos (by omega)]
  · rw [if_neg q, if_neg (by omega)]
theorem covF_new {d f : Nat → Int8} {j : Nat} : covF d f (36 + j + 1) (36 + j) = xor8 (f (36 + j)) (ks d j) := by
  unfold covF
  rw [if_pos (by omega), Nat.add_sub_cancel_left]
theorem ks_congr {d e : Nat → Int8} (h : ∀ j, j < 32 → d j = e j) (q : Nat) : ks d q = ks e q := by
  unfold ks
  rw [mTk_congr h]
theorem covF_congr {d e f g : Nat → Int8} {n j : Nat} (hd : ∀ j, j < 32 → d j = e j) (hf : f j = g j) : covF d f n j = covF e g n j := by
  unfold covF
  rw [hf, ks_congr hd]
def bl0 (N : Int32) (pol auth : Nat → Int8) (ts : List Int8) : List Int8 := w4 N ++ mTk pol 32 ++ mTk auth 32 ++ [(nI ts.length).toInt8] ++ ts
theorem bl0_len (N : Int32) (pol auth : Nat → Int8) (ts : List Int8) : (bl0 N pol auth ts).length = 69 + ts.length := by
  simp only [bl0, List.length_append, w4_len, mTk_len, List.length_singleton]
def bl1 (seed : Nat → Int8) (N : Int32) (xs : List Int8) : List Int8 := mTk (covF (macL seed ([(69 : Int32).toInt8] ++ w4 N)) (fun j => xs.getD j 0) xs.length) xs.length
def blMk (seed : Nat → Int8) (N : Int32) (b : List Int8) : Nat → Int8 := macL (macL seed ([(77 : Int32).toInt8] ++ w4 N)) b
def blobL (seed : Nat → Int8) (N : Int32) (pol auth : Nat → Int8) (ts : List Int8) : List Int8 := bl1 seed N (bl0 N pol auth ts) ++ mTk (blMk seed N (bl1 seed N (bl0 N pol auth ts))) 32
/-- the number of a blob; whether it is a good one; what it is uncovered -/
def uwN (ts : List Int8) : Int32 := mW4 (fun j => ts.getD j 0) 0
def uwF (seed : Nat → Int8) (ts : List Int8) (j : Nat) : Int8 := covF (macL seed ([(69 : Int32).toInt8] ++ w4 (uwN ts))) (fun j => ts.getD j 0) (ts.length - 32) j
def uwM (seed : Nat → Int8) (ts : List Int8) : Bool := mEq (blMk seed (uwN ts) (mTk (fun j => ts.getD j 0) (ts.length - 32))) (fun j => ts.getD j 0) (ts.length - 32)
def uwOk (seed : Nat → Int8) (ts : List Int8) : Prop := 101 ≤ ts.length ∧ ts.length ≤ 229 ∧ uwM seed ts = true ∧ (uwF seed ts 68).toInt32 &&& 255 = nI (ts.length - 101)
theorem bHas.of {S : mSt} {i n : Nat} {f : Nat → Int8} (h1 : S.1 2 i 1 = nI n) (h2 : n ≤ mLn i) (h3 : ∀ j, j < n → S.2.1 3 i j = f j) : bHas S i (mTk f n) :=
  ⟨by rw [mTk_len]; exact h1, by rw [mTk_len]; exact h2, fun j hj => by rw [mTk_len] at hj; rw [mTk_get f hj]; exact h3 j hj⟩
set_option maxHeartbeats 4000000 in
set_option maxRecDepth 100000 in
theorem c_X3_cover (l : Launch) (E : mEv) (A : Nat → Prop) (hO : mOwn mLC E A) (S : mSt) (k0 i0 n0 n : Nat) (hB : mIsB mLC k0 i0 n0) (hne : ¬ hsX k0 i0 ∧ ¬ k0 = 9 ∧ ¬ k0 = 10) (hn : n ≤ n0) (hn36 : 36 ≤ n) : Met l yX3_cover (Cond.code yX3_cover cX3_cover 6 none :: mv_ws) (mRm 3 69) (mPc mLC E A S [.ref (mAdC E 7 0), .ref (mAdC E k0 i0), .int (nI n)]) (mQ mLC E A (fun S' => (∀ q, S'.2.1 k0 i0 q = covF (S.2.1 9 0) (S.2.1 k0 i0) n q) ∧ mSame (fun k i => hsX k i ∨ k = 10 ∨ (k = k0 ∧ i = i0)) S S') none) 0 0 A := by
  refine Met.ofW (cc := cX3_cover) (maxL := 6) (ret := none) (by decide) rfl ?_
  intro p e s m args below meth c s₁ B hml hv
  obtain ⟨rfl, hG, hH⟩ := hv
  have hx := B.exec
  have hb := B.bytes
  have hr := B.returns
  have hlocks := B.notSynchronized
  have Cx : CallFix p m c cX3_cover 6 s ([.ref (mAdC E 7 0), .ref (mAdC E k0 i0), .int (nI n)] : List Value).toArray (Cond.code yX3_cover cX3_cover 6 none :: mv_ws) RX3 := ⟨hx, hb, hml, findClass_of_methodNamed B.named, atoms_spec (ws := Cond.code yX3_cover cX3_cover 6 none :: mv_ws) B.pre⟩
  have hS : va_S A s.heap s.heap [] := va_S.rf
  have hn0 := hB.2.1
  have hl := lv_entry ([.ref (mAdC E 7 0), .ref (mAdC E k0 i0), .int (nI n)]) (n := 6) (Nat.le_of_ble_eq_true rfl)
  rw [lg_entry_eq]
  generalize (lg_sl ([.ref (mAdC E 7 0), .ref (mAdC E k0 i0), .int (nI n)]) ++ List.replicate (6 - (lg_sl ([.ref (mAdC E 7 0), .ref (mAdC E k0 i0), .int (nI n)])).length) Slot.unset).toArray = ls at hl ⊢
  have hl : lv_has ls 6 [(0, .ref (mAdC E 7 0)), (1, .ref (mAdC E k0 i0)), (2, .int (nI n))] := hl
  refine lv_bipush (v := 36) hx hb dX3_cover_0 (by decide) ?_
  refine mv_eqi (x' := nI (36 + 0)) (rfl) ?_
  refine lv_istore_n (lv' := [(3, .int (nI (36 + 0))), (0, .ref (mAdC E 7 0)), (1, .ref (mAdC E k0 i0)), (2, .int (nI n))]) hx hb dX3_cover_2 rfl hl (by decide) rfl (fun ls hl => ?_)
  have lp : ∀ (fu j : Nat) (S1 : mSt) (H : Heap) (locs : List Loc) (ls : Array Slot) , (n - 36) - j < fu → j ≤ (n - 36) → ((∀ q, S1.2.1 k0 i0 q = covF (S.2.1 9 0) (S.2.1 k0 i0) (36 + j) q) ∧ (¬ j % 32 = 0 → ∀ p, p < 32 → S1.2.1 10 0 p = shaL (mTk (S.2.1 9 0) 32 ++ [(nI (j / 32)).toInt8]) p) ∧ mSame (fun k i => hsX k i ∨ k = 10 ∨ (k = k0 ∧ i = i0)) S S1) → mHold mLC E S1 H → va_S A s.heap H locs → lv_has ls 6 [(0, .ref (mAdC E 7 0)), (1, .ref (mAdC E k0 i0)), (2, .int (nI n)), (3, .int (nI (36 + j)))] → W p l e (headSpec (Cond.code yX3_cover cX3_cover 6 none :: mv_ws) (mRm 3 69)).room s m ([.ref (mAdC E 7 0), .ref (mAdC E k0 i0), .int (nI n)] : List Value).toArray below meth c H locs 0 0 (MQ below (mQ mLC E A (fun S' => (∀ q, S'.2.1 k0 i0 q = covF (S.2.1 9 0) (S.2.1 k0 i0) n q) ∧ mSame (fun k i => hsX k i ∨ k = 10 ∨ (k = k0 ∧ i = i0)) S S') none) ([.ref (mAdC E 7 0), .ref (mAdC E k0 i0), .int (nI n)] : List Value).toArray s 0 0 A) (F0 m 3 ls []) := by
    intro fu
    induction fu with
    | zero => intro j S1 H locs ls  hn hj hinv hH hS hl; omega
    | succ fu ih =>
      intro j S1 H locs ls  hn hj hinv hH hS hl
      refine lv_iload_n hx hb dX3_cover_3 rfl (lv_at hl 3 rfl) ?_
      refine lv_iload_n hx hb dX3_cover_4 rfl (lv_at hl 2 rfl) ?_
      refine lv_icmp_ge (tgt := 86) hx hb dX3_cover_5 (by decide) (fun h5 => ?_) (fun h5 => ?_)
      · skip
        have hjn : 36 + j = n := by have := ge_of (a := n) (by omega) (by omega) h5; omega
        exact mv_retv Cx hr hH hS (⟨by rw [← hjn]; exact hinv.1, hinv.2.2⟩) dX3_cover_86 hlocks
      · skip
        have hjn : 36 + j < n := lt_of (a := n) (by omega) (by omega) h5
        refine lv_iload_n hx hb dX3_cover_8 rfl (lv_at hl 3 rfl) ?_
        refine lv_bipush (v := 36) hx hb dX3_cover_9 (by decide) ?_
        refine lv_isub hx hb dX3_cover_11 ?_
        refine mv_eqi (x' := nI j) (by rw [show (36 : Int32) = nI 36 from rfl, pk_sub (by omega), Nat.add_sub_cancel_left]) ?_
        refine lv_istore (lv' := [(4, .int (nI j)), (0, .ref (mAdC E 7 0)), (1, .ref (mAdC E k0 i0)), (2, .int (nI n)), (3, .int (nI (36 + j)))]) hx hb dX3_cover_12 hl (by decide) rfl (fun ls hl => ?_)
        refine lv_iload hx hb dX3_cover_14 (lv_at hl 0 rfl) ?_
        refine lv_bipush (v := 32) hx hb dX3_cover_16 (by decide) ?_
        refine lv_irem hx hb dX3_cover_18 (by decide) ?_
        refine mv_eqi (x' := nI (j % 32)) (pk_rem (a := j) (d := 32) (by omega) (by decide) (by decide)) ?_
        refine lv_if_ne (tgt := 63) hx hb dX3_cover_19 (by decide) (fun h19 => ?_) (fun h19 => ?_)
        · skip
          have hj32 : ¬ j % 32 = 0 := fun z => h19 (by rw [z]; rfl)
          have hmk : ∀ p, p < 32 → S1.2.1 10 0 p = shaL (mTk (S.2.1 9 0) 32 ++ [(nI (j / 32)).toInt8]) p := hinv.2.1 hj32
          have hall : ∀ q, S1.2.1 k0 i0 q = covF (S.2.1 9 0) (S.2.1 k0 i0) (36 + j) q := hinv.1
          have hsm : mSame (fun k i => hsX k i ∨ k = 10 ∨ (k = k0 ∧ i = i0)) S S1 := hinv.2.2
          have hrow : S1.2.1 k0 i0 (36 + j) = S.2.1 k0 i0 (36 + j) := (hall _).trans (covF_out (Nat.le_refl _))
          have hmark : S1.2.1 10 0 (j % 32) = ks (S.2.1 9 0) j := hmk (j % 32) (by omega)
          refine lv_aload_n hx hb dX3_cover_63 rfl (lv_at hl 2 rfl) ?_
          refine lv_iload_n hx hb dX3_cover_64 rfl (lv_at hl 4 rfl) ?_
          refine lv_dup2_11 hx hb dX3_cover_65 rfl rfl ?_
          refine mv_bal Cx hG hH hB (36 + j) (rfl) (by omega) dX3_cover_66 ?_
          refine mv_eqi (x' := (S.2.1 k0 i0 (36 + j)).toInt32) (congrArg Int8.toInt32 hrow) ?_
          refine lv_aload_n hx hb dX3_cover_67 rfl (lv_at hl 1 rfl) ?_
          refine g_X3_mark Cx hG hH q_fl_X3_18 dX3_cover_68 ?_
          refine lv_iload hx hb dX3_cover_71 (lv_at hl 0 rfl) ?_
          refine lv_bipush (v := 32) hx hb dX3_cover_73 (by decide) ?_
          refine lv_irem hx hb dX3_cover_75 (by decide) ?_
          refine mv_eqi (x' := nI (j % 32)) (pk_rem (a := j) (d := 32) (by omega) (by decide) (by decide)) ?_
          refine mv_bal Cx hG hH isC_10 (j % 32) (rfl) (by omega) dX3_cover_76 ?_
          refine mv_eqi (x' := (ks (S.2.1 9 0) j).toInt32) (congrArg Int8.toInt32 hmark) ?_
          refine lv_ixor hx hb dX3_cover_77 ?_
          refine lv_i2b hx hb dX3_cover_78 rfl ?_
          refine mv_bas8 Cx hG hO hH hS hB (36 + j) ((((S.2.1 k0 i0 (36 + j)).toInt32) ^^^ ((ks (S.2.1 9 0) j).toInt32)).toInt8) rfl (rfl) (by omega) dX3_cover_79 (fun H locs hH hS => ?_)
          refine lv_iinc (v := nI (36 + (j + 1))) (lv' := [(3, .int (nI (36 + (j + 1)))), (4, .int (nI j)), (0, .ref (mAdC E 7 0)), (1, .ref (mAdC E k0 i0)), (2, .int (nI n))]) hx hb dX3_cover_80 hl (k := 4) rfl (i2_1 (36 + j)) (by decide) rfl (fun ls hl => ?_)
          refine lv_goto (tgt := 3) hx hb dX3_cover_83 (by decide) ?_
          exact ih (j + 1) (mB S1 k0 i0 (36 + j) ((((S.2.1 k0 i0 (36 + j)).toInt32) ^^^ ((ks (S.2.1 9 0) j).toInt32)).toInt8)) _ _ ls  (by omega) (by omega) (⟨fun q => by by_cases e : q = 36 + j; (subst e; rw [show 36 + (j + 1) = 36 + j + 1 by omega, covF_new]; simp [mB, m3, xor8]); (rw [show 36 + (j + 1) = 36 + j + 1 by omega, covF_succ e, ← hall q]; simp only [mB, m3, e, and_false, if_false]), fun hq p hp => (m3_ne _ _ (fun z => hne.2.2 z.1.symm) p).trans (by rw [show (j + 1) / 32 = j / 32 by omega]; exact hmk p hp), hsm.tr (mSame.B (Or.inr (Or.inr ⟨rfl, rfl⟩)))⟩) hH hS (lv_sub hl [2, 3, 4, 0] rfl)
        · skip
          refine lv_aload_n hx hb dX3_cover_22 rfl (lv_at hl 1 rfl) ?_
          refine g_X3_hasher Cx hG hH q_fl_X3_21 dX3_cover_23 ?_
          refine mv_callV (Y := mLC) (C := RX1) (k := 1) (i := 0) (rest := []) Cx hG hH hS (c_X1_begin l E A hO S1) q_co_X1_begin q_ml_X3_25 q_im_X1_begin q_se_X1_begin q_in_X1 okC_1 rfl rfl hd_X1_begin ⟨Nat.le_of_ble_eq_true rfl, Nat.le_of_ble_eq_true rfl⟩ rfl hl.1 rfl (Nat.le_of_ble_eq_true rfl) ⟨Nat.le_of_ble_eq_true rfl, Nat.le_of_ble_eq_true rfl⟩ dX3_cover_26 (fun S26 H locs hP26 hH hS => ?_)
          refine W.eq (g2 := F0 m 29 ls [.ref (mAdC E 2 2)]) rfl ?_
          refine lv_astore (lv' := [(5, .ref (mAdC E 2 2)), (4, .int (nI j)), (0, .ref (mAdC E 7 0)), (1, .ref (mAdC E k0 i0)), (2, .int (nI n)), (3, .int (nI (36 + j)))]) hx hb dX3_cover_29 hl (by decide) rfl (fun ls hl => ?_)
          refine lv_aload hx hb dX3_cover_31 (lv_at hl 0 rfl) ?_
          refine lv_aload_n hx hb dX3_cover_33 rfl (lv_at hl 2 rfl) ?_
          refine g_X3_derived Cx hG hH q_fl_X3_15 dX3_cover_34 ?_
          refine lv_bipush (v := 32) hx hb dX3_cover_37 (by decide) ?_
          refine mv_callV (Y := mLC) (C := RX0) (k := 2) (i := 2) (rest := []) Cx hG hH hS (c_X0_putAll l E A hO S26 2 (by decide) _ hP26.1 9 0 32 32 isC_9 (by decide) (by decide)) q_co_X0_putAll q_ml_X3_44 q_im_X0_putAll q_se_X0_putAll q_in_X0 (okC_2 (by decide)) rfl rfl hd_X0_putAll ⟨Nat.le_of_ble_eq_true rfl, Nat.le_of_ble_eq_true rfl⟩ rfl hl.1 rfl (Nat.le_of_ble_eq_true rfl) ⟨Nat.le_of_ble_eq_true rfl, Nat.le_of_ble_eq_true rfl⟩ dX3_cover_39 (fun S39 H locs hP39 hH hS => ?_)
          refine W.eq (g2 := F0 m 42 ls []) rfl ?_
          refine lv_aload hx hb dX3_cover_42 (lv_at hl 0 rfl) ?_
          refine lv_iload hx hb dX3_cover_44 (lv_at hl 1 rfl) ?_
          refine lv_bipush (v := 32) hx hb dX3_cover_46 (by decide) ?_
          refine lv_idiv hx hb dX3_cover_48 (by decide) ?_
          refine mv_eqi (x' := nI (j / 32)) (pk_div (a := j) (d := 32) (by omega) (by decide) (by decide)) ?_
          refine mv_callV (Y := mLC) (C := RX0) (k := 2) (i := 2) (rest := []) Cx hG hH hS (c_X0_put l E A hO S39 2 (by decide) _ hP39.1 (nI (j / 32)) (by rw [List.nil_append, mTk_len]; decide)) q_co_X0_put q_ml_X3_31 q_im_X0_put q_se_X0_put q_in_X0 (okC_2 (by decide)) rfl rfl hd_X0_put ⟨Nat.le_of_ble_eq_true rfl, Nat.le_of_ble_eq_true rfl⟩ rfl hl.1 rfl (Nat.le_of_ble_eq_true rfl) ⟨Nat.le_of_ble_eq_true rfl, Nat.le_of_ble_eq_true rfl⟩ dX3_cover_49 (fun S49 H locs hP49 hH hS => ?_)
          refine W.eq (g2 := F0 m 52 ls []) rfl ?_
          refine lv_aload_n hx hb dX3_cover_52 rfl (lv_at hl 2 rfl) ?_
          refine g_X3_hasher Cx hG hH q_fl_X3_21 dX3_cover_53 ?_
          refine lv_aload_n hx hb dX3_cover_56 rfl (lv_at hl 2 rfl) ?_
          refine g_X3_mark Cx hG hH q_fl_X3_18 dX3_cover_57 ?_
          refine mv_callV (Y := mLC) (C := RX1) (k := 1) (i := 0) (rest := []) Cx hG hH hS (c_X1_finish l E A hO S49 10 0 isC_10 _ hP49.1 (by rw [List.nil_append, List.length_append, mTk_len]; exact Nat.le_of_ble_eq_true rfl)) q_co_X1_finish q_ml_X3_40 q_im_X1_finish q_se_X1_finish q_in_X1 okC_1 rfl rfl hd_X1_finish ⟨Nat.le_of_ble_eq_true rfl, Nat.le_of_ble_eq_true rfl⟩ rfl hl.1 rfl (Nat.le_of_ble_eq_true rfl) ⟨Nat.le_of_ble_eq_true rfl, Nat.le_of_ble_eq_true rfl⟩ dX3_cover_60 (fun S60 H locs hP60 hH hS => ?_)
          refine W.eq (g2 := F0 m 63 ls []) rfl ?_
          have hmk : ∀ p, p < 32 → S60.2.1 10 0 p = shaL (mTk (S.2.1 9 0) 32 ++ [(nI (j / 32)).toInt8]) p := fun p hp => (hP60.1 p hp).trans (by rw [List.nil_append, mTk_congr (g := S.2.1 9 0) (fun q _ => ((hP26.2 9 0 (by simp [bX])).2.1 q).trans ((hinv.2.2 9 0 (by simp [hsX, bX]; intro z; exact absurd z.symm hne.2.1)).2.1 q))])
          have hs1 : mSame (fun k i => hsX k i ∨ k = 10) S1 S60 := (((hP26.2.wk (fun _ _ h => Or.inl (Or.inl h))).tr (hP39.2.wk (fun _ _ h => Or.inl (Or.inl h)))).tr (hP49.2.wk (fun _ _ h => Or.inl (Or.inl h)))).tr (hP60.2.wk (fun _ _ h => h.elim Or.inl (fun z => Or.inr z.1)))
          have hall : ∀ q, S60.2.1 k0 i0 q = covF (S.2.1 9 0) (S.2.1 k0 i0) (36 + j) q := fun q => ((hs1 k0 i0 (fun z => z.elim hne.1 hne.2.2)).2.1 q).trans (hinv.1 q)
          have hsm : mSame (fun k i => hsX k i ∨ k = 10 ∨ (k = k0 ∧ i = i0)) S S60 := hinv.2.2.tr (hs1.wk (fun _ _ h => h.elim Or.inl (fun z => Or.inr (Or.inl z))))
          have hrow : S60.2.1 k0 i0 (36 + j) = S.2.1 k0 i0 (36 + j) := (hall _).trans (covF_out (Nat.le_refl _))
          have hmark : S60.2.1 10 0 (j % 32) = ks (S.2.1 9 0) j := hmk (j % 32) (by omega)
          refine lv_aload_n hx hb dX3_cover_63 rfl (lv_at hl 3 rfl) ?_
          refine lv_iload_n hx hb dX3_cover_64 rfl (lv_at hl 5 rfl) ?_
          refine lv_dup2_11 hx hb dX3_cover_65 rfl rfl ?_
          refine mv_bal Cx hG hH hB (36 + j) (rfl) (by omega) dX3_cover_66 ?_
          refine mv_eqi (x' := (S.2.1 k0 i0 (36 + j)).toInt32) (congrArg Int8.toInt32 hrow) ?_
          refine lv_aload_n hx hb dX3_cover_67 rfl (lv_at hl 2 rfl) ?_
          refine g_X3_mark Cx hG hH q_fl_X3_18 dX3_cover_68 ?_
          refine lv_iload hx hb dX3_cover_71 (lv_at hl 1 rfl) ?_
          refine lv_bipush (v := 32) hx hb dX3_cover_73 (by decide) ?_
          refine lv_irem hx hb dX3_cover_75 (by decide) ?_
          refine mv_eqi (x' := nI (j % 32)) (pk_rem (a := j) (d := 32) (by omega) (by decide) (by decide)) ?_
          refine mv_bal Cx hG hH isC_10 (j % 32) (rfl) (by omega) dX3_cover_76 ?_
          refine mv_eqi (x' := (ks (S.2.1 9 0) j).toInt32) (congrArg Int8.toInt32 hmark) ?_
          refine lv_ixor hx hb dX3_cover_77 ?_
          refine lv_i2b hx hb dX3_cover_78 rfl ?_
          refine mv_bas8 Cx hG hO hH hS hB (36 + j) ((((S.2.1 k0 i0 (36 + j)).toInt32) ^^^ ((ks (S.2.1 9 0) j).toInt32)).toInt8) rfl (rfl) (by omega) dX3_cover_79 (fun H locs hH hS => ?_)
          refine lv_iinc (v := nI (36 + (j + 1))) (lv' := [(3, .int (nI (36 + (j + 1)))), (5, .ref (mAdC E 2 2)), (4, .int (nI j)), (0, .ref (mAdC E 7 0)), (1, .ref (mAdC E k0 i0)), (2, .int (nI n))]) hx hb dX3_cover_80 hl (k := 5) rfl (i2_1 (36 + j)) (by decide) rfl (fun ls hl => ?_)
          refine lv_goto (tgt := 3) hx hb dX3_cover_83 (by decide) ?_
          exact ih (j + 1) (mB S60 k0 i0 (36 + j) ((((S.2.1 k0 i0 (36 + j)).toInt32) ^^^ ((ks (S.2.1 9 0) j).toInt32)).toInt8)) _ _ ls  (by omega) (by omega) (⟨fun q => by by_cases e : q = 36 + j; (subst e; rw [show 36 + (j + 1) = 36 + j + 1 by omega, covF_new]; simp [mB, m3, xor8]); (rw [show 36 + (j + 1) = 36 + j + 1 by omega, covF_succ e, ← hall q]; simp only [mB, m3, e, and_false, if_false]), fun hq p hp => (m3_ne _ _ (fun z => hne.2.2 z.1.symm) p).trans (by rw [show (j + 1) / 32 = j / 32 by omega]; exact hmk p hp), hsm.tr (mSame.B (Or.inr (Or.inr ⟨rfl, rfl⟩)))⟩) hH hS (lv_sub hl [3, 4, 5, 0] rfl)
  exact lp ((n - 36) - 0 + 1) 0 S _ _ ls  (by omega) (by omega) (⟨fun q => (if_neg (by omega)).symm, fun h => absurd rfl h, mSame.rf⟩) hH hS (lv_sub hl [1, 2, 3, 0] rfl)
