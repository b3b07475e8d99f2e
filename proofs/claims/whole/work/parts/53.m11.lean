/-! ===== the reference: blobs read ===== -/
set_option maxHeartbeats 4000000 in
set_option maxRecDepth 100000 in
theorem c_X8_load (l : Launch) (E : mEv) (A : Nat → Prop) (hO : mOwn mLM E A) (S : mSt) (ts : List Int8) (hts : nHas 1 400 S ts) : Met l yX8_load (Cond.code yX8_load cX8_load 5 (some .int) :: mv_ws) (mRm 5 139) (mPc mLM E A S [.ref (mAdM E 0 0)]) (mQ mLM E A (fun S' => (¬ uwB (S.2.1 13 0) ts = true → nSame (fun k j => scM k j ∨ k = 1) (mM S 0 0 1 0) S') ∧ (uwB (S.2.1 13 0) ts = true → (mfO (mM S 0 0 1 0) = none → nSame (fun k j => scM k j ∨ k = 1) (mM S 0 0 1 0) S') ∧ ∀ i, mfO (mM S 0 0 1 0) = some i → S'.1 30 0 i = 1 ∧ (∀ q, q < 32 → S'.2.1 32 0 (32 * i + q) = uwF (S.2.1 13 0) ts (4 + q)) ∧ (∀ q, q < 32 → S'.2.1 31 0 (32 * i + q) = uwF (S.2.1 13 0) ts (36 + q)) ∧ S'.1 34 0 i = nI (ts.length - 101) ∧ (∀ q, q < ts.length - 101 → S'.2.1 33 0 (128 * i + q) = uwF (S.2.1 13 0) ts (69 + q)) ∧ nSame (ldX i) (mM S 0 0 1 0) S')) (some (.int (if uwB (S.2.1 13 0) ts = true then (mfO (mM S 0 0 1 0)).elim (-3) nI else -6)))) 0 0 A := by
  refine Met.ofW (cc := cX8_load) (maxL := 5) (ret := (some .int)) (by decide) rfl ?_
  intro p e s m args below meth c s₁ B hml hv
  obtain ⟨rfl, hG, hH⟩ := hv
  have hx := B.exec
  have hb := B.bytes
  have hr := B.returns
  have hlocks := B.notSynchronized
  have Cx : CallFix p m c cX8_load 5 s ([.ref (mAdM E 0 0)] : List Value).toArray (Cond.code yX8_load cX8_load 5 (some .int) :: mv_ws) RX8 := ⟨hx, hb, hml, findClass_of_methodNamed B.named, atoms_spec (ws := Cond.code yX8_load cX8_load 5 (some .int) :: mv_ws) B.pre⟩
  have hS : va_S A s.heap s.heap [] := va_S.rf
  have hlen := hts.2.1
  have hl := lv_entry ([.ref (mAdM E 0 0)]) (n := 5) (Nat.le_of_ble_eq_true rfl)
  rw [lg_entry_eq]
  generalize (lg_sl ([.ref (mAdM E 0 0)]) ++ List.replicate (5 - (lg_sl ([.ref (mAdM E 0 0)])).length) Slot.unset).toArray = ls at hl ⊢
  have hl : lv_has ls 5 [(0, .ref (mAdM E 0 0))] := hl
  refine lv_aload_n hx hb dX8_load_0 rfl (lv_at hl 0 rfl) ?_
  refine g_X8_tapeLength Cx hG hH q_fl_X8_137 dX8_load_1 ?_
  refine mv_eqi (x' := nI ts.length) (hts.1) ?_
  refine lv_istore_n (lv' := [(1, .int (nI ts.length)), (0, .ref (mAdM E 0 0))]) hx hb dX8_load_4 rfl hl (by decide) rfl (fun ls hl => ?_)
  refine lv_aload_n hx hb dX8_load_5 rfl (lv_at hl 1 rfl) ?_
  refine lv_iconst (v := 0) hx hb dX8_load_6 (by decide) ?_
  refine p_X8_tapeLength Cx hG hO hH hS q_fl_X8_137 dX8_load_7 (fun H locs hH hS => ?_)
  refine lv_iload_n hx hb dX8_load_10 rfl (lv_at hl 0 rfl) ?_
  refine lv_bipush (v := 101) hx hb dX8_load_11 (by decide) ?_
  refine lv_icmp_lt (tgt := 23) hx hb dX8_load_13 (by decide) (fun h13 => ?_) (fun h13 => ?_)
  · skip
    have hub : ¬ uwB (S.2.1 13 0) ts = true := fun q => by have h1 := (nI_ltI (b := 101) (by omega) (by decide)).mp h13; have h2 := (uwB_iff.mp q).1; omega
    refine lv_bipush (v := (-6 : Int32)) hx hb dX8_load_23 (by decide) ?_
    exact mv_reti Cx hr hH hS ((if_neg hub).symm) (⟨fun _ => nSame.rf, fun q => absurd q hub⟩) dX8_load_25 hlocks
  · skip
    have hge : 101 ≤ ts.length := Nat.not_lt.mp (fun q => h13 ((nI_ltI (b := 101) (by omega) (by decide)).mpr q))
    refine lv_iload_n hx hb dX8_load_16 rfl (lv_at hl 0 rfl) ?_
    refine lv_sipush (v := 229) hx hb dX8_load_17 (by decide) ?_
    refine lv_icmp_le (tgt := 26) hx hb dX8_load_20 (by decide) (fun h20 => ?_) (fun h20 => ?_)
    · skip
      have hle : ts.length ≤ 229 := (nI_leI (b := 229) (by omega) (by decide)).mp h20
      refine lv_aload_n hx hb dX8_load_26 rfl (lv_at hl 1 rfl) ?_
      refine g_X8_tape Cx hG hH q_fl_X8_9 dX8_load_27 ?_
      refine lv_iconst (v := 0) hx hb dX8_load_30 (by decide) ?_
      refine mv_bal Cx hG hH isM_1 0 (rfl) (by omega) dX8_load_31 ?_
      refine lv_sipush (v := 255) hx hb dX8_load_32 (by decide) ?_
      refine lv_iand hx hb dX8_load_35 ?_
      refine lv_bipush (v := 24) hx hb dX8_load_36 (by decide) ?_
      refine lv_ishl hx hb dX8_load_38 ?_
      refine lv_aload_n hx hb dX8_load_39 rfl (lv_at hl 1 rfl) ?_
      refine g_X8_tape Cx hG hH q_fl_X8_9 dX8_load_40 ?_
      refine lv_iconst (v := 1) hx hb dX8_load_43 (by decide) ?_
      refine mv_bal Cx hG hH isM_1 1 (rfl) (by omega) dX8_load_44 ?_
      refine lv_sipush (v := 255) hx hb dX8_load_45 (by decide) ?_
      refine lv_iand hx hb dX8_load_48 ?_
      refine lv_bipush (v := 16) hx hb dX8_load_49 (by decide) ?_
      refine lv_ishl hx hb dX8_load_51 ?_
      refine lv_ior hx hb dX8_load_52 ?_
      refine lv_aload_n hx hb dX8_load_53 rfl (lv_at hl 1 rfl) ?_
      refine g_X8_tape Cx hG hH q_fl_X8_9 dX8_load_54 ?_
      refine lv_iconst (v := 2) hx hb dX8_load_57 (by decide) ?_
      refine mv_bal Cx hG hH isM_1 2 (rfl) (by omega) dX8_load_58 ?_
      refine lv_sipush (v := 255) hx hb dX8_load_59 (by decide) ?_
      refine lv_iand hx hb dX8_load_62 ?_
      refine lv_bipush (v := 8) hx hb dX8_load_63 (by decide) ?_
      refine lv_ishl hx hb dX8_load_65 ?_
      refine lv_ior hx hb dX8_load_66 ?_
      refine lv_aload_n hx hb dX8_load_67 rfl (lv_at hl 1 rfl) ?_
      refine g_X8_tape Cx hG hH q_fl_X8_9 dX8_load_68 ?_
      refine lv_iconst (v := 3) hx hb dX8_load_71 (by decide) ?_
      refine mv_bal Cx hG hH isM_1 3 (rfl) (by omega) dX8_load_72 ?_
      refine lv_sipush (v := 255) hx hb dX8_load_73 (by decide) ?_
      refine lv_iand hx hb dX8_load_76 ?_
      refine lv_ior hx hb dX8_load_77 ?_
      refine mv_eqi (x' := uwN ts) (by rw [sh24]; exact mW4_congr (f := S.2.1 1 0) (a := 0) (fun j _ hj => hts.2.2 j (by omega))) ?_
      refine lv_istore_n (lv' := [(2, .int (uwN ts)), (1, .int (nI ts.length)), (0, .ref (mAdM E 0 0))]) hx hb dX8_load_78 rfl hl (by decide) rfl (fun ls hl => ?_)
      refine lv_aload_n hx hb dX8_load_79 rfl (lv_at hl 2 rfl) ?_
      refine lv_aload_n hx hb dX8_load_80 rfl (lv_at hl 2 rfl) ?_
      refine g_X8_tape Cx hG hH q_fl_X8_9 dX8_load_81 ?_
      refine lv_iload_n hx hb dX8_load_84 rfl (lv_at hl 1 rfl) ?_
      refine lv_bipush (v := 32) hx hb dX8_load_85 (by decide) ?_
      refine lv_isub hx hb dX8_load_87 ?_
      refine mv_eqi (x' := nI (ts.length - 32)) (pk_sub (b := 32) (by omega)) ?_
      refine lv_iload_n hx hb dX8_load_88 rfl (lv_at hl 0 rfl) ?_
      refine lv_aload_n hx hb dX8_load_89 rfl (lv_at hl 2 rfl) ?_
      refine g_X8_check Cx hG hH q_fl_X8_97 dX8_load_90 ?_
      refine lv_iconst (v := 0) hx hb dX8_load_93 (by decide) ?_
      refine mv_eqi (x' := nI 0) (rfl) ?_
      refine mv_callV (Y := mLM) (C := RX8) (k := 0) (i := 0) (rest := []) Cx hG hH hS (c_X8_sealTo l E A hO (mM S 0 0 1 0) 1 400 isM_1 (Or.inl rfl) (ts.length - 32) (by omega) (by omega) (uwN ts) 38 32 isM_38 (by decide) 0 (by decide)) q_co_X8_sealTo q_ml_X8_210 q_im_X8_sealTo q_se_X8_sealTo q_in_X8 okM_0 rfl rfl hd_X8_sealTo ⟨Nat.le_of_ble_eq_true rfl, Nat.le_of_ble_eq_true rfl⟩ rfl hl.1 rfl (Nat.le_of_ble_eq_true rfl) ⟨Nat.le_of_ble_eq_true rfl, Nat.le_of_ble_eq_true rfl⟩ dX8_load_94 (fun S94 H locs hP94 hH hS => ?_)
      refine W.eq (g2 := F0 m 97 ls []) rfl ?_
      have hs94 : nSame (fun k j => scM k j ∨ k = 1) (mM S 0 0 1 0) S94 := hP94.2.wk (fun k j h => by simp only [scM, nX, hX, seM] at h ⊢; omega)
      have hct : ∀ r, r < ts.length → S94.2.1 1 0 r = ts.getD r 0 := fun r hr => (hP94.2 1 r (by simp only [scM, nX, hX, seM]; omega)).2.1.trans (hts.2.2 r hr)
      have hum : nEq (S94.2.1 38 0) (S94.2.1 1 0) 0 (ts.length - 32) = uwM (S.2.1 13 0) ts := by
        rw [nEq_0]
        exact mEq_congr (fun j hj => by have h := hP94.1 j hj; rw [Nat.zero_add] at h; rw [h]; congr 1; exact mTk_congr (fun q hq => hts.2.2 q (by omega))) (fun j _ hj => hct j (by omega))
      refine lv_aload_n hx hb dX8_load_97 rfl (lv_at hl 2 rfl) ?_
      refine g_X8_check Cx hG hH q_fl_X8_97 dX8_load_98 ?_
      refine lv_iconst (v := 0) hx hb dX8_load_101 (by decide) ?_
      refine mv_eqi (x' := nI 0) (rfl) ?_
      refine lv_aload_n hx hb dX8_load_102 rfl (lv_at hl 2 rfl) ?_
      refine g_X8_tape Cx hG hH q_fl_X8_9 dX8_load_103 ?_
      refine lv_iload_n hx hb dX8_load_106 rfl (lv_at hl 1 rfl) ?_
      refine lv_bipush (v := 32) hx hb dX8_load_107 (by decide) ?_
      refine lv_isub hx hb dX8_load_109 ?_
      refine mv_eqi (x' := nI (ts.length - 32)) (pk_sub (b := 32) (by omega)) ?_
      refine mv_callS (Y := mLM) (rest := []) Cx hG hH hS (c_X8_same l E A hO S94 38 32 isM_38 0 (by decide) 1 400 isM_1 (ts.length - 32) (by omega)) q_co_X8_same q_ml_X8_189 q_st_X8_same q_in_X8 hd_X8_same ⟨Nat.le_of_ble_eq_true rfl, Nat.le_of_ble_eq_true rfl⟩ rfl hl.1 rfl (Nat.le_of_ble_eq_true rfl) ⟨Nat.le_of_ble_eq_true rfl, Nat.le_of_ble_eq_true rfl⟩ dX8_load_110 (fun S110 H locs hP110 hH hS => ?_)
      refine W.eq (g2 := F0 m 113 ls [.int (if nEq (S94.2.1 38 0) (S94.2.1 1 0) 0 (ts.length - 32) = true then 1 else 0)]) rfl ?_
      have hH := mv_S hP110 hH
      refine lv_if_ne (tgt := 119) hx hb dX8_load_113 (by decide) (fun h113 => ?_) (fun h113 => ?_)
      · skip
        have hmt : uwM (S.2.1 13 0) ts = true := hum.symm.trans (b1_of h113)
        refine lv_aload_n hx hb dX8_load_119 rfl (lv_at hl 2 rfl) ?_
        refine lv_aload_n hx hb dX8_load_120 rfl (lv_at hl 2 rfl) ?_
        refine g_X8_tape Cx hG hH q_fl_X8_9 dX8_load_121 ?_
        refine lv_bipush (v := 36) hx hb dX8_load_124 (by decide) ?_
        refine mv_eqi (x' := nI 36) (rfl) ?_
        refine lv_iload_n hx hb dX8_load_126 rfl (lv_at hl 1 rfl) ?_
        refine lv_bipush (v := 68) hx hb dX8_load_127 (by decide) ?_
        refine lv_isub hx hb dX8_load_129 ?_
        refine mv_eqi (x' := nI (ts.length - 68)) (pk_sub (b := 68) (by omega)) ?_
        refine lv_iload_n hx hb dX8_load_130 rfl (lv_at hl 0 rfl) ?_
        refine mv_callV (Y := mLM) (C := RX8) (k := 0) (i := 0) (rest := []) Cx hG hH hS (c_X8_mix l E A hO S94 1 400 isM_1 (Or.inl rfl) (ts.length - 68) (by omega) (uwN ts)) q_co_X8_mix q_ml_X8_206 q_im_X8_mix q_se_X8_mix q_in_X8 okM_0 rfl rfl hd_X8_mix ⟨Nat.le_of_ble_eq_true rfl, Nat.le_of_ble_eq_true rfl⟩ rfl hl.1 rfl (Nat.le_of_ble_eq_true rfl) ⟨Nat.le_of_ble_eq_true rfl, Nat.le_of_ble_eq_true rfl⟩ dX8_load_131 (fun S131 H locs hP131 hH hS => ?_)
        refine W.eq (g2 := F0 m 134 ls []) rfl ?_
        have hs131 : nSame (fun k j => scM k j ∨ k = 1) (mM S 0 0 1 0) S131 := hs94.tr (hP131.2.wk (fun k j h => by simp only [scM, nX, hX, seM] at h ⊢; omega))
        have huf : ∀ r, r < ts.length → S131.2.1 1 0 r = uwF (S.2.1 13 0) ts r := fun r hr => by rw [hP131.1 r]; unfold uwF; rw [show 36 + (ts.length - 68) = ts.length - 32 by omega]; exact covF_congr (fun q hq => congrFun (macL_cg (fun z hz => (hP94.2 13 z (by simp only [scM, nX, hX, seM]; omega)).2.1)) q) (hct r hr)
        have hfo : mfO S131 = mfO (mM S 0 0 1 0) := mfO_congr (fun q hq => (hs131 30 q (by simp only [scM, nX, hX, seM]; omega)).1)
        refine lv_aload_n hx hb dX8_load_134 rfl (lv_at hl 2 rfl) ?_
        refine g_X8_tape Cx hG hH q_fl_X8_9 dX8_load_135 ?_
        refine lv_bipush (v := 68) hx hb dX8_load_138 (by decide) ?_
        refine mv_bal Cx hG hH isM_1 68 (rfl) (by omega) dX8_load_140 ?_
        refine mv_eqi (x' := (uwF (S.2.1 13 0) ts 68).toInt32) (congrArg Int8.toInt32 (huf 68 (by omega))) ?_
        refine lv_sipush (v := 255) hx hb dX8_load_141 (by decide) ?_
        refine lv_iand hx hb dX8_load_144 ?_
        refine lv_iload_n hx hb dX8_load_145 rfl (lv_at hl 1 rfl) ?_
        refine lv_bipush (v := 101) hx hb dX8_load_146 (by decide) ?_
        refine lv_isub hx hb dX8_load_148 ?_
        refine mv_eqi (x' := nI (ts.length - 101)) (pk_sub (b := 101) (by omega)) ?_
        refine lv_icmp_eq (tgt := 155) hx hb dX8_load_149 (by decide) (fun h149 => ?_) (fun h149 => ?_)
        · skip
          have hub : uwB (S.2.1 13 0) ts = true := uwB_iff.mpr ⟨hge, hle, hmt, h149⟩
          refine lv_iconst (v := 0) hx hb dX8_load_155 (by decide) ?_
          refine mv_eqi (x' := nI 0) (rfl) ?_
          refine lv_istore_n (lv' := [(3, .int (nI 0)), (2, .int (uwN ts)), (1, .int (nI ts.length)), (0, .ref (mAdM E 0 0))]) hx hb dX8_load_156 rfl hl (by decide) rfl (fun ls hl => ?_)
          have lp : ∀ (fu j : Nat) (S1 : mSt) (H : Heap) (locs : List Loc) (ls : Array Slot) , 4 - j < fu → j ≤ 4 → (S1 = S131 ∧ ∀ q, q < j → ¬ S131.1 30 0 q = 0) → mHold mLM E S1 H → va_S A s.heap H locs → lv_has ls 5 [(0, .ref (mAdM E 0 0)), (1, .int (nI ts.length)), (3, .int (nI j))] → W p l e (headSpec (Cond.code yX8_load cX8_load 5 (some .int) :: mv_ws) (mRm 5 139)).room s m ([.ref (mAdM E 0 0)] : List Value).toArray below meth c H locs 0 0 (MQ below (mQ mLM E A (fun S' => (¬ uwB (S.2.1 13 0) ts = true → nSame (fun k j => scM k j ∨ k = 1) (mM S 0 0 1 0) S') ∧ (uwB (S.2.1 13 0) ts = true → (mfO (mM S 0 0 1 0) = none → nSame (fun k j => scM k j ∨ k = 1) (mM S 0 0 1 0) S') ∧ ∀ i, mfO (mM S 0 0 1 0) = some i → S'.1 30 0 i = 1 ∧ (∀ q, q < 32 → S'.2.1 32 0 (32 * i + q) = uwF (S.2.1 13 0) ts (4 + q)) ∧ (∀ q, q < 32 → S'.2.1 31 0 (32 * i + q) = uwF (S.2.1 13 0) ts (36 + q)) ∧ S'.1 34 0 i = nI (ts.length - 101) ∧ (∀ q, q < ts.length - 101 → S'.2.1 33 0 (128 * i + q) = uwF (S.2.1 13 0) ts (69 + q)) ∧ nSame (ldX i) (mM S 0 0 1 0) S')) (some (.int (if uwB (S.2.1 13 0) ts = true then (mfO (mM S 0 0 1 0)).elim (-3) nI else -6)))) ([.ref (mAdM E 0 0)] : List Value).toArray s 0 0 A) (F0 m 157 ls []) := by
            intro fu
            induction fu with
            | zero => intro j S1 H locs ls  hn hj hinv hH hS hl; omega
            | succ fu ih =>
              intro j S1 H locs ls  hn hj hinv hH hS hl
              have hH := mv_S hinv.1 hH
              refine lv_iload_n hx hb dX8_load_157 rfl (lv_at hl 2 rfl) ?_
              refine lv_iconst (v := 4) hx hb dX8_load_158 (by decide) ?_
              refine lv_icmp_ge (tgt := 177) hx hb dX8_load_159 (by decide) (fun h159 => ?_) (fun h159 => ?_)
              · skip
                have hje : j = 4 := by have := ge_of (a := 4) (b := j) (by decide) (by omega) h159; omega
                have hmf : mfO (mM S 0 0 1 0) = none := by rw [← hfo]; exact mfO_none (fun q hq => hinv.2 q (by omega))
                refine lv_iload_n hx hb dX8_load_177 rfl (lv_at hl 2 rfl) ?_
                refine lv_iconst (v := 4) hx hb dX8_load_178 (by decide) ?_
                refine lv_icmp_ne (tgt := 185) hx hb dX8_load_179 (by decide) (fun h179 => ?_) (fun h179 => ?_)
                · skip
                  exact absurd (show nI j = 4 by rw [hje]; rfl) h179
                · skip
                  refine lv_bipush (v := (-3 : Int32)) hx hb dX8_load_182 (by decide) ?_
                  exact mv_reti Cx hr hH hS (by rw [if_pos hub, hmf]; rfl) (⟨fun q => absurd hub q, fun _ => ⟨fun _ => hs131, fun i h => by (rw [hmf] at h; cases h)⟩⟩) dX8_load_184 hlocks
              · skip
                have hje : j < 4 := lt_of (a := 4) (b := j) (by decide) (by omega) h159
                refine lv_aload_n hx hb dX8_load_162 rfl (lv_at hl 0 rfl) ?_
                refine g_X8_there Cx hG hH q_fl_X8_73 dX8_load_163 ?_
                refine lv_iload_n hx hb dX8_load_166 rfl (lv_at hl 2 rfl) ?_
                refine mv_zal Cx hG hH isM_30 j (rfl) (by omega) dX8_load_167 ?_
                refine lv_if_eq (tgt := 177) hx hb dX8_load_168 (by decide) (fun h168 => ?_) (fun h168 => ?_)
                · skip
                  have hmf : mfO (mM S 0 0 1 0) = some j := by rw [← hfo]; exact mfO_of hje hinv.2 h168
                  refine lv_iload_n hx hb dX8_load_177 rfl (lv_at hl 2 rfl) ?_
                  refine lv_iconst (v := 4) hx hb dX8_load_178 (by decide) ?_
                  refine lv_icmp_ne (tgt := 185) hx hb dX8_load_179 (by decide) (fun h179 => ?_) (fun h179 => ?_)
                  · skip
                    refine lv_aload_n hx hb dX8_load_185 rfl (lv_at hl 0 rfl) ?_
                    refine g_X8_there Cx hG hH q_fl_X8_73 dX8_load_186 ?_
                    refine lv_iload_n hx hb dX8_load_189 rfl (lv_at hl 2 rfl) ?_
                    refine lv_iconst (v := 1) hx hb dX8_load_190 (by decide) ?_
                    refine mv_zas Cx hG hO hH hS isM_30 j (Or.inr rfl) (rfl) (by omega) dX8_load_191 (fun H locs hH hS => ?_)
                    refine lv_iconst (v := 0) hx hb dX8_load_192 (by decide) ?_
                    refine mv_eqi (x' := nI 0) (rfl) ?_
                    refine lv_istore (lv' := [(4, .int (nI 0)), (0, .ref (mAdM E 0 0)), (1, .int (nI ts.length)), (3, .int (nI j))]) hx hb dX8_load_193 hl (by decide) rfl (fun ls hl => ?_)
                    have lp2 : ∀ (fu u : Nat) (S2 : mSt) (H : Heap) (locs : List Loc) (ls : Array Slot) , 32 - u < fu → u ≤ 32 → ((∀ q, q < u → S2.2.1 32 0 (32 * j + q) = uwF (S.2.1 13 0) ts (4 + q)) ∧ (∀ q, q < u → S2.2.1 31 0 (32 * j + q) = uwF (S.2.1 13 0) ts (36 + q)) ∧ nSame (fun k q => (k = 31 ∨ k = 32) ∧ 32 * j ≤ q ∧ q < 32 * j + 32) (mM S131 30 0 j 1) S2) → mHold mLM E S2 H → va_S A s.heap H locs → lv_has ls 5 [(0, .ref (mAdM E 0 0)), (3, .int (nI j)), (4, .int (nI u))] → W p l e (headSpec (Cond.code yX8_load cX8_load 5 (some .int) :: mv_ws) (mRm 5 139)).room s m ([.ref (mAdM E 0 0)] : List Value).toArray below meth c H locs 0 0 (MQ below (mQ mLM E A (fun S' => (¬ uwB (S.2.1 13 0) ts = true → nSame (fun k j => scM k j ∨ k = 1) (mM S 0 0 1 0) S') ∧ (uwB (S.2.1 13 0) ts = true → (mfO (mM S 0 0 1 0) = none → nSame (fun k j => scM k j ∨ k = 1) (mM S 0 0 1 0) S') ∧ ∀ i, mfO (mM S 0 0 1 0) = some i → S'.1 30 0 i = 1 ∧ (∀ q, q < 32 → S'.2.1 32 0 (32 * i + q) = uwF (S.2.1 13 0) ts (4 + q)) ∧ (∀ q, q < 32 → S'.2.1 31 0 (32 * i + q) = uwF (S.2.1 13 0) ts (36 + q)) ∧ S'.1 34 0 i = nI (ts.length - 101) ∧ (∀ q, q < ts.length - 101 → S'.2.1 33 0 (128 * i + q) = uwF (S.2.1 13 0) ts (69 + q)) ∧ nSame (ldX i) (mM S 0 0 1 0) S')) (some (.int (if uwB (S.2.1 13 0) ts = true then (mfO (mM S 0 0 1 0)).elim (-3) nI else -6)))) ([.ref (mAdM E 0 0)] : List Value).toArray s 0 0 A) (F0 m 195 ls []) := by
                      intro fu
                      induction fu with
                      | zero => intro u S2 H locs ls  hn2 hu hin2 hH hS hl; omega
                      | succ fu ih2 =>
                        intro u S2 H locs ls  hn2 hu hin2 hH hS hl
                        refine lv_iload hx hb dX8_load_195 (lv_at hl 2 rfl) ?_
                        refine lv_bipush (v := 32) hx hb dX8_load_197 (by decide) ?_
                        refine lv_icmp_ge (tgt := 251) hx hb dX8_load_199 (by decide) (fun h199 => ?_) (fun h199 => ?_)
                        · skip
                          have hue : u = 32 := by have := ge_of (a := 32) (b := u) (by omega) (by omega) h199; omega
                          rw [hue] at hin2
                          refine lv_aload_n hx hb dX8_load_251 rfl (lv_at hl 0 rfl) ?_
                          refine g_X8_size Cx hG hH q_fl_X8_85 dX8_load_252 ?_
                          refine lv_iload_n hx hb dX8_load_255 rfl (lv_at hl 1 rfl) ?_
                          refine lv_aload_n hx hb dX8_load_256 rfl (lv_at hl 0 rfl) ?_
                          refine g_X8_tape Cx hG hH q_fl_X8_9 dX8_load_257 ?_
                          refine lv_bipush (v := 68) hx hb dX8_load_260 (by decide) ?_
                          refine mv_bal Cx hG hH isM_1 68 (rfl) (by omega) dX8_load_262 ?_
                          refine lv_sipush (v := 255) hx hb dX8_load_263 (by decide) ?_
                          refine lv_iand hx hb dX8_load_266 ?_
                          refine mv_eqi (x' := nI (ts.length - 101)) (by rw [(hin2.2.2 1 68 (by omega)).2.1]; exact (congrArg (fun b : Int8 => b.toInt32 &&& 255) (huf 68 (by omega))).trans h149) ?_
                          refine mv_ias Cx hG hO hH hS isM_34 j (rfl) (by omega) dX8_load_267 (fun H locs hH hS => ?_)
                          refine lv_iconst (v := 0) hx hb dX8_load_268 (by decide) ?_
                          refine mv_eqi (x' := nI 0) (rfl) ?_
                          refine lv_istore (lv' := [(4, .int (nI 0)), (0, .ref (mAdM E 0 0)), (3, .int (nI j))]) hx hb dX8_load_269 hl (by decide) rfl (fun ls hl => ?_)
                          have lp3 : ∀ (fu v : Nat) (S3 : mSt) (H : Heap) (locs : List Loc) (ls : Array Slot) , (ts.length - 101) - v < fu → v ≤ (ts.length - 101) → (S3.1 34 0 j = nI (ts.length - 101) ∧ (∀ q, q < v → S3.2.1 33 0 (128 * j + q) = uwF (S.2.1 13 0) ts (69 + q)) ∧ nSame (fun k q => k = 33 ∧ 128 * j ≤ q ∧ q < 128 * j + 128) (mM S2 34 0 j (nI (ts.length - 101))) S3) → mHold mLM E S3 H → va_S A s.heap H locs → lv_has ls 5 [(0, .ref (mAdM E 0 0)), (3, .int (nI j)), (4, .int (nI v))] → W p l e (headSpec (Cond.code yX8_load cX8_load 5 (some .int) :: mv_ws) (mRm 5 139)).room s m ([.ref (mAdM E 0 0)] : List Value).toArray below meth c H locs 0 0 (MQ below (mQ mLM E A (fun S' => (¬ uwB (S.2.1 13 0) ts = true → nSame (fun k j => scM k j ∨ k = 1) (mM S 0 0 1 0) S') ∧ (uwB (S.2.1 13 0) ts = true → (mfO (mM S 0 0 1 0) = none → nSame (fun k j => scM k j ∨ k = 1) (mM S 0 0 1 0) S') ∧ ∀ i, mfO (mM S 0 0 1 0) = some i → S'.1 30 0 i = 1 ∧ (∀ q, q < 32 → S'.2.1 32 0 (32 * i + q) = uwF (S.2.1 13 0) ts (4 + q)) ∧ (∀ q, q < 32 → S'.2.1 31 0 (32 * i + q) = uwF (S.2.1 13 0) ts (36 + q)) ∧ S'.1 34 0 i = nI (ts.length - 101) ∧ (∀ q, q < ts.length - 101 → S'.2.1 33 0 (128 * i + q) = uwF (S.2.1 13 0) ts (69 + q)) ∧ nSame (ldX i) (mM S 0 0 1 0) S')) (some (.int (if uwB (S.2.1 13 0) ts = true then (mfO (mM S 0 0 1 0)).elim (-3) nI else -6)))) ([.ref (mAdM E 0 0)] : List Value).toArray s 0 0 A) (F0 m 271 ls []) := by
                            intro fu
                            induction fu with
                            | zero => intro v S3 H locs ls  hn3 hv3 hin3 hH hS hl; omega
                            | succ fu ih3 =>
                              intro v S3 H locs ls  hn3 hv3 hin3 hH hS hl
                              refine lv_iload hx hb dX8_load_271 (lv_at hl 2 rfl) ?_
                              refine lv_aload_n hx hb dX8_load_273 rfl (lv_at hl 0 rfl) ?_
                              refine g_X8_size Cx hG hH q_fl_X8_85 dX8_load_274 ?_
                              refine lv_iload_n hx hb dX8_load_277 rfl (lv_at hl 1 rfl) ?_
                              refine mv_ial Cx hG hH isM_34 j (rfl) (by omega) dX8_load_278 ?_
                              refine mv_eqi (x' := nI (ts.length - 101)) (hin3.1) ?_
                              refine lv_icmp_ge (tgt := 311) hx hb dX8_load_279 (by decide) (fun h279 => ?_) (fun h279 => ?_)
                              · skip
                                have hve : v = (ts.length - 101) := by have := ge_of (a := (ts.length - 101)) (b := v) (by omega) (by omega) h279; omega
                                rw [hve] at hin3
                                refine lv_iload_n hx hb dX8_load_311 rfl (lv_at hl 1 rfl) ?_
                                exact mv_reti Cx hr hH hS (by rw [if_pos hub, hmf]; rfl) (⟨fun q => absurd hub q, fun _ => ⟨fun h => by (rw [hmf] at h; cases h), fun i' h => by (rw [hmf] at h; injection h with h; subst h; exact ⟨(hin3.2.2 30 j (by omega)).1.trans ((show m3 S2.1 34 0 j (nI (ts.length - 101)) 30 0 j = S2.1 30 0 j from m3_n _ _ (by omega)).trans ((hin2.2.2 30 j (by omega)).1.trans (show m3 S131.1 30 0 j 1 30 0 j = 1 from m3_s _ _ _ _ _))), fun q hq => (hin3.2.2 32 _ (by omega)).2.1.trans (hin2.1 q hq), fun q hq => (hin3.2.2 31 _ (by omega)).2.1.trans (hin2.2.1 q hq), hin3.1, hin3.2.1, ((((hs131.wk (fun k j h => by simp only [ldX, scM, nX, hX] at h ⊢; omega)).tr (nSame.M (by simp [ldX]))).tr (hin2.2.2.wk (fun k j h => by simp only [ldX, scM, nX, hX] at h ⊢; omega))).tr (nSame.M (by simp [ldX]))).tr (hin3.2.2.wk (fun k j h => by simp only [ldX, scM, nX, hX] at h ⊢; omega))⟩)⟩⟩) dX8_load_312 hlocks
                              · skip
                                have hve : v < (ts.length - 101) := by have := lt_of (a := (ts.length - 101)) (b := v) (by omega) (by omega) h279; omega
                                refine lv_aload_n hx hb dX8_load_282 rfl (lv_at hl 0 rfl) ?_
                                refine g_X8_data Cx hG hH q_fl_X8_82 dX8_load_283 ?_
                                refine lv_sipush (v := 128) hx hb dX8_load_286 (by decide) ?_
                                refine lv_iload_n hx hb dX8_load_289 rfl (lv_at hl 1 rfl) ?_
                                refine lv_imul hx hb dX8_load_290 ?_
                                refine mv_eqi (x' := nI (128 * j)) (pk_mul 128 j) ?_
                                refine lv_iload hx hb dX8_load_291 (lv_at hl 2 rfl) ?_
                                refine lv_iadd hx hb dX8_load_293 ?_
                                refine mv_eqi (x' := nI (128 * j + v)) (nI_add _ _) ?_
                                refine lv_aload_n hx hb dX8_load_294 rfl (lv_at hl 0 rfl) ?_
                                refine g_X8_tape Cx hG hH q_fl_X8_9 dX8_load_295 ?_
                                refine lv_bipush (v := 69) hx hb dX8_load_298 (by decide) ?_
                                refine lv_iload hx hb dX8_load_300 (lv_at hl 2 rfl) ?_
                                refine lv_iadd hx hb dX8_load_302 ?_
                                refine mv_eqi (x' := nI (69 + v)) (nI_add 69 v) ?_
                                refine mv_bal Cx hG hH isM_1 (69 + v) (rfl) (by omega) dX8_load_303 ?_
                                refine mv_bas8 Cx hG hO hH hS isM_33 (128 * j + v) (S3.2.1 1 0 (69 + v)) rfl (rfl) (by omega) dX8_load_304 (fun H locs hH hS => ?_)
                                refine lv_iinc (v := nI (v + 1)) (lv' := [(4, .int (nI (v + 1))), (0, .ref (mAdM E 0 0)), (3, .int (nI j))]) hx hb dX8_load_305 hl (k := 2) rfl (i2_1 v) (by decide) rfl (fun ls hl => ?_)
                                refine lv_goto (tgt := 271) hx hb dX8_load_308 (by decide) ?_
                                exact ih3 (v + 1) (mB S3 33 0 (128 * j + v) (S3.2.1 1 0 (69 + v))) _ _ ls  (by omega) (by omega) (⟨hin3.1, fun q hq => by by_cases e : q = v; (rw [e]; exact (show m3 S3.2.1 33 0 (128 * j + v) (S3.2.1 1 0 (69 + v)) 33 0 (128 * j + v) = S3.2.1 1 0 (69 + v) from m3_s _ _ _ _ _).trans ((hin3.2.2 1 (69 + v) (by omega)).2.1.trans ((hin2.2.2 1 (69 + v) (by omega)).2.1.trans (huf (69 + v) (by omega))))); (exact (show m3 S3.2.1 33 0 (128 * j + v) (S3.2.1 1 0 (69 + v)) 33 0 (128 * j + q) = S3.2.1 33 0 (128 * j + q) from m3_n _ _ (by omega)).trans (hin3.2.1 q (by omega))), hin3.2.2.tr (nSame.B (X := (fun k q => k = 33 ∧ 128 * j ≤ q ∧ q < 128 * j + 128)) ⟨rfl, by omega, by omega⟩)⟩) hH hS (lv_sub hl [1, 2, 0] rfl)
                          exact lp3 ((ts.length - 101) - 0 + 1) 0 (mM S2 34 0 j (nI (ts.length - 101))) _ _ ls  (by omega) (by omega) (⟨by simp [mM, m3], fun q h => absurd h (Nat.not_lt_zero _), nSame.rf⟩) hH hS (lv_sub hl [1, 2, 0] rfl)
                        · skip
                          have hue : u < 32 := by have := lt_of (a := 32) (b := u) (by omega) (by omega) h199; omega
                          refine lv_aload_n hx hb dX8_load_202 rfl (lv_at hl 0 rfl) ?_
                          refine g_X8_policy Cx hG hH q_fl_X8_79 dX8_load_203 ?_
                          refine lv_bipush (v := 32) hx hb dX8_load_206 (by decide) ?_
                          refine lv_iload_n hx hb dX8_load_208 rfl (lv_at hl 1 rfl) ?_
                          refine lv_imul hx hb dX8_load_209 ?_
                          refine mv_eqi (x' := nI (32 * j)) (pk_mul 32 j) ?_
                          refine lv_iload hx hb dX8_load_210 (lv_at hl 2 rfl) ?_
                          refine lv_iadd hx hb dX8_load_212 ?_
                          refine mv_eqi (x' := nI (32 * j + u)) (nI_add _ _) ?_
                          refine lv_aload_n hx hb dX8_load_213 rfl (lv_at hl 0 rfl) ?_
                          refine g_X8_tape Cx hG hH q_fl_X8_9 dX8_load_214 ?_
                          refine lv_iconst (v := 4) hx hb dX8_load_217 (by decide) ?_
                          refine lv_iload hx hb dX8_load_218 (lv_at hl 2 rfl) ?_
                          refine lv_iadd hx hb dX8_load_220 ?_
                          refine mv_eqi (x' := nI (4 + u)) (nI_add 4 u) ?_
                          refine mv_bal Cx hG hH isM_1 (4 + u) (rfl) (by omega) dX8_load_221 ?_
                          refine mv_bas8 Cx hG hO hH hS isM_32 (32 * j + u) (S2.2.1 1 0 (4 + u)) rfl (rfl) (by omega) dX8_load_222 (fun H locs hH hS => ?_)
                          refine lv_aload_n hx hb dX8_load_223 rfl (lv_at hl 0 rfl) ?_
                          refine g_X8_auth Cx hG hH q_fl_X8_76 dX8_load_224 ?_
                          refine lv_bipush (v := 32) hx hb dX8_load_227 (by decide) ?_
                          refine lv_iload_n hx hb dX8_load_229 rfl (lv_at hl 1 rfl) ?_
                          refine lv_imul hx hb dX8_load_230 ?_
                          refine mv_eqi (x' := nI (32 * j)) (pk_mul 32 j) ?_
                          refine lv_iload hx hb dX8_load_231 (lv_at hl 2 rfl) ?_
                          refine lv_iadd hx hb dX8_load_233 ?_
                          refine mv_eqi (x' := nI (32 * j + u)) (nI_add _ _) ?_
                          refine lv_aload_n hx hb dX8_load_234 rfl (lv_at hl 0 rfl) ?_
                          refine g_X8_tape Cx hG hH q_fl_X8_9 dX8_load_235 ?_
                          refine lv_bipush (v := 36) hx hb dX8_load_238 (by decide) ?_
                          refine lv_iload hx hb dX8_load_240 (lv_at hl 2 rfl) ?_
                          refine lv_iadd hx hb dX8_load_242 ?_
                          refine mv_eqi (x' := nI (36 + u)) (nI_add 36 u) ?_
                          refine mv_bal Cx hG hH isM_1 (36 + u) (rfl) (by omega) dX8_load_243 ?_
                          refine mv_bas8 Cx hG hO hH hS isM_31 (32 * j + u) ((mB S2 32 0 (32 * j + u) (S2.2.1 1 0 (4 + u))).2.1 1 0 (36 + u)) rfl (rfl) (by omega) dX8_load_244 (fun H locs hH hS => ?_)
                          refine lv_iinc (v := nI (u + 1)) (lv' := [(4, .int (nI (u + 1))), (0, .ref (mAdM E 0 0)), (3, .int (nI j))]) hx hb dX8_load_245 hl (k := 2) rfl (i2_1 u) (by decide) rfl (fun ls hl => ?_)
                          refine lv_goto (tgt := 195) hx hb dX8_load_248 (by decide) ?_
                          exact ih2 (u + 1) (mB (mB S2 32 0 (32 * j + u) (S2.2.1 1 0 (4 + u))) 31 0 (32 * j + u) ((mB S2 32 0 (32 * j + u) (S2.2.1 1 0 (4 + u))).2.1 1 0 (36 + u))) _ _ ls  (by omega) (by omega) (⟨fun q hq => by by_cases e : q = u; (rw [e]; exact (show m3 (m3 S2.2.1 32 0 (32 * j + u) (S2.2.1 1 0 (4 + u))) 31 0 (32 * j + u) ((m3 S2.2.1 32 0 (32 * j + u) (S2.2.1 1 0 (4 + u))) 1 0 (36 + u)) 32 0 (32 * j + u) = (m3 S2.2.1 32 0 (32 * j + u) (S2.2.1 1 0 (4 + u))) 32 0 (32 * j + u) from m3_n _ _ (by omega)).trans ((show (m3 S2.2.1 32 0 (32 * j + u) (S2.2.1 1 0 (4 + u))) 32 0 (32 * j + u) = (S2.2.1 1 0 (4 + u)) from m3_s _ _ _ _ _).trans ((hin2.2.2 1 (4 + u) (by omega)).2.1.trans (huf (4 + u) (by omega))))); (exact (show m3 (m3 S2.2.1 32 0 (32 * j + u) (S2.2.1 1 0 (4 + u))) 31 0 (32 * j + u) ((m3 S2.2.1 32 0 (32 * j + u) (S2.2.1 1 0 (4 + u))) 1 0 (36 + u)) 32 0 (32 * j + q) = (m3 S2.2.1 32 0 (32 * j + u) (S2.2.1 1 0 (4 + u))) 32 0 (32 * j + q) from m3_n _ _ (by omega)).trans ((show (m3 S2.2.1 32 0 (32 * j + u) (S2.2.1 1 0 (4 + u))) 32 0 (32 * j + q) = S2.2.1 32 0 (32 * j + q) from m3_n _ _ (by omega)).trans (hin2.1 q (by omega)))), fun q hq => by by_cases e : q = u; (rw [e]; exact (show m3 (m3 S2.2.1 32 0 (32 * j + u) (S2.2.1 1 0 (4 + u))) 31 0 (32 * j + u) ((m3 S2.2.1 32 0 (32 * j + u) (S2.2.1 1 0 (4 + u))) 1 0 (36 + u)) 31 0 (32 * j + u) = ((m3 S2.2.1 32 0 (32 * j + u) (S2.2.1 1 0 (4 + u))) 1 0 (36 + u)) from m3_s _ _ _ _ _).trans ((show (m3 S2.2.1 32 0 (32 * j + u) (S2.2.1 1 0 (4 + u))) 1 0 (36 + u) = S2.2.1 1 0 (36 + u) from m3_n _ _ (by omega)).trans ((hin2.2.2 1 (36 + u) (by omega)).2.1.trans (huf (36 + u) (by omega))))); (exact (show m3 (m3 S2.2.1 32 0 (32 * j + u) (S2.2.1 1 0 (4 + u))) 31 0 (32 * j + u) ((m3 S2.2.1 32 0 (32 * j + u) (S2.2.1 1 0 (4 + u))) 1 0 (36 + u)) 31 0 (32 * j + q) = (m3 S2.2.1 32 0 (32 * j + u) (S2.2.1 1 0 (4 + u))) 31 0 (32 * j + q) from m3_n _ _ (by omega)).trans ((show (m3 S2.2.1 32 0 (32 * j + u) (S2.2.1 1 0 (4 + u))) 31 0 (32 * j + q) = S2.2.1 31 0 (32 * j + q) from m3_n _ _ (by omega)).trans (hin2.2.1 q (by omega)))), (hin2.2.2.tr (nSame.B (X := (fun k q => (k = 31 ∨ k = 32) ∧ 32 * j ≤ q ∧ q < 32 * j + 32)) ⟨Or.inr rfl, by omega, by omega⟩)).tr (nSame.B (X := (fun k q => (k = 31 ∨ k = 32) ∧ 32 * j ≤ q ∧ q < 32 * j + 32)) ⟨Or.inl rfl, by omega, by omega⟩)⟩) hH hS (lv_sub hl [1, 2, 0] rfl)
                    exact lp2 (32 - 0 + 1) 0 (mM S131 30 0 j 1) _ _ ls  (by omega) (by omega) (⟨fun q h => absurd h (Nat.not_lt_zero _), fun q h => absurd h (Nat.not_lt_zero _), nSame.rf⟩) hH hS (lv_sub hl [1, 3, 0] rfl)
                  · skip
                    exact absurd ((nI_eq (b := 4) (by omega) (by decide)).mp h179) (by omega)
                · skip
                  refine lv_iinc (v := nI (j + 1)) (lv' := [(3, .int (nI (j + 1))), (0, .ref (mAdM E 0 0)), (1, .int (nI ts.length))]) hx hb dX8_load_171 hl (k := 2) rfl (i2_1 j) (by decide) rfl (fun ls hl => ?_)
                  refine lv_goto (tgt := 157) hx hb dX8_load_174 (by decide) ?_
                  exact ih (j + 1) S131 _ _ ls  (by omega) (by omega) (⟨rfl, fun q hq => by by_cases e : q = j; (subst e; exact h168); (exact hinv.2 q (by omega))⟩) hH hS (lv_sub hl [1, 2, 0] rfl)
          exact lp (4 - 0 + 1) 0 S131 _ _ ls  (by omega) (by omega) (⟨rfl, fun q h => absurd h (Nat.not_lt_zero _)⟩) hH hS (lv_sub hl [3, 2, 0] rfl)
        · skip
          have hub : ¬ uwB (S.2.1 13 0) ts = true := fun q => h149 (uwB_iff.mp q).2.2.2
          refine lv_bipush (v := (-6 : Int32)) hx hb dX8_load_152 (by decide) ?_
          exact mv_reti Cx hr hH hS ((if_neg hub).symm) (⟨fun _ => hs131, fun q => absurd q hub⟩) dX8_load_154 hlocks
      · skip
        have hub : ¬ uwB (S.2.1 13 0) ts = true := fun q => absurd (hum.trans (uwB_iff.mp q).2.2.1) (b0_of h113)
        refine lv_bipush (v := (-6 : Int32)) hx hb dX8_load_116 (by decide) ?_
        exact mv_reti Cx hr hH hS ((if_neg hub).symm) (⟨fun _ => hs94, fun q => absurd q hub⟩) dX8_load_118 hlocks
    · skip
      have hub : ¬ uwB (S.2.1 13 0) ts = true := fun q => h20 ((nI_leI (b := 229) (by omega) (by decide)).mpr (uwB_iff.mp q).2.1)
      refine lv_bipush (v := (-6 : Int32)) hx hb dX8_load_23 (by decide) ?_
      exact mv_reti Cx hr hH hS ((if_neg hub).symm) (⟨fun _ => nSame.rf, fun q => absurd q hub⟩) dX8_load_25 hlocks
