set_option maxHeartbeats 4000000 in
set_option maxRecDepth 100000 in
theorem X1_finish_w (l : Launch) (E : mEv) (A : Nat → Prop) (hO : mOwn mLC E A) (S : mSt) (k0 i0 n0 : Nat) (hB : mIsB mLC k0 i0 n0) (h32 : 32 ≤ n0) (xs : List Int8) (hxs : bHas S 2 xs) (hle : xs.length ≤ 503) : Met l yX1_finish (Cond.code yX1_finish cX1_finish 3 none :: mv_ws) (mRm 2 47) (mPc mLC E A S [.ref (mAdC E 1 0), .ref (mAdC E k0 i0)]) (mQ mLC E A (fun S' => (∀ j, j < 32 → S'.2.1 k0 i0 j = shaL xs j) ∧ mSame (fun k i => hsX k i ∨ (k = k0 ∧ i = i0)) S S') none) 0 0 A := by
  refine Met.ofW (cc := cX1_finish) (maxL := 3) (ret := none) (by decide) rfl ?_
  intro p e s m args below meth c s₁ B hml hv
  obtain ⟨rfl, hG, hH⟩ := hv
  have hx := B.exec
  have hb := B.bytes
  have hr := B.returns
  have hlocks := B.notSynchronized
  have Cx : CallFix p m c cX1_finish 3 s ([.ref (mAdC E 1 0), .ref (mAdC E k0 i0)] : List Value).toArray (Cond.code yX1_finish cX1_finish 3 none :: mv_ws) RX1 := ⟨hx, hb, hml, findClass_of_methodNamed B.named, atoms_spec (ws := Cond.code yX1_finish cX1_finish 3 none :: mv_ws) B.pre⟩
  have hS : va_S A s.heap s.heap [] := va_S.rf
  obtain ⟨tS, hZS, hTS⟩ := hG.2.2.1
  have hpl := padL_mod hle
  have hl := lv_entry ([.ref (mAdC E 1 0), .ref (mAdC E k0 i0)]) (n := 3) (Nat.le_of_ble_eq_true rfl)
  rw [lg_entry_eq]
  generalize (lg_sl ([.ref (mAdC E 1 0), .ref (mAdC E k0 i0)]) ++ List.replicate (3 - (lg_sl ([.ref (mAdC E 1 0), .ref (mAdC E k0 i0)])).length) Slot.unset).toArray = ls at hl ⊢
  have hl : lv_has ls 3 [(0, .ref (mAdC E 1 0)), (1, .ref (mAdC E k0 i0))] := hl
  refine lv_aload_n hx hb dX1_finish_0 rfl (lv_at hl 0 rfl) ?_
  refine mv_callV (Y := mLC) (C := RX1) (k := 1) (i := 0) (rest := []) Cx hG hH hS (c_X1_padMessage l E A hO S xs hxs hle) q_co_X1_padMessage q_ml_X1_46 q_im_X1_padMessage q_se_X1_padMessage q_in_X1 okC_1 rfl rfl hd_X1_padMessage ⟨Nat.le_of_ble_eq_true rfl, Nat.le_of_ble_eq_true rfl⟩ rfl hl.1 rfl (Nat.le_of_ble_eq_true rfl) ⟨Nat.le_of_ble_eq_true rfl, Nat.le_of_ble_eq_true rfl⟩ dX1_finish_1 (fun Sp H locs hP1 hH hS => ?_)
  refine W.eq (g2 := F0 m 4 ls []) rfl ?_
  refine mv_sta Cx hS hZS q_fl_X1_49 dX1_finish_4 ?_
  refine lv_iconst (v := 0) hx hb dX1_finish_7 (by decide) ?_
  refine lv_aload_n hx hb dX1_finish_8 rfl (lv_at hl 0 rfl) ?_
  refine g_X1_sum Cx hG hH q_fl_X1_20 dX1_finish_9 ?_
  refine lv_iconst (v := 0) hx hb dX1_finish_12 (by decide) ?_
  refine lv_aload_n hx hb dX1_finish_13 rfl (lv_at hl 0 rfl) ?_
  refine g_X1_sum Cx hG hH q_fl_X1_20 dX1_finish_14 ?_
  refine mv_ilen Cx hG hH isC_4 dX1_finish_17 ?_
  refine mv_cpt Cx hG hO hH hS hTS isC_4 8 (rfl) (rfl) (rfl) (by decide) (by decide) q_ml_X1_52 hl.1 (Nat.le_of_ble_eq_true rfl) (by decide) dX1_finish_18 (fun H locs hH hS => ?_)
  refine lv_iconst (v := 0) hx hb dX1_finish_21 (by decide) ?_
  refine mv_eqi (x' := nI (64 * 0)) (rfl) ?_
  refine lv_istore_n (lv' := [(2, .int (nI (64 * 0))), (0, .ref (mAdC E 1 0)), (1, .ref (mAdC E k0 i0))]) hx hb dX1_finish_22 rfl hl (by decide) rfl (fun ls hl => ?_)
  have lp : ∀ (fu b : Nat) (S1 : mSt) (H : Heap) (locs : List Loc) (ls : Array Slot) , ((padL xs).length / 64) - b < fu → b ≤ ((padL xs).length / 64) → ((∀ j, j < 8 → S1.1 4 0 j = shaN (fun q => (padL xs).getD q 0) b j) ∧ bHas S1 2 (padL xs) ∧ mSame hsX S S1) → mHold mLC E S1 H → va_S A s.heap H locs → lv_has ls 3 [(0, .ref (mAdC E 1 0)), (1, .ref (mAdC E k0 i0)), (2, .int (nI (64 * b)))] → W p l e (headSpec (Cond.code yX1_finish cX1_finish 3 none :: mv_ws) (mRm 2 47)).room s m ([.ref (mAdC E 1 0), .ref (mAdC E k0 i0)] : List Value).toArray below meth c H locs 0 0 (MQ below (mQ mLC E A (fun S' => (∀ j, j < 32 → S'.2.1 k0 i0 j = shaL xs j) ∧ mSame (fun k i => hsX k i ∨ (k = k0 ∧ i = i0)) S S') none) ([.ref (mAdC E 1 0), .ref (mAdC E k0 i0)] : List Value).toArray s 0 0 A) (F0 m 23 ls []) := by
    intro fu
    induction fu with
    | zero => intro b S1 H locs ls  hn hj hinv hH hS hl; omega
    | succ fu ih =>
      intro b S1 H locs ls  hn hj hinv hH hS hl
      refine lv_iload_n hx hb dX1_finish_23 rfl (lv_at hl 2 rfl) ?_
      refine lv_aload_n hx hb dX1_finish_24 rfl (lv_at hl 0 rfl) ?_
      refine g_X1_message Cx hG hH q_fl_X1_16 dX1_finish_25 ?_
      refine g_X0_size Cx hG hH (by decide) q_fl_X1_31 dX1_finish_28 ?_
      refine mv_eqi (x' := nI (padL xs).length) (hinv.2.1.1) ?_
      refine lv_icmp_ge (tgt := 49) hx hb dX1_finish_31 (by decide) (fun h31 => ?_) (fun h31 => ?_)
      · skip
        have hb2 : b = ((padL xs).length / 64) := by have := ge_of (a := (padL xs).length) (by omega) (by omega) h31; omega
        refine lv_iconst (v := 0) hx hb dX1_finish_49 (by decide) ?_
        refine mv_eqi (x' := nI 0) (rfl) ?_
        refine lv_istore_n (lv' := [(2, .int (nI 0)), (0, .ref (mAdC E 1 0)), (1, .ref (mAdC E k0 i0))]) hx hb dX1_finish_50 rfl hl (by decide) rfl (fun ls hl => ?_)
        have lp2 : ∀ (fu t : Nat) (S2 : mSt) (H : Heap) (locs : List Loc) (ls : Array Slot) , 8 - t < fu → t ≤ 8 → ((∀ j, j < 4 * t → S2.2.1 k0 i0 j = shaOut (shaN (fun q => (padL xs).getD q 0) ((padL xs).length / 64)) j) ∧ (∀ j, j < 8 → S2.1 4 0 j = shaN (fun q => (padL xs).getD q 0) ((padL xs).length / 64) j) ∧ mSame (fun k i => hsX k i ∨ (k = k0 ∧ i = i0)) S S2) → mHold mLC E S2 H → va_S A s.heap H locs → lv_has ls 3 [(0, .ref (mAdC E 1 0)), (1, .ref (mAdC E k0 i0)), (2, .int (nI t))] → W p l e (headSpec (Cond.code yX1_finish cX1_finish 3 none :: mv_ws) (mRm 2 47)).room s m ([.ref (mAdC E 1 0), .ref (mAdC E k0 i0)] : List Value).toArray below meth c H locs 0 0 (MQ below (mQ mLC E A (fun S' => (∀ j, j < 32 → S'.2.1 k0 i0 j = shaL xs j) ∧ mSame (fun k i => hsX k i ∨ (k = k0 ∧ i = i0)) S S') none) ([.ref (mAdC E 1 0), .ref (mAdC E k0 i0)] : List Value).toArray s 0 0 A) (F0 m 51 ls []) := by
          intro fu
          induction fu with
          | zero => intro t S2 H locs ls  hn2 ht hin2 hH hS hl; omega
          | succ fu ih =>
            intro t S2 H locs ls  hn2 ht hin2 hH hS hl
            refine lv_iload_n hx hb dX1_finish_51 rfl (lv_at hl 2 rfl) ?_
            refine lv_aload_n hx hb dX1_finish_52 rfl (lv_at hl 0 rfl) ?_
            refine g_X1_sum Cx hG hH q_fl_X1_20 dX1_finish_53 ?_
            refine mv_ilen Cx hG hH isC_4 dX1_finish_56 ?_
            refine lv_icmp_ge (tgt := 129) hx hb dX1_finish_57 (by decide) (fun h57 => ?_) (fun h57 => ?_)
            · skip
              have ht8 : t = 8 := by have := ge_of (a := 8) (by decide) (by omega) h57; omega
              exact mv_retv Cx hr hH hS (⟨fun j hj => hin2.1 j (by omega), hin2.2.2⟩) dX1_finish_129 hlocks
            · skip
              have ht8 : t < 8 := lt_of (a := 8) (by decide) (by omega) h57
              refine lv_aload_n hx hb dX1_finish_60 rfl (lv_at hl 1 rfl) ?_
              refine lv_iconst (v := 4) hx hb dX1_finish_61 (by decide) ?_
              refine lv_iload_n hx hb dX1_finish_62 rfl (lv_at hl 2 rfl) ?_
              refine lv_imul hx hb dX1_finish_63 ?_
              refine mv_eqi (x' := nI (4 * t)) (pk_mul 4 t) ?_
              refine lv_aload_n hx hb dX1_finish_64 rfl (lv_at hl 0 rfl) ?_
              refine g_X1_sum Cx hG hH q_fl_X1_20 dX1_finish_65 ?_
              refine lv_iload_n hx hb dX1_finish_68 rfl (lv_at hl 2 rfl) ?_
              refine mv_ial Cx hG hH isC_4 t (rfl) (ht8) dX1_finish_69 ?_
              refine lv_bipush (v := 24) hx hb dX1_finish_70 (by decide) ?_
              refine lv_iushr hx hb dX1_finish_72 rfl ?_
              refine lv_i2b hx hb dX1_finish_73 rfl ?_
              refine mv_bas8 Cx hG hO hH hS hB (4 * t) ((((S2.1 4 0 t).toUInt32 >>> ((24 : Int32).toUInt32 &&& Int32.toUInt32 31)).toInt32).toInt8) rfl (rfl) (by omega) dX1_finish_74 (fun H locs hH hS => ?_)
              refine lv_aload_n hx hb dX1_finish_75 rfl (lv_at hl 1 rfl) ?_
              refine lv_iconst (v := 4) hx hb dX1_finish_76 (by decide) ?_
              refine lv_iload_n hx hb dX1_finish_77 rfl (lv_at hl 2 rfl) ?_
              refine lv_imul hx hb dX1_finish_78 ?_
              refine mv_eqi (x' := nI (4 * t)) (pk_mul 4 t) ?_
              refine lv_iconst (v := 1) hx hb dX1_finish_79 (by decide) ?_
              refine lv_iadd hx hb dX1_finish_80 ?_
              refine mv_eqi (x' := nI (4 * t + 1)) (nI_add (4 * t) 1) ?_
              refine lv_aload_n hx hb dX1_finish_81 rfl (lv_at hl 0 rfl) ?_
              refine g_X1_sum Cx hG hH q_fl_X1_20 dX1_finish_82 ?_
              refine lv_iload_n hx hb dX1_finish_85 rfl (lv_at hl 2 rfl) ?_
              refine mv_ial Cx hG hH isC_4 t (rfl) (ht8) dX1_finish_86 ?_
              refine mv_eqi (x' := S2.1 4 0 t) (rfl) ?_
              refine lv_bipush (v := 16) hx hb dX1_finish_87 (by decide) ?_
              refine lv_iushr hx hb dX1_finish_89 rfl ?_
              refine lv_i2b hx hb dX1_finish_90 rfl ?_
              refine mv_bas8 Cx hG hO hH hS hB (4 * t + 1) ((((S2.1 4 0 t).toUInt32 >>> ((16 : Int32).toUInt32 &&& Int32.toUInt32 31)).toInt32).toInt8) rfl (rfl) (by omega) dX1_finish_91 (fun H locs hH hS => ?_)
              refine lv_aload_n hx hb dX1_finish_92 rfl (lv_at hl 1 rfl) ?_
              refine lv_iconst (v := 4) hx hb dX1_finish_93 (by decide) ?_
              refine lv_iload_n hx hb dX1_finish_94 rfl (lv_at hl 2 rfl) ?_
              refine lv_imul hx hb dX1_finish_95 ?_
              refine mv_eqi (x' := nI (4 * t)) (pk_mul 4 t) ?_
              refine lv_iconst (v := 2) hx hb dX1_finish_96 (by decide) ?_
              refine lv_iadd hx hb dX1_finish_97 ?_
              refine mv_eqi (x' := nI (4 * t + 2)) (nI_add (4 * t) 2) ?_
              refine lv_aload_n hx hb dX1_finish_98 rfl (lv_at hl 0 rfl) ?_
              refine g_X1_sum Cx hG hH q_fl_X1_20 dX1_finish_99 ?_
              refine lv_iload_n hx hb dX1_finish_102 rfl (lv_at hl 2 rfl) ?_
              refine mv_ial Cx hG hH isC_4 t (rfl) (ht8) dX1_finish_103 ?_
              refine mv_eqi (x' := S2.1 4 0 t) (rfl) ?_
              refine lv_bipush (v := 8) hx hb dX1_finish_104 (by decide) ?_
              refine lv_iushr hx hb dX1_finish_106 rfl ?_
              refine lv_i2b hx hb dX1_finish_107 rfl ?_
              refine mv_bas8 Cx hG hO hH hS hB (4 * t + 2) ((((S2.1 4 0 t).toUInt32 >>> ((8 : Int32).toUInt32 &&& Int32.toUInt32 31)).toInt32).toInt8) rfl (rfl) (by omega) dX1_finish_108 (fun H locs hH hS => ?_)
              refine lv_aload_n hx hb dX1_finish_109 rfl (lv_at hl 1 rfl) ?_
              refine lv_iconst (v := 4) hx hb dX1_finish_110 (by decide) ?_
              refine lv_iload_n hx hb dX1_finish_111 rfl (lv_at hl 2 rfl) ?_
              refine lv_imul hx hb dX1_finish_112 ?_
              refine mv_eqi (x' := nI (4 * t)) (pk_mul 4 t) ?_
              refine lv_iconst (v := 3) hx hb dX1_finish_113 (by decide) ?_
              refine lv_iadd hx hb dX1_finish_114 ?_
              refine mv_eqi (x' := nI (4 * t + 3)) (nI_add (4 * t) 3) ?_
              refine lv_aload_n hx hb dX1_finish_115 rfl (lv_at hl 0 rfl) ?_
              refine g_X1_sum Cx hG hH q_fl_X1_20 dX1_finish_116 ?_
              refine lv_iload_n hx hb dX1_finish_119 rfl (lv_at hl 2 rfl) ?_
              refine mv_ial Cx hG hH isC_4 t (rfl) (ht8) dX1_finish_120 ?_
              refine mv_eqi (x' := S2.1 4 0 t) (rfl) ?_
              refine lv_i2b hx hb dX1_finish_121 rfl ?_
              refine mv_bas8 Cx hG hO hH hS hB (4 * t + 3) ((S2.1 4 0 t).toInt8) rfl (rfl) (by omega) dX1_finish_122 (fun H locs hH hS => ?_)
              refine lv_iinc (v := nI (t + 1)) (lv' := [(2, .int (nI (t + 1))), (0, .ref (mAdC E 1 0)), (1, .ref (mAdC E k0 i0))]) hx hb dX1_finish_123 hl (k := 2) rfl (i2_1 t) (by decide) rfl (fun ls hl => ?_)
              refine lv_goto (tgt := 51) hx hb dX1_finish_126 (by decide) ?_
              exact ih (t + 1) (mB (mB (mB (mB S2 k0 i0 (4 * t) ((((S2.1 4 0 t).toUInt32 >>> ((24 : Int32).toUInt32 &&& Int32.toUInt32 31)).toInt32).toInt8)) k0 i0 (4 * t + 1) ((((S2.1 4 0 t).toUInt32 >>> ((16 : Int32).toUInt32 &&& Int32.toUInt32 31)).toInt32).toInt8)) k0 i0 (4 * t + 2) ((((S2.1 4 0 t).toUInt32 >>> ((8 : Int32).toUInt32 &&& Int32.toUInt32 31)).toInt32).toInt8)) k0 i0 (4 * t + 3) ((S2.1 4 0 t).toInt8)) _ _ ls  (by omega) (by omega) (⟨shaOut_fill (hin2.2.1 t (by omega)) hin2.1, fun j hj => hin2.2.1 j hj, hin2.2.2.tr ((((mSame.B (Or.inr ⟨rfl, rfl⟩)).tr (mSame.B (Or.inr ⟨rfl, rfl⟩))).tr (mSame.B (Or.inr ⟨rfl, rfl⟩))).tr (mSame.B (Or.inr ⟨rfl, rfl⟩)))⟩) hH hS (lv_sub hl [1, 2, 0] rfl)
        exact lp2 (8 - 0 + 1) 0 S1 _ _ ls  (by omega) (by omega) (⟨fun j hj => absurd hj (by omega), by rw [hb2] at hinv; exact hinv.1, hinv.2.2.wk (fun _ _ h => Or.inl h)⟩) hH hS (lv_sub hl [1, 2, 0] rfl)
      · skip
        have hb2 : b < ((padL xs).length / 64) := by have := lt_of (a := (padL xs).length) (by omega) (by omega) h31; omega
        refine lv_aload_n hx hb dX1_finish_34 rfl (lv_at hl 0 rfl) ?_
        refine lv_iload_n hx hb dX1_finish_35 rfl (lv_at hl 2 rfl) ?_
        refine mv_callV (Y := mLC) (C := RX1) (k := 1) (i := 0) (rest := []) Cx hG hH hS (c_X1_spreadBlock l E A hO S1 (64 * b) (by omega)) q_co_X1_spreadBlock q_ml_X1_58 q_im_X1_spreadBlock q_se_X1_spreadBlock q_in_X1 okC_1 rfl rfl hd_X1_spreadBlock ⟨Nat.le_of_ble_eq_true rfl, Nat.le_of_ble_eq_true rfl⟩ rfl hl.1 rfl (Nat.le_of_ble_eq_true rfl) ⟨Nat.le_of_ble_eq_true rfl, Nat.le_of_ble_eq_true rfl⟩ dX1_finish_36 (fun S36 H locs hP36 hH hS => ?_)
        refine W.eq (g2 := F0 m 39 ls []) rfl ?_
        refine lv_aload_n hx hb dX1_finish_39 rfl (lv_at hl 0 rfl) ?_
        refine mv_callV (Y := mLC) (C := RX1) (k := 1) (i := 0) (rest := []) Cx hG hH hS (c_X1_mixBlock l E A hO S36) q_co_X1_mixBlock q_ml_X1_61 q_im_X1_mixBlock q_se_X1_mixBlock q_in_X1 okC_1 rfl rfl hd_X1_mixBlock ⟨Nat.le_of_ble_eq_true rfl, Nat.le_of_ble_eq_true rfl⟩ rfl hl.1 rfl (Nat.le_of_ble_eq_true rfl) ⟨Nat.le_of_ble_eq_true rfl, Nat.le_of_ble_eq_true rfl⟩ dX1_finish_40 (fun S40 H locs hP40 hH hS => ?_)
        refine W.eq (g2 := F0 m 43 ls []) rfl ?_
        refine lv_iinc (v := nI (64 * (b + 1))) (lv' := [(2, .int (nI (64 * (b + 1)))), (0, .ref (mAdC E 1 0)), (1, .ref (mAdC E k0 i0))]) hx hb dX1_finish_43 hl (k := 2) rfl (by rw [show Int32.ofInt 64 = nI 64 from rfl, nI_add]; rfl) (by decide) rfl (fun ls hl => ?_)
        refine lv_goto (tgt := 23) hx hb dX1_finish_46 (by decide) ?_
        exact ih (b + 1) S40 _ _ ls  (by omega) (by omega) (⟨shaN_step (f := S1.2.1 3 2) (h := fun q => S36.1 4 0 q) (w := fun q => S36.1 5 0 q) (fun j hj => ((hP36.2 4 0 (by decide)).1 j).trans (hinv.1 j hj)) (fun j hj => hP36.1 j (by omega)) (fun j h1 h2 => hinv.2.1.2.2 j (by omega)) hP40.1, (hinv.2.1.keep (X := fun k _ => k = 4 ∨ k = 5) ((hP36.2.wk (fun _ _ h => Or.inr h)).tr (hP40.2.wk (fun _ _ h => Or.inl h))) (by decide) (by decide)), (hinv.2.2.tr (hP36.2.wk (fun _ _ h => Or.inr (Or.inr h)))).tr (hP40.2.wk (fun _ _ h => Or.inr (Or.inl h)))⟩) hH hS (lv_sub hl [1, 2, 0] rfl)
  exact lp (((padL xs).length / 64) - 0 + 1) 0 (mAM Sp 4 0 (va_cpy mI (Sp.1 4 0) 0 0 8)) _ _ ls  (by omega) (by omega) (⟨fun j hj => (show mA Sp.1 4 0 (va_cpy mI (Sp.1 4 0) 0 0 8) 4 0 j = mI j by rw [mA, if_pos ⟨rfl, rfl⟩]; exact mW_cpy8 hj), hP1.1.keep (X := fun k _ => k = 4) (mSame.AM rfl) (by decide) (by decide), (hP1.2.wk (fun _ _ h => Or.inl h)).tr (mSame.AM (Or.inr (Or.inl rfl)))⟩) hH hS (lv_sub hl [1, 2, 0] rfl)

/-! ===== the vault's public methods: values ===== -/
def wtOk (x : Int32) (dn n : Nat) : Prop := ¬ x < 0 ∧ ¬ nI dn < x ∧ nI n ≤ nI dn - x
def wtS (W : mSt) (i : Nat) (x : Int32) (n : Nat) : mSt := mM (mAB W 3 (3 + (4 + i)) (va_cpy (W.2.1 3 0) (W.2.1 3 (3 + (4 + i))) 0 x.toNatClampNeg n)) 26 i 2 1
def coN (W : mSt) (i : Nat) : Int64 := (if W.1 26 i 2 = 0 then W.2.2 0 0 12 else W.2.2 26 i 4) + 1
set_option maxHeartbeats 4000000 in
set_option maxRecDepth 100000 in
theorem X7_writeTape_n0 (l : Launch) (E : mEv) (A : Nat → Prop) (hO : mOwn mLC E A) (S : mSt) (x y : Int32) : Met l yX7_writeTape (Cond.code yX7_writeTape cX7_writeTape 6 (some .int) :: mv_ws) (mRm 0 0) (mPc mLC E A S [.ref (mAdC E 0 0), .null, .int x, .int y]) (mQ mLC E A (fun S' => S' = S) (some (.int (-2)))) 0 0 A := by
  refine Met.ofW (cc := cX7_writeTape) (maxL := 6) (ret := (some .int)) (by decide) rfl ?_
  intro p e s m args below meth c s₁ B hml hv
  obtain ⟨rfl, hG, hH⟩ := hv
  have hx := B.exec
  have hb := B.bytes
  have hr := B.returns
  have hlocks := B.notSynchronized
  have Cx : CallFix p m c cX7_writeTape 6 s ([.ref (mAdC E 0 0), .null, .int x, .int y] : List Value).toArray (Cond.code yX7_writeTape cX7_writeTape 6 (some .int) :: mv_ws) RX7 := ⟨hx, hb, hml, findClass_of_methodNamed B.named, atoms_spec (ws := Cond.code yX7_writeTape cX7_writeTape 6 (some .int) :: mv_ws) B.pre⟩
  have hS : va_S A s.heap s.heap [] := va_S.rf
  have hl := lv_entry ([.ref (mAdC E 0 0), .null, .int x, .int y]) (n := 6) (Nat.le_of_ble_eq_true rfl)
  rw [lg_entry_eq]
  generalize (lg_sl ([.ref (mAdC E 0 0), .null, .int x, .int y]) ++ List.replicate (6 - (lg_sl ([.ref (mAdC E 0 0), .null, .int x, .int y])).length) Slot.unset).toArray = ls at hl ⊢
  have hl : lv_has ls 6 [(0, .ref (mAdC E 0 0)), (1, .null), (2, .int x), (3, .int y)] := hl
  refine lv_aload_nN hx hb dX7_writeTape_0 rfl (lv_at hl 1 rfl) ?_
  refine lv_ifnonnullN hx hb dX7_writeTape_1 ?_
  refine lv_bipush (v := (-2 : Int32)) hx hb dX7_writeTape_4 (by decide) ?_
  exact mv_reti Cx hr hH hS (rfl) (rfl) dX7_writeTape_6 hlocks

set_option maxHeartbeats 4000000 in
set_option maxRecDepth 100000 in
theorem c_X7_writeTape (l : Launch) (E : mEv) (A : Nat → Prop) (hO : mOwn mLC E A) (S : mSt) (i : Nat) (hi : i < 8) (x y : Int32) (dn : Nat) (hdn : S.1 2 (3 + (4 + i)) 1 = nI dn) (hd64 : dn ≤ 64) (ts : List Int8) (hts : bHas S 0 ts) : Met l yX7_writeTape (Cond.code yX7_writeTape cX7_writeTape 6 (some .int) :: mv_ws) (mRm 5 113) (mPc mLC E A S [.ref (mAdC E 0 0), .ref (mAdC E 26 i), .int x, .int y]) (mQ mLC E A (fun S' => ((¬ x < 0 ∧ ¬ nI dn < x ∧ nI ts.length ≤ nI dn - x) → S' = if (acP S i y 2).1 = 0 then wtS (acP S i y 2).2 i x ts.length else (acP S i y 2).2) ∧ (¬ (¬ x < 0 ∧ ¬ nI dn < x ∧ nI ts.length ≤ nI dn - x) → S' = S)) (some (.int (if (¬ x < 0 ∧ ¬ nI dn < x ∧ nI ts.length ≤ nI dn - x) then (acP S i y 2).1 else -1)))) 0 0 A := by
  refine Met.ofW (cc := cX7_writeTape) (maxL := 6) (ret := (some .int)) (by decide) rfl ?_
  intro p e s m args below meth c s₁ B hml hv
  obtain ⟨rfl, hG, hH⟩ := hv
  have hx := B.exec
  have hb := B.bytes
  have hr := B.returns
  have hlocks := B.notSynchronized
  have Cx : CallFix p m c cX7_writeTape 6 s ([.ref (mAdC E 0 0), .ref (mAdC E 26 i), .int x, .int y] : List Value).toArray (Cond.code yX7_writeTape cX7_writeTape 6 (some .int) :: mv_ws) RX7 := ⟨hx, hb, hml, findClass_of_methodNamed B.named, atoms_spec (ws := Cond.code yX7_writeTape cX7_writeTape 6 (some .int) :: mv_ws) B.pre⟩
  have hS : va_S A s.heap s.heap [] := va_S.rf
  have hlen := hts.2.1
  rw [mLn_0] at hlen
  have hl := lv_entry ([.ref (mAdC E 0 0), .ref (mAdC E 26 i), .int x, .int y]) (n := 6) (Nat.le_of_ble_eq_true rfl)
  rw [lg_entry_eq]
  generalize (lg_sl ([.ref (mAdC E 0 0), .ref (mAdC E 26 i), .int x, .int y]) ++ List.replicate (6 - (lg_sl ([.ref (mAdC E 0 0), .ref (mAdC E 26 i), .int x, .int y])).length) Slot.unset).toArray = ls at hl ⊢
  have hl : lv_has ls 6 [(0, .ref (mAdC E 0 0)), (1, .ref (mAdC E 26 i)), (2, .int x), (3, .int y)] := hl
  refine lv_aload_n hx hb dX7_writeTape_0 rfl (lv_at hl 1 rfl) ?_
  refine lv_ifnonnull (tgt := 7) hx hb dX7_writeTape_1 (by decide) ?_
  refine lv_aload_n hx hb dX7_writeTape_7 rfl (lv_at hl 1 rfl) ?_
  refine g_X6_thing Cx hG hH hi q_fl_X7_206 dX7_writeTape_8 ?_
  refine g_X5_data Cx hG hH (by have := hi; omega) q_fl_X7_196 dX7_writeTape_11 ?_
  refine lv_astore (lv' := [(4, .ref (mAdC E 2 (3 + (4 + i)))), (0, .ref (mAdC E 0 0)), (1, .ref (mAdC E 26 i)), (2, .int x), (3, .int y)]) hx hb dX7_writeTape_14 hl (by decide) rfl (fun ls hl => ?_)
  refine lv_iload_n hx hb dX7_writeTape_16 rfl (lv_at hl 3 rfl) ?_
  refine lv_if_lt (tgt := 46) hx hb dX7_writeTape_17 (by decide) (fun h17 => ?_) (fun h17 => ?_)
  · skip
    refine lv_iconst (v := (-1 : Int32)) hx hb dX7_writeTape_46 (by decide) ?_
    exact mv_reti Cx hr hH hS ((if_neg (fun z => z.1 h17)).symm) (⟨fun z => absurd z (fun z => z.1 h17), fun _ => rfl⟩) dX7_writeTape_47 hlocks
  · skip
    refine lv_iload_n hx hb dX7_writeTape_20 rfl (lv_at hl 3 rfl) ?_
    refine lv_aload hx hb dX7_writeTape_21 (lv_at hl 0 rfl) ?_
    refine g_X0_size Cx hG hH (by omega) q_fl_X7_89 dX7_writeTape_23 ?_
    refine mv_eqi (x' := nI dn) (hdn) ?_
    refine lv_icmp_gt (tgt := 46) hx hb dX7_writeTape_26 (by decide) (fun h26 => ?_) (fun h26 => ?_)
    · skip
      refine lv_iconst (v := (-1 : Int32)) hx hb dX7_writeTape_46 (by decide) ?_
      exact mv_reti Cx hr hH hS ((if_neg (fun z => z.2.1 h26)).symm) (⟨fun z => absurd z (fun z => z.2.1 h26), fun _ => rfl⟩) dX7_writeTape_47 hlocks
    · skip
      refine lv_aload_n hx hb dX7_writeTape_29 rfl (lv_at hl 1 rfl) ?_
      refine g_X7_tape Cx hG hH q_fl_X7_30 dX7_writeTape_30 ?_
      refine g_X0_size Cx hG hH (by decide) q_fl_X7_89 dX7_writeTape_33 ?_
      refine mv_eqi (x' := nI ts.length) (hts.1) ?_
      refine lv_aload hx hb dX7_writeTape_36 (lv_at hl 0 rfl) ?_
      refine g_X0_size Cx hG hH (by omega) q_fl_X7_89 dX7_writeTape_38 ?_
      refine mv_eqi (x' := nI dn) (hdn) ?_
      refine lv_iload_n hx hb dX7_writeTape_41 rfl (lv_at hl 3 rfl) ?_
      refine lv_isub hx hb dX7_writeTape_42 ?_
      refine mv_eqi (x' := nI dn - x) (rfl) ?_
      refine lv_icmp_le (tgt := 48) hx hb dX7_writeTape_43 (by decide) (fun h43 => ?_) (fun h43 => ?_)
      · skip
        obtain ⟨a, ha, hxa⟩ := nI_of_le (n := dn) (by omega) h17 (Int32.not_lt.mp h26)
        have hsum : ts.length + a ≤ dn := by have h := h43; rw [hxa, pk_sub ha] at h; have := (nI_leI (by omega) (by omega)).mp h; omega
        have hok : wtOk x dn ts.length := ⟨h17, h26, h43⟩
        refine lv_aload_n hx hb dX7_writeTape_48 rfl (lv_at hl 1 rfl) ?_
        refine lv_aload_n hx hb dX7_writeTape_49 rfl (lv_at hl 2 rfl) ?_
        refine lv_iload_n hx hb dX7_writeTape_50 rfl (lv_at hl 4 rfl) ?_
        refine lv_iconst (v := 2) hx hb dX7_writeTape_51 (by decide) ?_
        refine mv_callV (Y := mLC) (C := RX7) (k := 0) (i := 0) (rest := []) Cx hG hH hS (c_X7_askToChange l E A hO S i hi y 2) q_co_X7_askToChange q_ml_X7_235 q_im_X7_askToChange q_se_X7_askToChange q_in_X7 okC_0 rfl rfl hd_X7_askToChange ⟨Nat.le_of_ble_eq_true rfl, Nat.le_of_ble_eq_true rfl⟩ rfl hl.1 rfl (Nat.le_of_ble_eq_true rfl) ⟨Nat.le_of_ble_eq_true rfl, Nat.le_of_ble_eq_true rfl⟩ dX7_writeTape_52 (fun S52 H locs hP52 hH hS => ?_)
        refine W.eq (g2 := F0 m 55 ls [.int ((acP S i y 2).1)]) rfl ?_
        refine lv_istore (lv' := [(5, .int ((acP S i y 2).1)), (4, .ref (mAdC E 2 (3 + (4 + i)))), (0, .ref (mAdC E 0 0)), (1, .ref (mAdC E 26 i)), (2, .int x), (3, .int y)]) hx hb dX7_writeTape_55 hl (by decide) rfl (fun ls hl => ?_)
        refine lv_iload hx hb dX7_writeTape_57 (lv_at hl 0 rfl) ?_
        refine lv_if_eq (tgt := 65) hx hb dX7_writeTape_59 (by decide) (fun h59 => ?_) (fun h59 => ?_)
        · skip
          have hts52 : bHas S52 0 ts := by rw [hP52]; exact hts.keep (acP_same S i y 2) (by decide) (by decide)
          refine lv_aload_n hx hb dX7_writeTape_65 rfl (lv_at hl 2 rfl) ?_
          refine g_X7_tape Cx hG hH q_fl_X7_30 dX7_writeTape_66 ?_
          refine g_X0_held Cx hG hH (by decide) q_fl_X7_93 dX7_writeTape_69 ?_
          refine lv_iconst (v := 0) hx hb dX7_writeTape_72 (by decide) ?_
          refine lv_aload hx hb dX7_writeTape_73 (lv_at hl 1 rfl) ?_
          refine g_X0_held Cx hG hH (by omega) q_fl_X7_93 dX7_writeTape_75 ?_
          refine lv_iload_n hx hb dX7_writeTape_78 rfl (lv_at hl 4 rfl) ?_
          refine mv_eqi (x' := nI a) (hxa) ?_
          refine lv_aload_n hx hb dX7_writeTape_79 rfl (lv_at hl 2 rfl) ?_
          refine g_X7_tape Cx hG hH q_fl_X7_30 dX7_writeTape_80 ?_
          refine g_X0_size Cx hG hH (by decide) q_fl_X7_89 dX7_writeTape_83 ?_
          refine mv_eqi (x' := nI ts.length) (hts52.1) ?_
          refine mv_cpb Cx hG hO hH hS (isC_3 (by decide)) (isC_3 (by omega)) 0 a ts.length (rfl) (rfl) (rfl) (by rw [mLn_0]; omega) (by rw [mLn_v hi]; omega) q_ml_X7_309 hl.1 (Nat.le_of_ble_eq_true rfl) (by decide) dX7_writeTape_86 (fun H locs hH hS => ?_)
          refine lv_aload_n hx hb dX7_writeTape_89 rfl (lv_at hl 3 rfl) ?_
          refine lv_iconst (v := 1) hx hb dX7_writeTape_90 (by decide) ?_
          refine p_X6_written Cx hG hO hH hS hi (Or.inr rfl) q_fl_X7_238 dX7_writeTape_91 (fun H locs hH hS => ?_)
          refine lv_iconst (v := 0) hx hb dX7_writeTape_94 (by decide) ?_
          exact mv_reti Cx hr hH hS (by rw [if_pos (show ¬ x < 0 ∧ ¬ nI dn < x ∧ nI ts.length ≤ nI dn - x from hok), h59]) (⟨fun _ => by (rw [if_pos h59, wtS, hxa, nI_clamp (by omega), ← hP52]), fun z => absurd hok z⟩) dX7_writeTape_95 hlocks
        · skip
          refine lv_iload hx hb dX7_writeTape_62 (lv_at hl 0 rfl) ?_
          exact mv_reti Cx hr hH hS ((if_pos hok).symm) (⟨fun _ => by (rw [if_neg h59]; exact hP52), fun z => absurd hok z⟩) dX7_writeTape_64 hlocks
      · skip
        refine lv_iconst (v := (-1 : Int32)) hx hb dX7_writeTape_46 (by decide) ?_
        exact mv_reti Cx hr hH hS ((if_neg (fun z => h43 z.2.2)).symm) (⟨fun z => absurd z (fun z => h43 z.2.2), fun _ => rfl⟩) dX7_writeTape_47 hlocks

set_option maxHeartbeats 4000000 in
set_option maxRecDepth 100000 in
theorem X7_chainTape_n0 (l : Launch) (E : mEv) (A : Nat → Prop) (hO : mOwn mLC E A) (S : mSt) (y : Int32) : Met l yX7_chainTape (Cond.code yX7_chainTape cX7_chainTape 6 (some .int) :: mv_ws) (mRm 0 0) (mPc mLC E A S [.ref (mAdC E 0 0), .null, .int y]) (mQ mLC E A (fun S' => S' = S) (some (.int (-2)))) 0 0 A := by
  refine Met.ofW (cc := cX7_chainTape) (maxL := 6) (ret := (some .int)) (by decide) rfl ?_
  intro p e s m args below meth c s₁ B hml hv
  obtain ⟨rfl, hG, hH⟩ := hv
  have hx := B.exec
  have hb := B.bytes
  have hr := B.returns
  have hlocks := B.notSynchronized
  have Cx : CallFix p m c cX7_chainTape 6 s ([.ref (mAdC E 0 0), .null, .int y] : List Value).toArray (Cond.code yX7_chainTape cX7_chainTape 6 (some .int) :: mv_ws) RX7 := ⟨hx, hb, hml, findClass_of_methodNamed B.named, atoms_spec (ws := Cond.code yX7_chainTape cX7_chainTape 6 (some .int) :: mv_ws) B.pre⟩
  have hS : va_S A s.heap s.heap [] := va_S.rf
  have hl := lv_entry ([.ref (mAdC E 0 0), .null, .int y]) (n := 6) (Nat.le_of_ble_eq_true rfl)
  rw [lg_entry_eq]
  generalize (lg_sl ([.ref (mAdC E 0 0), .null, .int y]) ++ List.replicate (6 - (lg_sl ([.ref (mAdC E 0 0), .null, .int y])).length) Slot.unset).toArray = ls at hl ⊢
  have hl : lv_has ls 6 [(0, .ref (mAdC E 0 0)), (1, .null), (2, .int y)] := hl
  refine lv_aload_nN hx hb dX7_chainTape_0 rfl (lv_at hl 1 rfl) ?_
  refine lv_ifnonnullN hx hb dX7_chainTape_1 ?_
  refine lv_bipush (v := (-2 : Int32)) hx hb dX7_chainTape_4 (by decide) ?_
  exact mv_reti Cx hr hH hS (rfl) (rfl) dX7_chainTape_6 hlocks

set_option maxHeartbeats 4000000 in
set_option maxRecDepth 100000 in
theorem c_X7_chainTape (l : Launch) (E : mEv) (A : Nat → Prop) (hO : mOwn mLC E A) (S : mSt) (i : Nat) (hi : i < 8) (y : Int32) (ts : List Int8) (hts : bHas S 0 ts) : Met l yX7_chainTape (Cond.code yX7_chainTape cX7_chainTape 6 (some .int) :: mv_ws) (mRm 5 113) (mPc mLC E A S [.ref (mAdC E 0 0), .ref (mAdC E 26 i), .int y]) (mQ mLC E A (fun S' => ((acP S i y 4).1 = 0 → ∃ S1, S' = mM S1 26 i 2 1 ∧ (∀ j, j < 32 → S1.2.1 3 (3 + (4 + i)) j = shaL (mTk ((acP S i y 4).2.2.1 3 (3 + (4 + i))) 32 ++ ts) j) ∧ mSame (fun k i' => scX k i' ∨ (k = 3 ∧ i' = (3 + (4 + i)))) (acP S i y 4).2 S1) ∧ (¬ (acP S i y 4).1 = 0 → S' = (acP S i y 4).2)) (some (.int (acP S i y 4).1))) 0 0 A := by
  refine Met.ofW (cc := cX7_chainTape) (maxL := 6) (ret := (some .int)) (by decide) rfl ?_
  intro p e s m args below meth c s₁ B hml hv
  obtain ⟨rfl, hG, hH⟩ := hv
  have hx := B.exec
  have hb := B.bytes
  have hr := B.returns
  have hlocks := B.notSynchronized
  have Cx : CallFix p m c cX7_chainTape 6 s ([.ref (mAdC E 0 0), .ref (mAdC E 26 i), .int y] : List Value).toArray (Cond.code yX7_chainTape cX7_chainTape 6 (some .int) :: mv_ws) RX7 := ⟨hx, hb, hml, findClass_of_methodNamed B.named, atoms_spec (ws := Cond.code yX7_chainTape cX7_chainTape 6 (some .int) :: mv_ws) B.pre⟩
  have hS : va_S A s.heap s.heap [] := va_S.rf
  have hlen := hts.2.1
  rw [mLn_0] at hlen
  have hl := lv_entry ([.ref (mAdC E 0 0), .ref (mAdC E 26 i), .int y]) (n := 6) (Nat.le_of_ble_eq_true rfl)
  rw [lg_entry_eq]
  generalize (lg_sl ([.ref (mAdC E 0 0), .ref (mAdC E 26 i), .int y]) ++ List.replicate (6 - (lg_sl ([.ref (mAdC E 0 0), .ref (mAdC E 26 i), .int y])).length) Slot.unset).toArray = ls at hl ⊢
  have hl : lv_has ls 6 [(0, .ref (mAdC E 0 0)), (1, .ref (mAdC E 26 i)), (2, .int y)] := hl
  refine lv_aload_n hx hb dX7_chainTape_0 rfl (lv_at hl 1 rfl) ?_
  refine lv_ifnonnull (tgt := 7) hx hb dX7_chainTape_1 (by decide) ?_
  refine lv_aload_n hx hb dX7_chainTape_7 rfl (lv_at hl 0 rfl) ?_
  refine lv_aload_n hx hb dX7_chainTape_8 rfl (lv_at hl 1 rfl) ?_
  refine lv_iload_n hx hb dX7_chainTape_9 rfl (lv_at hl 2 rfl) ?_
  refine lv_iconst (v := 4) hx hb dX7_chainTape_10 (by decide) ?_
  refine mv_callV (Y := mLC) (C := RX7) (k := 0) (i := 0) (rest := []) Cx hG hH hS (c_X7_askToChange l E A hO S i hi y 4) q_co_X7_askToChange q_ml_X7_235 q_im_X7_askToChange q_se_X7_askToChange q_in_X7 okC_0 rfl rfl hd_X7_askToChange ⟨Nat.le_of_ble_eq_true rfl, Nat.le_of_ble_eq_true rfl⟩ rfl hl.1 rfl (Nat.le_of_ble_eq_true rfl) ⟨Nat.le_of_ble_eq_true rfl, Nat.le_of_ble_eq_true rfl⟩ dX7_chainTape_11 (fun S11 H locs hP11 hH hS => ?_)
  refine W.eq (g2 := F0 m 14 ls [.int ((acP S i y 4).1)]) rfl ?_
  refine lv_istore_n (lv' := [(3, .int ((acP S i y 4).1)), (0, .ref (mAdC E 0 0)), (1, .ref (mAdC E 26 i)), (2, .int y)]) hx hb dX7_chainTape_14 rfl hl (by decide) rfl (fun ls hl => ?_)
  refine lv_iload_n hx hb dX7_chainTape_15 rfl (lv_at hl 0 rfl) ?_
  refine lv_if_eq (tgt := 21) hx hb dX7_chainTape_16 (by decide) (fun h16 => ?_) (fun h16 => ?_)
  · skip
    have hts11 : bHas S11 0 ts := by rw [hP11]; exact hts.keep (acP_same S i y 4) (by decide) (by decide)
    refine lv_aload_n hx hb dX7_chainTape_21 rfl (lv_at hl 2 rfl) ?_
    refine g_X6_thing Cx hG hH hi q_fl_X7_206 dX7_chainTape_22 ?_
    refine g_X5_data Cx hG hH (by have := hi; omega) q_fl_X7_196 dX7_chainTape_25 ?_
    refine g_X0_held Cx hG hH (by omega) q_fl_X7_93 dX7_chainTape_28 ?_
    refine lv_astore (lv' := [(4, .ref (mAdC E 3 (3 + (4 + i)))), (3, .int ((acP S i y 4).1)), (0, .ref (mAdC E 0 0)), (1, .ref (mAdC E 26 i)), (2, .int y)]) hx hb dX7_chainTape_31 hl (by decide) rfl (fun ls hl => ?_)
    refine lv_aload_n hx hb dX7_chainTape_33 rfl (lv_at hl 2 rfl) ?_
    refine g_X7_hasher Cx hG hH q_fl_X7_10 dX7_chainTape_34 ?_
    refine mv_callV (Y := mLC) (C := RX1) (k := 1) (i := 0) (rest := []) Cx hG hH hS (c_X1_begin l E A hO S11) q_co_X1_begin q_ml_X7_299 q_im_X1_begin q_se_X1_begin q_in_X1 okC_1 rfl rfl hd_X1_begin ⟨Nat.le_of_ble_eq_true rfl, Nat.le_of_ble_eq_true rfl⟩ rfl hl.1 rfl (Nat.le_of_ble_eq_true rfl) ⟨Nat.le_of_ble_eq_true rfl, Nat.le_of_ble_eq_true rfl⟩ dX7_chainTape_37 (fun S37 H locs hP37 hH hS => ?_)
    refine W.eq (g2 := F0 m 40 ls [.ref (mAdC E 2 2)]) rfl ?_
    refine lv_astore (lv' := [(5, .ref (mAdC E 2 2)), (4, .ref (mAdC E 3 (3 + (4 + i)))), (3, .int ((acP S i y 4).1)), (0, .ref (mAdC E 0 0)), (1, .ref (mAdC E 26 i)), (2, .int y)]) hx hb dX7_chainTape_40 hl (by decide) rfl (fun ls hl => ?_)
    refine lv_aload hx hb dX7_chainTape_42 (lv_at hl 0 rfl) ?_
    refine lv_aload hx hb dX7_chainTape_44 (lv_at hl 1 rfl) ?_
    refine lv_bipush (v := 32) hx hb dX7_chainTape_46 (by decide) ?_
    refine mv_callV (Y := mLC) (C := RX0) (k := 2) (i := 2) (rest := []) Cx hG hH hS (c_X0_putAll l E A hO S37 2 (by decide) _ hP37.1 3 (3 + (4 + i)) (mLn (3 + (4 + i))) 32 (isC_3 (by omega)) (by rw [mLn_v hi]; decide) (by decide)) q_co_X0_putAll q_ml_X7_96 q_im_X0_putAll q_se_X0_putAll q_in_X0 (okC_2 (by decide)) rfl rfl hd_X0_putAll ⟨Nat.le_of_ble_eq_true rfl, Nat.le_of_ble_eq_true rfl⟩ rfl hl.1 rfl (Nat.le_of_ble_eq_true rfl) ⟨Nat.le_of_ble_eq_true rfl, Nat.le_of_ble_eq_true rfl⟩ dX7_chainTape_48 (fun S48 H locs hP48 hH hS => ?_)
    refine W.eq (g2 := F0 m 51 ls []) rfl ?_
    refine lv_aload hx hb dX7_chainTape_51 (lv_at hl 0 rfl) ?_
    refine lv_aload_n hx hb dX7_chainTape_53 rfl (lv_at hl 3 rfl) ?_
    refine g_X7_tape Cx hG hH q_fl_X7_30 dX7_chainTape_54 ?_
    refine g_X0_held Cx hG hH (by decide) q_fl_X7_93 dX7_chainTape_57 ?_
    refine lv_aload_n hx hb dX7_chainTape_60 rfl (lv_at hl 3 rfl) ?_
    refine g_X7_tape Cx hG hH q_fl_X7_30 dX7_chainTape_61 ?_
    refine g_X0_size Cx hG hH (by decide) q_fl_X7_89 dX7_chainTape_64 ?_
    refine mv_eqi (x' := nI ts.length) ((hts11.keep (hP37.2.tr hP48.2) (by simp [bX]) (by simp [bX])).1) ?_
    refine mv_callV (Y := mLC) (C := RX0) (k := 2) (i := 2) (rest := []) Cx hG hH hS (c_X0_putAll l E A hO S48 2 (by decide) _ hP48.1 3 0 (mLn 0) ts.length (isC_3 (by decide)) hts.2.1 (by rw [List.nil_append, mTk_len, mLn_2]; omega)) q_co_X0_putAll q_ml_X7_96 q_im_X0_putAll q_se_X0_putAll q_in_X0 (okC_2 (by decide)) rfl rfl hd_X0_putAll ⟨Nat.le_of_ble_eq_true rfl, Nat.le_of_ble_eq_true rfl⟩ rfl hl.1 rfl (Nat.le_of_ble_eq_true rfl) ⟨Nat.le_of_ble_eq_true rfl, Nat.le_of_ble_eq_true rfl⟩ dX7_chainTape_67 (fun S67 H locs hP67 hH hS => ?_)
    refine W.eq (g2 := F0 m 70 ls []) rfl ?_
    refine lv_aload_n hx hb dX7_chainTape_70 rfl (lv_at hl 3 rfl) ?_
    refine g_X7_hasher Cx hG hH q_fl_X7_10 dX7_chainTape_71 ?_
    refine lv_aload hx hb dX7_chainTape_74 (lv_at hl 1 rfl) ?_
    refine mv_callV (Y := mLC) (C := RX1) (k := 1) (i := 0) (rest := []) Cx hG hH hS (X1_finish_w l E A hO S67 3 (3 + (4 + i)) (mLn (3 + (4 + i))) (isC_3 (by omega)) (by rw [mLn_v hi]; decide) _ hP67.1 (by rw [List.nil_append, List.length_append, mTk_len, mTk_len]; omega)) q_co_X1_finish q_ml_X7_149 q_im_X1_finish q_se_X1_finish q_in_X1 okC_1 rfl rfl hd_X1_finish ⟨Nat.le_of_ble_eq_true rfl, Nat.le_of_ble_eq_true rfl⟩ rfl hl.1 rfl (Nat.le_of_ble_eq_true rfl) ⟨Nat.le_of_ble_eq_true rfl, Nat.le_of_ble_eq_true rfl⟩ dX7_chainTape_76 (fun S76 H locs hP76 hH hS => ?_)
    refine W.eq (g2 := F0 m 79 ls []) rfl ?_
    refine lv_aload_n hx hb dX7_chainTape_79 rfl (lv_at hl 4 rfl) ?_
    refine lv_iconst (v := 1) hx hb dX7_chainTape_80 (by decide) ?_
    refine p_X6_written Cx hG hO hH hS hi (Or.inr rfl) q_fl_X7_238 dX7_chainTape_81 (fun H locs hH hS => ?_)
    refine lv_iconst (v := 0) hx hb dX7_chainTape_84 (by decide) ?_
    exact mv_reti Cx hr hH hS (h16.symm) (⟨fun _ => ⟨S76, rfl, fun j hj => (hP76.1 j hj).trans (by rw [List.nil_append, mTk_has (hts11.keep (hP37.2.tr hP48.2) (by simp [bX]) (by simp [bX])), mTk_congr (g := S11.2.1 3 (3 + (4 + i))) (fun j _ => (hP37.2 3 (3 + (4 + i)) (by simp [bX]; omega)).2.1 j), hP11]), by rw [← hP11]; exact ((hP37.2.wk (fun _ _ h => Or.inl (sc_bX h))).tr (hP48.2.wk (fun _ _ h => Or.inl (sc_bX h)))).tr ((hP67.2.wk (fun _ _ h => Or.inl (sc_bX h))).tr (hP76.2.wk (fun _ _ h => h.elim (fun z => Or.inl (sc_hs z)) Or.inr)))⟩, fun z => absurd h16 z⟩) dX7_chainTape_85 hlocks
  · skip
    refine lv_iload_n hx hb dX7_chainTape_19 rfl (lv_at hl 0 rfl) ?_
    exact mv_reti Cx hr hH hS (rfl) (⟨fun z => absurd z h16, fun _ => hP11⟩) dX7_chainTape_20 hlocks

set_option maxHeartbeats 4000000 in
set_option maxRecDepth 100000 in
theorem c_X7_undefine (l : Launch) (E : mEv) (A : Nat → Prop) (hO : mOwn mLC E A) (S : mSt) (x : Int32) : Met l yX7_undefine (Cond.code yX7_undefine cX7_undefine 4 (some .int) :: mv_ws) (mRm 3 65) (mPc mLC E A S [.ref (mAdC E 0 0), .int x]) (mQ mLC E A (fun S' => S' = (vaO S x).elim S (fun i => if (akR S (S.2.1 12 0)) = 0 then mM (akS S (S.2.1 12 0)) 22 (4 + i) 3 0 else (akS S (S.2.1 12 0)))) (some (.int ((vaO S x).elim (-2) (fun _ => (akR S (S.2.1 12 0))))))) 0 0 A := by
  refine Met.ofW (cc := cX7_undefine) (maxL := 4) (ret := (some .int)) (by decide) rfl ?_
  intro p e s m args below meth c s₁ B hml hv
  obtain ⟨rfl, hG, hH⟩ := hv
  have hx := B.exec
  have hb := B.bytes
  have hr := B.returns
  have hlocks := B.notSynchronized
  have Cx : CallFix p m c cX7_undefine 4 s ([.ref (mAdC E 0 0), .int x] : List Value).toArray (Cond.code yX7_undefine cX7_undefine 4 (some .int) :: mv_ws) RX7 := ⟨hx, hb, hml, findClass_of_methodNamed B.named, atoms_spec (ws := Cond.code yX7_undefine cX7_undefine 4 (some .int) :: mv_ws) B.pre⟩
  have hS : va_S A s.heap s.heap [] := va_S.rf
  have hl := lv_entry ([.ref (mAdC E 0 0), .int x]) (n := 4) (Nat.le_of_ble_eq_true rfl)
  rw [lg_entry_eq]
  generalize (lg_sl ([.ref (mAdC E 0 0), .int x]) ++ List.replicate (4 - (lg_sl ([.ref (mAdC E 0 0), .int x])).length) Slot.unset).toArray = ls at hl ⊢
  have hl : lv_has ls 4 [(0, .ref (mAdC E 0 0)), (1, .int x)] := hl
  refine lv_aload_n hx hb dX7_undefine_0 rfl (lv_at hl 0 rfl) ?_
  refine lv_iload_n hx hb dX7_undefine_1 rfl (lv_at hl 1 rfl) ?_
  obtain ⟨oq, hva⟩ : ∃ oq, vaO S x = oq := ⟨_, rfl⟩
  rcases oq with _ | i
  · skip
    refine mv_callV (Y := mLC) (C := RX7) (k := 0) (i := 0) (rest := []) Cx hG hH hS (X7_valueAt_n l E A hO S x hva) q_co_X7_valueAt q_ml_X7_223 q_im_X7_valueAt q_se_X7_valueAt q_in_X7 okC_0 rfl rfl hd_X7_valueAt ⟨Nat.le_of_ble_eq_true rfl, Nat.le_of_ble_eq_true rfl⟩ rfl hl.1 rfl (Nat.le_of_ble_eq_true rfl) ⟨Nat.le_of_ble_eq_true rfl, Nat.le_of_ble_eq_true rfl⟩ dX7_undefine_2 (fun S2 H locs hP2 hH hS => ?_)
    refine W.eq (g2 := F0 m 5 ls [.null]) rfl ?_
    have hH := mv_S hP2 hH
    refine lv_astore_nN (lv' := [(2, .null), (0, .ref (mAdC E 0 0)), (1, .int x)]) hx hb dX7_undefine_5 rfl hl (by decide) rfl (fun ls hl => ?_)
    refine lv_aload_nN hx hb dX7_undefine_6 rfl (lv_at hl 0 rfl) ?_
    refine lv_ifnonnullN hx hb dX7_undefine_7 ?_
    refine lv_bipush (v := (-2 : Int32)) hx hb dX7_undefine_10 (by decide) ?_
    exact mv_reti Cx hr hH hS (by rw [hva]; rfl) (by rw [hva]; rfl) dX7_undefine_12 hlocks
  · skip
    obtain ⟨hxi, hi, hop⟩ := vaO_some hva
    refine mv_callV (Y := mLC) (C := RX7) (k := 0) (i := 0) (rest := []) Cx hG hH hS (X7_valueAt_s l E A hO S x i hva) q_co_X7_valueAt q_ml_X7_223 q_im_X7_valueAt q_se_X7_valueAt q_in_X7 okC_0 rfl rfl hd_X7_valueAt ⟨Nat.le_of_ble_eq_true rfl, Nat.le_of_ble_eq_true rfl⟩ rfl hl.1 rfl (Nat.le_of_ble_eq_true rfl) ⟨Nat.le_of_ble_eq_true rfl, Nat.le_of_ble_eq_true rfl⟩ dX7_undefine_2 (fun S2 H locs hP2 hH hS => ?_)
    refine W.eq (g2 := F0 m 5 ls [.ref (mAdC E 26 i)]) rfl ?_
    have hH := mv_S hP2 hH
    refine lv_astore_n (lv' := [(2, .ref (mAdC E 26 i)), (0, .ref (mAdC E 0 0)), (1, .int x)]) hx hb dX7_undefine_5 rfl hl (by decide) rfl (fun ls hl => ?_)
    refine lv_aload_n hx hb dX7_undefine_6 rfl (lv_at hl 0 rfl) ?_
    refine lv_ifnonnull (tgt := 13) hx hb dX7_undefine_7 (by decide) ?_
    refine lv_aload_n hx hb dX7_undefine_13 rfl (lv_at hl 1 rfl) ?_
    refine lv_aload_n hx hb dX7_undefine_14 rfl (lv_at hl 1 rfl) ?_
    refine g_X7_ownerAuth Cx hG hH q_fl_X7_41 dX7_undefine_15 ?_
    refine mv_callV (Y := mLC) (C := RX7) (k := 0) (i := 0) (rest := []) Cx hG hH hS (c_X7_askKey l E A hO S 12 0 isC_12) q_co_X7_askKey q_ml_X7_210 q_im_X7_askKey q_se_X7_askKey q_in_X7 okC_0 rfl rfl hd_X7_askKey ⟨Nat.le_of_ble_eq_true rfl, Nat.le_of_ble_eq_true rfl⟩ rfl hl.1 rfl (Nat.le_of_ble_eq_true rfl) ⟨Nat.le_of_ble_eq_true rfl, Nat.le_of_ble_eq_true rfl⟩ dX7_undefine_18 (fun S18 H locs hP18 hH hS => ?_)
    refine W.eq (g2 := F0 m 21 ls [.int (akR S (S.2.1 12 0))]) rfl ?_
    refine lv_istore_n (lv' := [(3, .int (akR S (S.2.1 12 0))), (2, .ref (mAdC E 26 i)), (0, .ref (mAdC E 0 0)), (1, .int x)]) hx hb dX7_undefine_21 rfl hl (by decide) rfl (fun ls hl => ?_)
    refine lv_iload_n hx hb dX7_undefine_22 rfl (lv_at hl 0 rfl) ?_
    refine lv_if_eq (tgt := 28) hx hb dX7_undefine_23 (by decide) (fun h23 => ?_) (fun h23 => ?_)
    · skip
      refine lv_aload_n hx hb dX7_undefine_28 rfl (lv_at hl 1 rfl) ?_
      refine g_X6_thing Cx hG hH hi q_fl_X7_206 dX7_undefine_29 ?_
      refine lv_iconst (v := 0) hx hb dX7_undefine_32 (by decide) ?_
      refine p_X5_present Cx hG hO hH hS (by have := hi; omega) (by decide) q_fl_X7_199 dX7_undefine_33 (fun H locs hH hS => ?_)
      refine lv_iconst (v := 0) hx hb dX7_undefine_36 (by decide) ?_
      exact mv_reti Cx hr hH hS (by rw [hva]; exact h23.symm) (by rw [hva, hP18]; exact (if_pos h23).symm) dX7_undefine_37 hlocks
    · skip
      refine lv_iload_n hx hb dX7_undefine_26 rfl (lv_at hl 0 rfl) ?_
      exact mv_reti Cx hr hH hS (by rw [hva]; rfl) (by rw [hva]; exact hP18.trans (if_neg h23).symm) dX7_undefine_27 hlocks

set_option maxHeartbeats 4000000 in
set_option maxRecDepth 100000 in
theorem c_X7_write (l : Launch) (E : mEv) (A : Nat → Prop) (hO : mOwn mLC E A) (S : mSt) (x y z : Int32) (ts : List Int8) (hts : bHas S 0 ts) (hdd : ∀ i, voO S x 0 = some i → ∃ dn, S.1 2 (3 + (4 + i)) 1 = nI dn ∧ dn ≤ 64) : Met l yX7_write (Cond.code yX7_write cX7_write 5 (some .int) :: mv_ws) (mRm 6 138) (mPc mLC E A S [.ref (mAdC E 0 0), .int x, .int y, .int z]) (mQ mLC E A (fun S' => bHas S' 0 [] ∧ (voO S x 0 = none → S' = mM S 2 0 1 0) ∧ ∀ i, voO S x 0 = some i → ∃ S1, S' = mM S1 2 0 1 0 ∧ ((¬ y < 0 ∧ ¬ S.1 2 (3 + (4 + i)) 1 < y ∧ nI ts.length ≤ S.1 2 (3 + (4 + i)) 1 - y) → S1 = if (acP S i z 2).1 = 0 then wtS (acP S i z 2).2 i y ts.length else (acP S i z 2).2) ∧ (¬ (¬ y < 0 ∧ ¬ S.1 2 (3 + (4 + i)) 1 < y ∧ nI ts.length ≤ S.1 2 (3 + (4 + i)) 1 - y) → S1 = S)) (some (.int ((voO S x 0).elim (-2) (fun i => if (¬ y < 0 ∧ ¬ S.1 2 (3 + (4 + i)) 1 < y ∧ nI ts.length ≤ S.1 2 (3 + (4 + i)) 1 - y) then (acP S i z 2).1 else -1))))) 0 0 A := by
  refine Met.ofW (cc := cX7_write) (maxL := 5) (ret := (some .int)) (by decide) rfl ?_
  intro p e s m args below meth c s₁ B hml hv
  obtain ⟨rfl, hG, hH⟩ := hv
  have hx := B.exec
  have hb := B.bytes
  have hr := B.returns
  have hlocks := B.notSynchronized
  have Cx : CallFix p m c cX7_write 5 s ([.ref (mAdC E 0 0), .int x, .int y, .int z] : List Value).toArray (Cond.code yX7_write cX7_write 5 (some .int) :: mv_ws) RX7 := ⟨hx, hb, hml, findClass_of_methodNamed B.named, atoms_spec (ws := Cond.code yX7_write cX7_write 5 (some .int) :: mv_ws) B.pre⟩
  have hS : va_S A s.heap s.heap [] := va_S.rf
  have hlen := hts.2.1
  rw [mLn_0] at hlen
  have hl := lv_entry ([.ref (mAdC E 0 0), .int x, .int y, .int z]) (n := 5) (Nat.le_of_ble_eq_true rfl)
  rw [lg_entry_eq]
  generalize (lg_sl ([.ref (mAdC E 0 0), .int x, .int y, .int z]) ++ List.replicate (5 - (lg_sl ([.ref (mAdC E 0 0), .int x, .int y, .int z])).length) Slot.unset).toArray = ls at hl ⊢
  have hl : lv_has ls 5 [(0, .ref (mAdC E 0 0)), (1, .int x), (2, .int y), (3, .int z)] := hl
  refine lv_aload_n hx hb dX7_write_0 rfl (lv_at hl 0 rfl) ?_
  refine lv_aload_n hx hb dX7_write_1 rfl (lv_at hl 0 rfl) ?_
  refine lv_iload_n hx hb dX7_write_2 rfl (lv_at hl 1 rfl) ?_
  refine lv_iconst (v := 0) hx hb dX7_write_3 (by decide) ?_
  obtain ⟨oq, hvo⟩ : ∃ oq, voO S x 0 = oq := ⟨_, rfl⟩
  rcases oq with _ | i
  · skip
    refine mv_callV (Y := mLC) (C := RX7) (k := 0) (i := 0) (rest := [.ref (mAdC E 0 0)]) Cx hG hH hS (X7_valueOf_n l E A hO S x 0 hvo) q_co_X7_valueOf q_ml_X7_227 q_im_X7_valueOf q_se_X7_valueOf q_in_X7 okC_0 rfl rfl hd_X7_valueOf ⟨Nat.le_of_ble_eq_true rfl, Nat.le_of_ble_eq_true rfl⟩ rfl hl.1 rfl (Nat.le_of_ble_eq_true rfl) ⟨Nat.le_of_ble_eq_true rfl, Nat.le_of_ble_eq_true rfl⟩ dX7_write_4 (fun S4 H locs hP4 hH hS => ?_)
    refine W.eq (g2 := F0 m 7 ls [.null, .ref (mAdC E 0 0)]) rfl ?_
    have hH := mv_S hP4 hH
    refine lv_iload_n hx hb dX7_write_7 rfl (lv_at hl 2 rfl) ?_
    refine lv_iload_n hx hb dX7_write_8 rfl (lv_at hl 3 rfl) ?_
    refine mv_callV (Y := mLC) (C := RX7) (k := 0) (i := 0) (rest := []) Cx hG hH hS (X7_writeTape_n0 l E A hO S y z) q_co_X7_writeTape q_ml_X7_231 q_im_X7_writeTape q_se_X7_writeTape q_in_X7 okC_0 rfl rfl hd_X7_writeTape ⟨Nat.le_of_ble_eq_true rfl, Nat.le_of_ble_eq_true rfl⟩ rfl hl.1 rfl (Nat.le_of_ble_eq_true rfl) ⟨Nat.le_of_ble_eq_true rfl, Nat.le_of_ble_eq_true rfl⟩ dX7_write_9 (fun S9 H locs hP9 hH hS => ?_)
    refine W.eq (g2 := F0 m 12 ls [.int (-2 : Int32)]) rfl ?_
    refine lv_istore (lv' := [(4, .int (-2 : Int32)), (0, .ref (mAdC E 0 0)), (1, .int x), (2, .int y), (3, .int z)]) hx hb dX7_write_12 hl (by decide) rfl (fun ls hl => ?_)
    refine lv_aload_n hx hb dX7_write_14 rfl (lv_at hl 1 rfl) ?_
    refine g_X7_tape Cx hG hH q_fl_X7_30 dX7_write_15 ?_
    refine lv_iconst (v := 0) hx hb dX7_write_18 (by decide) ?_
    refine p_X0_size Cx hG hO hH hS (by decide) q_fl_X7_89 dX7_write_19 (fun H locs hH hS => ?_)
    refine lv_iload hx hb dX7_write_22 (lv_at hl 0 rfl) ?_
    exact mv_reti Cx hr hH hS (by rw [hvo]; rfl) (⟨bHas.nil, fun _ => by (rw [hP9]), fun i h => by (rw [hvo] at h; cases h)⟩) dX7_write_24 hlocks
  · skip
    obtain ⟨hva, hkd⟩ := voO_some hvo
    obtain ⟨hxi, hi, hop⟩ := vaO_some hva
    obtain ⟨dn, hdn, hd64⟩ := hdd i hvo
    refine mv_callV (Y := mLC) (C := RX7) (k := 0) (i := 0) (rest := [.ref (mAdC E 0 0)]) Cx hG hH hS (X7_valueOf_s l E A hO S x 0 i hvo) q_co_X7_valueOf q_ml_X7_227 q_im_X7_valueOf q_se_X7_valueOf q_in_X7 okC_0 rfl rfl hd_X7_valueOf ⟨Nat.le_of_ble_eq_true rfl, Nat.le_of_ble_eq_true rfl⟩ rfl hl.1 rfl (Nat.le_of_ble_eq_true rfl) ⟨Nat.le_of_ble_eq_true rfl, Nat.le_of_ble_eq_true rfl⟩ dX7_write_4 (fun S4 H locs hP4 hH hS => ?_)
    refine W.eq (g2 := F0 m 7 ls [.ref (mAdC E 26 i), .ref (mAdC E 0 0)]) rfl ?_
    have hH := mv_S hP4 hH
    refine lv_iload_n hx hb dX7_write_7 rfl (lv_at hl 2 rfl) ?_
    refine lv_iload_n hx hb dX7_write_8 rfl (lv_at hl 3 rfl) ?_
    refine mv_callV (Y := mLC) (C := RX7) (k := 0) (i := 0) (rest := []) Cx hG hH hS (c_X7_writeTape l E A hO S i hi y z dn hdn hd64 ts hts) q_co_X7_writeTape q_ml_X7_231 q_im_X7_writeTape q_se_X7_writeTape q_in_X7 okC_0 rfl rfl hd_X7_writeTape ⟨Nat.le_of_ble_eq_true rfl, Nat.le_of_ble_eq_true rfl⟩ rfl hl.1 rfl (Nat.le_of_ble_eq_true rfl) ⟨Nat.le_of_ble_eq_true rfl, Nat.le_of_ble_eq_true rfl⟩ dX7_write_9 (fun S9 H locs hP9 hH hS => ?_)
    refine W.eq (g2 := F0 m 12 ls [.int (if ¬ y < 0 ∧ ¬ nI dn < y ∧ nI ts.length ≤ nI dn - y then (acP S i z 2).1 else -1)]) rfl ?_
    refine lv_istore (lv' := [(4, .int (if ¬ y < 0 ∧ ¬ nI dn < y ∧ nI ts.length ≤ nI dn - y then (acP S i z 2).1 else -1)), (0, .ref (mAdC E 0 0)), (1, .int x), (2, .int y), (3, .int z)]) hx hb dX7_write_12 hl (by decide) rfl (fun ls hl => ?_)
    refine lv_aload_n hx hb dX7_write_14 rfl (lv_at hl 1 rfl) ?_
    refine g_X7_tape Cx hG hH q_fl_X7_30 dX7_write_15 ?_
    refine lv_iconst (v := 0) hx hb dX7_write_18 (by decide) ?_
    refine p_X0_size Cx hG hO hH hS (by decide) q_fl_X7_89 dX7_write_19 (fun H locs hH hS => ?_)
    refine lv_iload hx hb dX7_write_22 (lv_at hl 0 rfl) ?_
    exact mv_reti Cx hr hH hS (by rw [hvo, ← hdn]; rfl) (⟨bHas.nil, fun h => by (rw [hvo] at h; cases h), fun j h => by (rw [hvo] at h; cases h; exact ⟨S9, rfl, by rw [hdn]; exact hP9⟩)⟩) dX7_write_24 hlocks

set_option maxHeartbeats 4000000 in
set_option maxRecDepth 100000 in
theorem c_X7_chain (l : Launch) (E : mEv) (A : Nat → Prop) (hO : mOwn mLC E A) (S : mSt) (x y : Int32) (ts : List Int8) (hts : bHas S 0 ts) : Met l yX7_chain (Cond.code yX7_chain cX7_chain 4 (some .int) :: mv_ws) (mRm 6 138) (mPc mLC E A S [.ref (mAdC E 0 0), .int x, .int y]) (mQ mLC E A (fun S' => bHas S' 0 [] ∧ (voO S x 2 = none → S' = mM S 2 0 1 0) ∧ ∀ i, voO S x 2 = some i → ∃ S2, S' = mM S2 2 0 1 0 ∧ ((acP S i y 4).1 = 0 → ∃ S1, S2 = mM S1 26 i 2 1 ∧ (∀ j, j < 32 → S1.2.1 3 (3 + (4 + i)) j = shaL (mTk ((acP S i y 4).2.2.1 3 (3 + (4 + i))) 32 ++ ts) j) ∧ mSame (fun k i' => scX k i' ∨ (k = 3 ∧ i' = (3 + (4 + i)))) (acP S i y 4).2 S1) ∧ (¬ (acP S i y 4).1 = 0 → S2 = (acP S i y 4).2)) (some (.int ((voO S x 2).elim (-2) (fun i => (acP S i y 4).1))))) 0 0 A := by
  refine Met.ofW (cc := cX7_chain) (maxL := 4) (ret := (some .int)) (by decide) rfl ?_
  intro p e s m args below meth c s₁ B hml hv
  obtain ⟨rfl, hG, hH⟩ := hv
  have hx := B.exec
  have hb := B.bytes
  have hr := B.returns
  have hlocks := B.notSynchronized
  have Cx : CallFix p m c cX7_chain 4 s ([.ref (mAdC E 0 0), .int x, .int y] : List Value).toArray (Cond.code yX7_chain cX7_chain 4 (some .int) :: mv_ws) RX7 := ⟨hx, hb, hml, findClass_of_methodNamed B.named, atoms_spec (ws := Cond.code yX7_chain cX7_chain 4 (some .int) :: mv_ws) B.pre⟩
  have hS : va_S A s.heap s.heap [] := va_S.rf
  have hl := lv_entry ([.ref (mAdC E 0 0), .int x, .int y]) (n := 4) (Nat.le_of_ble_eq_true rfl)
  rw [lg_entry_eq]
  generalize (lg_sl ([.ref (mAdC E 0 0), .int x, .int y]) ++ List.replicate (4 - (lg_sl ([.ref (mAdC E 0 0), .int x, .int y])).length) Slot.unset).toArray = ls at hl ⊢
  have hl : lv_has ls 4 [(0, .ref (mAdC E 0 0)), (1, .int x), (2, .int y)] := hl
  refine lv_aload_n hx hb dX7_chain_0 rfl (lv_at hl 0 rfl) ?_
  refine lv_aload_n hx hb dX7_chain_1 rfl (lv_at hl 0 rfl) ?_
  refine lv_iload_n hx hb dX7_chain_2 rfl (lv_at hl 1 rfl) ?_
  refine lv_iconst (v := 2) hx hb dX7_chain_3 (by decide) ?_
  obtain ⟨oq, hvo⟩ : ∃ oq, voO S x 2 = oq := ⟨_, rfl⟩
  rcases oq with _ | i
  · skip
    refine mv_callV (Y := mLC) (C := RX7) (k := 0) (i := 0) (rest := [.ref (mAdC E 0 0)]) Cx hG hH hS (X7_valueOf_n l E A hO S x 2 hvo) q_co_X7_valueOf q_ml_X7_227 q_im_X7_valueOf q_se_X7_valueOf q_in_X7 okC_0 rfl rfl hd_X7_valueOf ⟨Nat.le_of_ble_eq_true rfl, Nat.le_of_ble_eq_true rfl⟩ rfl hl.1 rfl (Nat.le_of_ble_eq_true rfl) ⟨Nat.le_of_ble_eq_true rfl, Nat.le_of_ble_eq_true rfl⟩ dX7_chain_4 (fun S4 H locs hP4 hH hS => ?_)
    refine W.eq (g2 := F0 m 7 ls [.null, .ref (mAdC E 0 0)]) rfl ?_
    have hH := mv_S hP4 hH
    refine lv_iload_n hx hb dX7_chain_7 rfl (lv_at hl 2 rfl) ?_
    refine mv_callV (Y := mLC) (C := RX7) (k := 0) (i := 0) (rest := []) Cx hG hH hS (X7_chainTape_n0 l E A hO S y) q_co_X7_chainTape q_ml_X7_259 q_im_X7_chainTape q_se_X7_chainTape q_in_X7 okC_0 rfl rfl hd_X7_chainTape ⟨Nat.le_of_ble_eq_true rfl, Nat.le_of_ble_eq_true rfl⟩ rfl hl.1 rfl (Nat.le_of_ble_eq_true rfl) ⟨Nat.le_of_ble_eq_true rfl, Nat.le_of_ble_eq_true rfl⟩ dX7_chain_8 (fun S8 H locs hP8 hH hS => ?_)
    refine W.eq (g2 := F0 m 11 ls [.int (-2 : Int32)]) rfl ?_
    refine lv_istore_n (lv' := [(3, .int (-2 : Int32)), (0, .ref (mAdC E 0 0)), (1, .int x), (2, .int y)]) hx hb dX7_chain_11 rfl hl (by decide) rfl (fun ls hl => ?_)
    refine lv_aload_n hx hb dX7_chain_12 rfl (lv_at hl 1 rfl) ?_
    refine g_X7_tape Cx hG hH q_fl_X7_30 dX7_chain_13 ?_
    refine lv_iconst (v := 0) hx hb dX7_chain_16 (by decide) ?_
    refine p_X0_size Cx hG hO hH hS (by decide) q_fl_X7_89 dX7_chain_17 (fun H locs hH hS => ?_)
    refine lv_iload_n hx hb dX7_chain_20 rfl (lv_at hl 0 rfl) ?_
    exact mv_reti Cx hr hH hS (by rw [hvo]; rfl) (⟨bHas.nil, fun _ => by (rw [hP8]), fun i h => by (rw [hvo] at h; cases h)⟩) dX7_chain_21 hlocks
  · skip
    obtain ⟨hva, hkd⟩ := voO_some hvo
    obtain ⟨hxi, hi, hop⟩ := vaO_some hva
    refine mv_callV (Y := mLC) (C := RX7) (k := 0) (i := 0) (rest := [.ref (mAdC E 0 0)]) Cx hG hH hS (X7_valueOf_s l E A hO S x 2 i hvo) q_co_X7_valueOf q_ml_X7_227 q_im_X7_valueOf q_se_X7_valueOf q_in_X7 okC_0 rfl rfl hd_X7_valueOf ⟨Nat.le_of_ble_eq_true rfl, Nat.le_of_ble_eq_true rfl⟩ rfl hl.1 rfl (Nat.le_of_ble_eq_true rfl) ⟨Nat.le_of_ble_eq_true rfl, Nat.le_of_ble_eq_true rfl⟩ dX7_chain_4 (fun S4 H locs hP4 hH hS => ?_)
    refine W.eq (g2 := F0 m 7 ls [.ref (mAdC E 26 i), .ref (mAdC E 0 0)]) rfl ?_
    have hH := mv_S hP4 hH
    refine lv_iload_n hx hb dX7_chain_7 rfl (lv_at hl 2 rfl) ?_
    refine mv_callV (Y := mLC) (C := RX7) (k := 0) (i := 0) (rest := []) Cx hG hH hS (c_X7_chainTape l E A hO S i hi y ts hts) q_co_X7_chainTape q_ml_X7_259 q_im_X7_chainTape q_se_X7_chainTape q_in_X7 okC_0 rfl rfl hd_X7_chainTape ⟨Nat.le_of_ble_eq_true rfl, Nat.le_of_ble_eq_true rfl⟩ rfl hl.1 rfl (Nat.le_of_ble_eq_true rfl) ⟨Nat.le_of_ble_eq_true rfl, Nat.le_of_ble_eq_true rfl⟩ dX7_chain_8 (fun S8 H locs hP8 hH hS => ?_)
    refine W.eq (g2 := F0 m 11 ls [.int ((acP S i y 4).1)]) rfl ?_
    refine lv_istore_n (lv' := [(3, .int ((acP S i y 4).1)), (0, .ref (mAdC E 0 0)), (1, .int x), (2, .int y)]) hx hb dX7_chain_11 rfl hl (by decide) rfl (fun ls hl => ?_)
    refine lv_aload_n hx hb dX7_chain_12 rfl (lv_at hl 1 rfl) ?_
    refine g_X7_tape Cx hG hH q_fl_X7_30 dX7_chain_13 ?_
    refine lv_iconst (v := 0) hx hb dX7_chain_16 (by decide) ?_
    refine p_X0_size Cx hG hO hH hS (by decide) q_fl_X7_89 dX7_chain_17 (fun H locs hH hS => ?_)
    refine lv_iload_n hx hb dX7_chain_20 rfl (lv_at hl 0 rfl) ?_
    exact mv_reti Cx hr hH hS (by rw [hvo]; rfl) (⟨bHas.nil, fun h => by (rw [hvo] at h; cases h), fun j h => by (rw [hvo] at h; cases h; exact ⟨S8, rfl, hP8⟩)⟩) dX7_chain_21 hlocks

set_option maxHeartbeats 4000000 in
set_option maxRecDepth 100000 in
theorem c_X7_read (l : Launch) (E : mEv) (A : Nat → Prop) (hO : mOwn mLC E A) (S : mSt) (x y : Int32) (hdv : ∀ i, vaO S x = some i → ∃ ds, bHas S (3 + (4 + i)) ds) : Met l yX7_read (Cond.code yX7_read cX7_read 5 (some .int) :: mv_ws) (mRm 4 90) (mPc mLC E A S [.ref (mAdC E 0 0), .int x, .int y]) (mQ mLC E A (fun S' => (vaO S x = none → S' = S) ∧ ∀ i, vaO S x = some i → (S.1 26 i 2 = 0 → S' = S) ∧ (¬ S.1 26 i 2 = 0 → ((askP S (4 + i) y 5).1 = 0 → (∀ ds, bHas S (3 + (4 + i)) ds → bHas S' 1 ds) ∧ mSame (bX 1) (askP S (4 + i) y 5).2 S') ∧ (¬ (askP S (4 + i) y 5).1 = 0 → S' = (askP S (4 + i) y 5).2))) (some (.int ((vaO S x).elim (-2) (fun i => if S.1 26 i 2 = 0 then -3 else if (askP S (4 + i) y 5).1 = 0 then S.1 2 (3 + (4 + i)) 1 else (askP S (4 + i) y 5).1))))) 0 0 A := by
  refine Met.ofW (cc := cX7_read) (maxL := 5) (ret := (some .int)) (by decide) rfl ?_
  intro p e s m args below meth c s₁ B hml hv
  obtain ⟨rfl, hG, hH⟩ := hv
  have hx := B.exec
  have hb := B.bytes
  have hr := B.returns
  have hlocks := B.notSynchronized
  have Cx : CallFix p m c cX7_read 5 s ([.ref (mAdC E 0 0), .int x, .int y] : List Value).toArray (Cond.code yX7_read cX7_read 5 (some .int) :: mv_ws) RX7 := ⟨hx, hb, hml, findClass_of_methodNamed B.named, atoms_spec (ws := Cond.code yX7_read cX7_read 5 (some .int) :: mv_ws) B.pre⟩
  have hS : va_S A s.heap s.heap [] := va_S.rf
  have hl := lv_entry ([.ref (mAdC E 0 0), .int x, .int y]) (n := 5) (Nat.le_of_ble_eq_true rfl)
  rw [lg_entry_eq]
  generalize (lg_sl ([.ref (mAdC E 0 0), .int x, .int y]) ++ List.replicate (5 - (lg_sl ([.ref (mAdC E 0 0), .int x, .int y])).length) Slot.unset).toArray = ls at hl ⊢
  have hl : lv_has ls 5 [(0, .ref (mAdC E 0 0)), (1, .int x), (2, .int y)] := hl
  refine lv_aload_n hx hb dX7_read_0 rfl (lv_at hl 0 rfl) ?_
  refine lv_iload_n hx hb dX7_read_1 rfl (lv_at hl 1 rfl) ?_
  obtain ⟨oq, hva⟩ : ∃ oq, vaO S x = oq := ⟨_, rfl⟩
  rcases oq with _ | i
  · skip
    refine mv_callV (Y := mLC) (C := RX7) (k := 0) (i := 0) (rest := []) Cx hG hH hS (X7_valueAt_n l E A hO S x hva) q_co_X7_valueAt q_ml_X7_223 q_im_X7_valueAt q_se_X7_valueAt q_in_X7 okC_0 rfl rfl hd_X7_valueAt ⟨Nat.le_of_ble_eq_true rfl, Nat.le_of_ble_eq_true rfl⟩ rfl hl.1 rfl (Nat.le_of_ble_eq_true rfl) ⟨Nat.le_of_ble_eq_true rfl, Nat.le_of_ble_eq_true rfl⟩ dX7_read_2 (fun S2 H locs hP2 hH hS => ?_)
    refine W.eq (g2 := F0 m 5 ls [.null]) rfl ?_
    have hH := mv_S hP2 hH
    refine lv_astore_nN (lv' := [(3, .null), (0, .ref (mAdC E 0 0)), (1, .int x), (2, .int y)]) hx hb dX7_read_5 rfl hl (by decide) rfl (fun ls hl => ?_)
    refine lv_aload_nN hx hb dX7_read_6 rfl (lv_at hl 0 rfl) ?_
    refine lv_ifnonnullN hx hb dX7_read_7 ?_
    refine lv_bipush (v := (-2 : Int32)) hx hb dX7_read_10 (by decide) ?_
    exact mv_reti Cx hr hH hS (by rw [hva]; rfl) (⟨fun _ => rfl, fun i h => by (rw [hva] at h; cases h)⟩) dX7_read_12 hlocks
  · skip
    obtain ⟨hxi, hi, hop⟩ := vaO_some hva
    obtain ⟨ds, hds⟩ := hdv i hva
    have hdl := hds.2.1
    rw [mLn_v hi] at hdl
    refine mv_callV (Y := mLC) (C := RX7) (k := 0) (i := 0) (rest := []) Cx hG hH hS (X7_valueAt_s l E A hO S x i hva) q_co_X7_valueAt q_ml_X7_223 q_im_X7_valueAt q_se_X7_valueAt q_in_X7 okC_0 rfl rfl hd_X7_valueAt ⟨Nat.le_of_ble_eq_true rfl, Nat.le_of_ble_eq_true rfl⟩ rfl hl.1 rfl (Nat.le_of_ble_eq_true rfl) ⟨Nat.le_of_ble_eq_true rfl, Nat.le_of_ble_eq_true rfl⟩ dX7_read_2 (fun S2 H locs hP2 hH hS => ?_)
    refine W.eq (g2 := F0 m 5 ls [.ref (mAdC E 26 i)]) rfl ?_
    have hH := mv_S hP2 hH
    refine lv_astore_n (lv' := [(3, .ref (mAdC E 26 i)), (0, .ref (mAdC E 0 0)), (1, .int x), (2, .int y)]) hx hb dX7_read_5 rfl hl (by decide) rfl (fun ls hl => ?_)
    refine lv_aload_n hx hb dX7_read_6 rfl (lv_at hl 0 rfl) ?_
    refine lv_ifnonnull (tgt := 13) hx hb dX7_read_7 (by decide) ?_
    refine lv_aload_n hx hb dX7_read_13 rfl (lv_at hl 0 rfl) ?_
    refine g_X6_written Cx hG hH hi q_fl_X7_238 dX7_read_14 ?_
    refine lv_if_ne (tgt := 23) hx hb dX7_read_17 (by decide) (fun h17 => ?_) (fun h17 => ?_)
    · skip
      refine lv_aload_n hx hb dX7_read_23 rfl (lv_at hl 1 rfl) ?_
      refine lv_aload_n hx hb dX7_read_24 rfl (lv_at hl 0 rfl) ?_
      refine g_X6_thing Cx hG hH hi q_fl_X7_206 dX7_read_25 ?_
      refine lv_iload_n hx hb dX7_read_28 rfl (lv_at hl 3 rfl) ?_
      refine lv_iconst (v := 5) hx hb dX7_read_29 (by decide) ?_
      refine mv_callV (Y := mLC) (C := RX7) (k := 0) (i := 0) (rest := []) Cx hG hH hS (c_X7_ask l E A hO S (4 + i) (by omega) y 5) q_co_X7_ask q_ml_X7_192 q_im_X7_ask q_se_X7_ask q_in_X7 okC_0 rfl rfl hd_X7_ask ⟨Nat.le_of_ble_eq_true rfl, Nat.le_of_ble_eq_true rfl⟩ rfl hl.1 rfl (Nat.le_of_ble_eq_true rfl) ⟨Nat.le_of_ble_eq_true rfl, Nat.le_of_ble_eq_true rfl⟩ dX7_read_30 (fun S30 H locs hP30 hH hS => ?_)
      refine W.eq (g2 := F0 m 33 ls [.int ((askP S (4 + i) y 5).1)]) rfl ?_
      refine lv_istore (lv' := [(4, .int ((askP S (4 + i) y 5).1)), (3, .ref (mAdC E 26 i)), (0, .ref (mAdC E 0 0)), (1, .int x), (2, .int y)]) hx hb dX7_read_33 hl (by decide) rfl (fun ls hl => ?_)
      refine lv_iload hx hb dX7_read_35 (lv_at hl 0 rfl) ?_
      refine lv_if_eq (tgt := 43) hx hb dX7_read_37 (by decide) (fun h37 => ?_) (fun h37 => ?_)
      · skip
        have hds30 : bHas S30 (3 + (4 + i)) ds := by rw [hP30]; exact hds.keep (askP_same S (4 + i) y 5) (by decide) (by decide)
        refine lv_aload_n hx hb dX7_read_43 rfl (lv_at hl 2 rfl) ?_
        refine lv_aload_n hx hb dX7_read_44 rfl (lv_at hl 1 rfl) ?_
        refine g_X6_thing Cx hG hH hi q_fl_X7_206 dX7_read_45 ?_
        refine g_X5_data Cx hG hH (by have := hi; omega) q_fl_X7_196 dX7_read_48 ?_
        refine g_X0_held Cx hG hH (by omega) q_fl_X7_93 dX7_read_51 ?_
        refine lv_aload_n hx hb dX7_read_54 rfl (lv_at hl 1 rfl) ?_
        refine g_X6_thing Cx hG hH hi q_fl_X7_206 dX7_read_55 ?_
        refine g_X5_data Cx hG hH (by have := hi; omega) q_fl_X7_196 dX7_read_58 ?_
        refine g_X0_size Cx hG hH (by omega) q_fl_X7_89 dX7_read_61 ?_
        refine mv_eqi (x' := nI ds.length) (hds30.1) ?_
        refine mv_callV (Y := mLC) (C := RX7) (k := 0) (i := 0) (rest := []) Cx hG hH hS (c_X7_tell l E A hO S30 3 (3 + (4 + i)) (mLn (3 + (4 + i))) ds.length (isC_3 (by omega)) hds.2.1 (by omega)) q_co_X7_tell q_ml_X7_103 q_im_X7_tell q_se_X7_tell q_in_X7 okC_0 rfl rfl hd_X7_tell ⟨Nat.le_of_ble_eq_true rfl, Nat.le_of_ble_eq_true rfl⟩ rfl hl.1 rfl (Nat.le_of_ble_eq_true rfl) ⟨Nat.le_of_ble_eq_true rfl, Nat.le_of_ble_eq_true rfl⟩ dX7_read_64 (fun S64 H locs hP64 hH hS => ?_)
        refine W.eq (g2 := F0 m 67 ls [.int (nI ds.length)]) rfl ?_
        exact mv_reti Cx hr hH hS (by rw [hva]; show _ = (if S.1 26 i 2 = 0 then -3 else if (askP S (4 + i) y 5).1 = 0 then S.1 2 (3 + (4 + i)) 1 else (askP S (4 + i) y 5).1); rw [if_neg h17, if_pos h37, hds.1]) (⟨fun h => by (rw [hva] at h; cases h), fun j h => by (rw [hva] at h; cases h; exact ⟨fun z => absurd z h17, fun _ => ⟨fun _ => ⟨fun es hes => by (have e : es = ds := by (rw [← mTk_has hes, ← mTk_has hds]; congr 1; have a := hes.1; rw [hds.1] at a; exact ((nI_eq (by omega) (by have := hes.2.1; rw [mLn_v hi] at this; omega)).mp a).symm)); subst e; have h := hP64.1; rw [mTk_has hds30] at h; exact h, by rw [← hP30]; exact hP64.2⟩, fun q => absurd h37 q⟩⟩)⟩) dX7_read_67 hlocks
      · skip
        refine lv_iload hx hb dX7_read_40 (lv_at hl 0 rfl) ?_
        exact mv_reti Cx hr hH hS (by rw [hva]; show _ = (if S.1 26 i 2 = 0 then -3 else if (askP S (4 + i) y 5).1 = 0 then S.1 2 (3 + (4 + i)) 1 else (askP S (4 + i) y 5).1); rw [if_neg h17, if_neg h37]) (⟨fun h => by (rw [hva] at h; cases h), fun j h => by (rw [hva] at h; cases h; exact ⟨fun z => absurd z h17, fun _ => ⟨fun q => absurd q h37, fun _ => hP30⟩⟩)⟩) dX7_read_42 hlocks
    · skip
      refine lv_bipush (v := (-3 : Int32)) hx hb dX7_read_20 (by decide) ?_
      exact mv_reti Cx hr hH hS (by rw [hva]; exact (if_pos h17).symm) (⟨fun _ => rfl, fun j h => by (rw [hva] at h; cases h; exact ⟨fun _ => rfl, fun z => absurd h17 z⟩)⟩) dX7_read_22 hlocks

set_option maxHeartbeats 4000000 in
set_option maxRecDepth 100000 in
theorem c_X7_shut (l : Launch) (E : mEv) (A : Nat → Prop) (hO : mOwn mLC E A) (S : mSt) (x y : Int32) : Met l yX7_shut (Cond.code yX7_shut cX7_shut 5 (some .int) :: mv_ws) (mRm 4 90) (mPc mLC E A S [.ref (mAdC E 0 0), .int x, .int y]) (mQ mLC E A (fun S' => S' = (vaO S x).elim S (fun i => if (askP S (4 + i) y 6).1 = 0 then mM (askP S (4 + i) y 6).2 26 i 3 1 else (askP S (4 + i) y 6).2)) (some (.int ((vaO S x).elim (-2) (fun i => (askP S (4 + i) y 6).1))))) 0 0 A := by
  refine Met.ofW (cc := cX7_shut) (maxL := 5) (ret := (some .int)) (by decide) rfl ?_
  intro p e s m args below meth c s₁ B hml hv
  obtain ⟨rfl, hG, hH⟩ := hv
  have hx := B.exec
  have hb := B.bytes
  have hr := B.returns
  have hlocks := B.notSynchronized
  have Cx : CallFix p m c cX7_shut 5 s ([.ref (mAdC E 0 0), .int x, .int y] : List Value).toArray (Cond.code yX7_shut cX7_shut 5 (some .int) :: mv_ws) RX7 := ⟨hx, hb, hml, findClass_of_methodNamed B.named, atoms_spec (ws := Cond.code yX7_shut cX7_shut 5 (some .int) :: mv_ws) B.pre⟩
  have hS : va_S A s.heap s.heap [] := va_S.rf
  have hl := lv_entry ([.ref (mAdC E 0 0), .int x, .int y]) (n := 5) (Nat.le_of_ble_eq_true rfl)
  rw [lg_entry_eq]
  generalize (lg_sl ([.ref (mAdC E 0 0), .int x, .int y]) ++ List.replicate (5 - (lg_sl ([.ref (mAdC E 0 0), .int x, .int y])).length) Slot.unset).toArray = ls at hl ⊢
  have hl : lv_has ls 5 [(0, .ref (mAdC E 0 0)), (1, .int x), (2, .int y)] := hl
  refine lv_aload_n hx hb dX7_shut_0 rfl (lv_at hl 0 rfl) ?_
  refine lv_iload_n hx hb dX7_shut_1 rfl (lv_at hl 1 rfl) ?_
  obtain ⟨oq, hva⟩ : ∃ oq, vaO S x = oq := ⟨_, rfl⟩
  rcases oq with _ | i
  · skip
    refine mv_callV (Y := mLC) (C := RX7) (k := 0) (i := 0) (rest := []) Cx hG hH hS (X7_valueAt_n l E A hO S x hva) q_co_X7_valueAt q_ml_X7_223 q_im_X7_valueAt q_se_X7_valueAt q_in_X7 okC_0 rfl rfl hd_X7_valueAt ⟨Nat.le_of_ble_eq_true rfl, Nat.le_of_ble_eq_true rfl⟩ rfl hl.1 rfl (Nat.le_of_ble_eq_true rfl) ⟨Nat.le_of_ble_eq_true rfl, Nat.le_of_ble_eq_true rfl⟩ dX7_shut_2 (fun S2 H locs hP2 hH hS => ?_)
    refine W.eq (g2 := F0 m 5 ls [.null]) rfl ?_
    have hH := mv_S hP2 hH
    refine lv_astore_nN (lv' := [(3, .null), (0, .ref (mAdC E 0 0)), (1, .int x), (2, .int y)]) hx hb dX7_shut_5 rfl hl (by decide) rfl (fun ls hl => ?_)
    refine lv_aload_nN hx hb dX7_shut_6 rfl (lv_at hl 0 rfl) ?_
    refine lv_ifnonnullN hx hb dX7_shut_7 ?_
    refine lv_bipush (v := (-2 : Int32)) hx hb dX7_shut_10 (by decide) ?_
    exact mv_reti Cx hr hH hS (by rw [hva]; rfl) (by rw [hva]; rfl) dX7_shut_12 hlocks
  · skip
    obtain ⟨hxi, hi, hop⟩ := vaO_some hva
    refine mv_callV (Y := mLC) (C := RX7) (k := 0) (i := 0) (rest := []) Cx hG hH hS (X7_valueAt_s l E A hO S x i hva) q_co_X7_valueAt q_ml_X7_223 q_im_X7_valueAt q_se_X7_valueAt q_in_X7 okC_0 rfl rfl hd_X7_valueAt ⟨Nat.le_of_ble_eq_true rfl, Nat.le_of_ble_eq_true rfl⟩ rfl hl.1 rfl (Nat.le_of_ble_eq_true rfl) ⟨Nat.le_of_ble_eq_true rfl, Nat.le_of_ble_eq_true rfl⟩ dX7_shut_2 (fun S2 H locs hP2 hH hS => ?_)
    refine W.eq (g2 := F0 m 5 ls [.ref (mAdC E 26 i)]) rfl ?_
    have hH := mv_S hP2 hH
    refine lv_astore_n (lv' := [(3, .ref (mAdC E 26 i)), (0, .ref (mAdC E 0 0)), (1, .int x), (2, .int y)]) hx hb dX7_shut_5 rfl hl (by decide) rfl (fun ls hl => ?_)
    refine lv_aload_n hx hb dX7_shut_6 rfl (lv_at hl 0 rfl) ?_
    refine lv_ifnonnull (tgt := 13) hx hb dX7_shut_7 (by decide) ?_
    refine lv_aload_n hx hb dX7_shut_13 rfl (lv_at hl 1 rfl) ?_
    refine lv_aload_n hx hb dX7_shut_14 rfl (lv_at hl 0 rfl) ?_
    refine g_X6_thing Cx hG hH hi q_fl_X7_206 dX7_shut_15 ?_
    refine lv_iload_n hx hb dX7_shut_18 rfl (lv_at hl 3 rfl) ?_
    refine lv_bipush (v := 6) hx hb dX7_shut_19 (by decide) ?_
    refine mv_callV (Y := mLC) (C := RX7) (k := 0) (i := 0) (rest := []) Cx hG hH hS (c_X7_ask l E A hO S (4 + i) (by omega) y 6) q_co_X7_ask q_ml_X7_192 q_im_X7_ask q_se_X7_ask q_in_X7 okC_0 rfl rfl hd_X7_ask ⟨Nat.le_of_ble_eq_true rfl, Nat.le_of_ble_eq_true rfl⟩ rfl hl.1 rfl (Nat.le_of_ble_eq_true rfl) ⟨Nat.le_of_ble_eq_true rfl, Nat.le_of_ble_eq_true rfl⟩ dX7_shut_21 (fun S21 H locs hP21 hH hS => ?_)
    refine W.eq (g2 := F0 m 24 ls [.int ((askP S (4 + i) y 6).1)]) rfl ?_
    refine lv_istore (lv' := [(4, .int ((askP S (4 + i) y 6).1)), (3, .ref (mAdC E 26 i)), (0, .ref (mAdC E 0 0)), (1, .int x), (2, .int y)]) hx hb dX7_shut_24 hl (by decide) rfl (fun ls hl => ?_)
    refine lv_iload hx hb dX7_shut_26 (lv_at hl 0 rfl) ?_
    refine lv_if_eq (tgt := 34) hx hb dX7_shut_28 (by decide) (fun h28 => ?_) (fun h28 => ?_)
    · skip
      refine lv_aload_n hx hb dX7_shut_34 rfl (lv_at hl 1 rfl) ?_
      refine lv_iconst (v := 1) hx hb dX7_shut_35 (by decide) ?_
      refine p_X6_isShut Cx hG hO hH hS hi (Or.inr rfl) q_fl_X7_263 dX7_shut_36 (fun H locs hH hS => ?_)
      refine lv_iconst (v := 0) hx hb dX7_shut_39 (by decide) ?_
      exact mv_reti Cx hr hH hS (by rw [hva]; exact h28.symm) (by rw [hva, hP21]; exact (if_pos h28).symm) dX7_shut_40 hlocks
    · skip
      refine lv_iload hx hb dX7_shut_31 (lv_at hl 0 rfl) ?_
      exact mv_reti Cx hr hH hS (by rw [hva]; rfl) (by rw [hva]; exact hP21.trans (if_neg h28).symm) dX7_shut_33 hlocks

set_option maxHeartbeats 4000000 in
set_option maxRecDepth 100000 in
theorem c_X7_unlock (l : Launch) (E : mEv) (A : Nat → Prop) (hO : mOwn mLC E A) (S : mSt)  : Met l yX7_unlock (Cond.code yX7_unlock cX7_unlock 1 (some .int) :: mv_ws) (mRm 2 44) (mPc mLC E A S [.ref (mAdC E 0 0)]) (mQ mLC E A (fun S' => S' = if mEq (S.2.1 11 0) (S.2.1 12 0) 0 = true then mM S 0 0 15 0 else mM S 0 0 15 (S.1 0 0 15 + 1)) (some (.int (if mEq (S.2.1 11 0) (S.2.1 12 0) 0 = true then 0 else -4)))) 0 0 A := by
  refine Met.ofW (cc := cX7_unlock) (maxL := 1) (ret := (some .int)) (by decide) rfl ?_
  intro p e s m args below meth c s₁ B hml hv
  obtain ⟨rfl, hG, hH⟩ := hv
  have hx := B.exec
  have hb := B.bytes
  have hr := B.returns
  have hlocks := B.notSynchronized
  have Cx : CallFix p m c cX7_unlock 1 s ([.ref (mAdC E 0 0)] : List Value).toArray (Cond.code yX7_unlock cX7_unlock 1 (some .int) :: mv_ws) RX7 := ⟨hx, hb, hml, findClass_of_methodNamed B.named, atoms_spec (ws := Cond.code yX7_unlock cX7_unlock 1 (some .int) :: mv_ws) B.pre⟩
  have hS : va_S A s.heap s.heap [] := va_S.rf
  have hl := lv_entry ([.ref (mAdC E 0 0)]) (n := 1) (Nat.le_of_ble_eq_true rfl)
  rw [lg_entry_eq]
  generalize (lg_sl ([.ref (mAdC E 0 0)]) ++ List.replicate (1 - (lg_sl ([.ref (mAdC E 0 0)])).length) Slot.unset).toArray = ls at hl ⊢
  have hl : lv_has ls 1 [(0, .ref (mAdC E 0 0))] := hl
  refine lv_aload_n hx hb dX7_unlock_0 rfl (lv_at hl 0 rfl) ?_
  refine g_X7_theKey Cx hG hH q_fl_X7_37 dX7_unlock_1 ?_
  refine lv_aload_n hx hb dX7_unlock_4 rfl (lv_at hl 0 rfl) ?_
  refine g_X7_ownerAuth Cx hG hH q_fl_X7_41 dX7_unlock_5 ?_
  refine mv_callS (Y := mLC) (rest := []) Cx hG hH hS (c_X7_sameDigest l E A hO S 11 0 isC_11 12 0 isC_12) q_co_X7_sameDigest q_ml_X7_266 q_st_X7_sameDigest q_in_X7 hd_X7_sameDigest ⟨Nat.le_of_ble_eq_true rfl, Nat.le_of_ble_eq_true rfl⟩ rfl hl.1 rfl (Nat.le_of_ble_eq_true rfl) ⟨Nat.le_of_ble_eq_true rfl, Nat.le_of_ble_eq_true rfl⟩ dX7_unlock_8 (fun S8 H locs hP8 hH hS => ?_)
  refine W.eq (g2 := F0 m 11 ls [.int (if mEq (S.2.1 11 0) (S.2.1 12 0) 0 = true then 1 else 0)]) rfl ?_
  have hH := mv_S hP8 hH
  refine lv_if_ne (tgt := 27) hx hb dX7_unlock_11 (by decide) (fun h11 => ?_) (fun h11 => ?_)
  · skip
    refine lv_aload_n hx hb dX7_unlock_27 rfl (lv_at hl 0 rfl) ?_
    refine lv_iconst (v := 0) hx hb dX7_unlock_28 (by decide) ?_
    refine p_X7_failures Cx hG hO hH hS q_fl_X7_270 dX7_unlock_29 (fun H locs hH hS => ?_)
    refine lv_iconst (v := 0) hx hb dX7_unlock_32 (by decide) ?_
    exact mv_reti Cx hr hH hS ((if_pos (b1_of h11)).symm) ((if_pos (b1_of h11)).symm) dX7_unlock_33 hlocks
  · skip
    refine lv_aload_n hx hb dX7_unlock_14 rfl (lv_at hl 0 rfl) ?_
    refine lv_dup hx hb dX7_unlock_15 rfl ?_
    refine g_X7_failures Cx hG hH q_fl_X7_270 dX7_unlock_16 ?_
    refine lv_iconst (v := 1) hx hb dX7_unlock_19 (by decide) ?_
    refine lv_iadd hx hb dX7_unlock_20 ?_
    refine p_X7_failures Cx hG hO hH hS q_fl_X7_270 dX7_unlock_21 (fun H locs hH hS => ?_)
    refine lv_bipush (v := (-4 : Int32)) hx hb dX7_unlock_24 (by decide) ?_
    exact mv_reti Cx hr hH hS ((if_neg (b0_of h11)).symm) ((if_neg (b0_of h11)).symm) dX7_unlock_26 hlocks
