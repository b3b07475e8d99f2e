/-- four bytes of a word more -/
theorem shaOut_fill {S : mSt} {k i t : Nat} {h : Nat → Int32} {x : Int32} (hx : x = h t) (hinv : ∀ j, j < 4 * t → S.2.1 k i j = shaOut h j) : ∀ j, j < 4 * (t + 1) → (mB (mB (mB (mB S k i (4 * t) (mU x 24).toInt8) k i (4 * t + 1) (mU x 16).toInt8) k i (4 * t + 2) (mU x 8).toInt8) k i (4 * t + 3) x.toInt8).2.1 k i j = shaOut h j := by
  intro j hj
  obtain ⟨e0, e1, e2, e3⟩ := shaOut_4 h t
  subst hx
  by_cases h3 : j = 4 * t + 3
  · subst h3; rw [e3]; simp [mB, m3]
  · by_cases h2 : j = 4 * t + 2
    · subst h2; rw [e2]; simp [mB, m3]
    · by_cases h1 : j = 4 * t + 1
      · subst h1; rw [e1]; simp [mB, m3]
      · by_cases h0 : j = 4 * t
        · subst h0; rw [e0]; simp [mB, m3]
        · simp only [mB, m3, h0, h1, h2, h3, and_false, if_false]
          exact hinv j (by omega)
theorem padL_mod {xs : List Int8} (h : xs.length ≤ 503) : (padL xs).length % 64 = 0 ∧ (padL xs).length ≤ 512 := by
  rw [padL_len]
  omega
theorem fk_ne {k1 i1 : Nat} (hne : ¬ (bX 2 k1 i1 ∨ k1 = 4 ∨ k1 = 5 ∨ k1 = 6)) : ¬ (hsX k1 i1 ∨ (k1 = 6 ∧ i1 = 0)) := by
  intro h
  apply hne
  rcases h with (h | h | h) | h
  · exact Or.inl h
  · exact Or.inr (Or.inl h)
  · exact Or.inr (Or.inr (Or.inl h))
  · exact Or.inr (Or.inr (Or.inr h.1))
theorem mW_cpy8 {g : Nat → Int32} {j : Nat} (hj : j < 8) : va_cpy mI g 0 0 8 j = mI j := by rw [pk_cpy_in (by omega) (by omega)]; simp
set_option maxHeartbeats 4000000 in
set_option maxRecDepth 100000 in
theorem c_X1_finish (l : Launch) (E : mEv) (A : Nat → Prop) (hO : mOwn mLC E A) (S : mSt) (k0 i0 : Nat) (hB : mIsB mLC k0 i0 32) (xs : List Int8) (hxs : bHas S 2 xs) (hle : xs.length ≤ 503) : Met l yX1_finish (Cond.code yX1_finish cX1_finish 3 none :: mv_ws) (mRm 2 47) (mPc mLC E A S [.ref (mAdC E 1 0), .ref (mAdC E k0 i0)]) (mQ mLC E A (fun S' => (∀ j, j < 32 → S'.2.1 k0 i0 j = shaL xs j) ∧ mSame (fun k i => hsX k i ∨ (k = k0 ∧ i = i0)) S S') none) 0 0 A := by
  refine Met.ofW (cc := cX1_finish) (maxL := 3) (ret := none) (by decide) rfl ?_
  intro p e s m args below meth c s₁ B hml hv
  obtain ⟨rfl, hG, hH⟩ := hv
  have hx := B.exec
  have hb := B.bytes
  have hr := B.returns
  have hlocks := B.notSynchronized
  have Cx : CallFix p m c cX1_finish 3 s ([.ref (mAdC E 1 0), .ref (mAdC E k0 i0)] : List Value).toArray (Cond.code yX1_finish cX1_finish 3 none :: mv_ws) RX1 := ⟨hx, hb, hml, findClass_of_methodNamed B.named, atoms_spec (ws := Cond.code yX1_finish cX1_finish 3 none :: mv_ws) B.pre⟩
  have hS : va_S A s.heap s.heap [] := va_S.rf
  obtain ⟨tS, hZS, hTS⟩ := hG.2.2.1
  have hpl := padL_mod hle
  have hl := lv_entry ([.ref (mAdC E 1 0), .ref (mAdC E k0 i0)]) (n := 3) (Nat.le_of_ble_eq_true rfl)
  rw [lg_entry_eq]
  generalize (lg_sl ([.ref (mAdC E 1 0), .ref (mAdC E k0 i0)]) ++ List.replicate (3 - (lg_sl ([.ref (mAdC E 1 0), .ref (mAdC E k0 i0)])).length) Slot.unset).toArray = ls at hl ⊢
  have hl : lv_has ls 3 [(0, .ref (mAdC E 1 0)), (1, .ref (mAdC E k0 i0))] := hl
  refine lv_aload_n hx hb dX1_finish_0 rfl (lv_at hl 0 rfl) ?_
  refine mv_callV (Y := mLC) (C := RX1) (k := 1) (i := 0) (rest := []) Cx hG hH hS (c_X1_padMessage l E A hO S xs hxs hle) q_co_X1_padMessage q_ml_X1_46 q_im_X1_padMessage q_se_X1_padMessage q_in_X1 okC_1 rfl rfl hd_X1_padMessage ⟨Nat.le_of_ble_eq_true rfl, Nat.le_of_ble_eq_true rfl⟩ rfl hl.1 rfl (Nat.le_of_ble_eq_true rfl) ⟨Nat.le_of_ble_eq_true rfl, Nat.le_of_ble_eq_true rfl⟩ dX1_finish_1 (fun Sp H locs hP1 hH hS => ?_)
  refine W.eq (g2 := F0 m 4 ls []) rfl ?_
  refine mv_sta Cx hS hZS q_fl_X1_49 dX1_finish_4 ?_
  refine lv_iconst (v := 0) hx hb dX1_finish_7 (by decide) ?_
  refine lv_aload_n hx hb dX1_finish_8 rfl (lv_at hl 0 rfl) ?_
  refine g_X1_sum Cx hG hH q_fl_X1_20 dX1_finish_9 ?_
  refine lv_iconst (v := 0) hx hb dX1_finish_12 (by decide) ?_
  refine lv_aload_n hx hb dX1_finish_13 rfl (lv_at hl 0 rfl) ?_
  refine g_X1_sum Cx hG hH q_fl_X1_20 dX1_finish_14 ?_
  refine mv_ilen Cx hG hH isC_4 dX1_finish_17 ?_
  refine mv_cpt Cx hG hO hH hS hTS isC_4 8 (rfl) (rfl) (rfl) (by decide) (by decide) q_ml_X1_52 hl.1 (Nat.le_of_ble_eq_true rfl) (by decide) dX1_finish_18 (fun H locs hH hS => ?_)
  refine lv_iconst (v := 0) hx hb dX1_finish_21 (by decide) ?_
  refine mv_eqi (x' := nI (64 * 0)) (rfl) ?_
  refine lv_istore_n (lv' := [(2, .int (nI (64 * 0))), (0, .ref (mAdC E 1 0)), (1, .ref (mAdC E k0 i0))]) hx hb dX1_finish_22 rfl hl (by decide) rfl (fun ls hl => ?_)
  have lp : ∀ (n b : Nat) (S1 : mSt) (H : Heap) (locs : List Loc) (ls : Array Slot) , ((padL xs).length / 64) - b < n → b ≤ ((padL xs).length / 64) → ((∀ j, j < 8 → S1.1 4 0 j = shaN (fun q => (padL xs).getD q 0) b j) ∧ bHas S1 2 (padL xs) ∧ mSame hsX S S1) → mHold mLC E S1 H → va_S A s.heap H locs → lv_has ls 3 [(0, .ref (mAdC E 1 0)), (1, .ref (mAdC E k0 i0)), (2, .int (nI (64 * b)))] → W p l e (headSpec (Cond.code yX1_finish cX1_finish 3 none :: mv_ws) (mRm 2 47)).room s m ([.ref (mAdC E 1 0), .ref (mAdC E k0 i0)] : List Value).toArray below meth c H locs 0 0 (MQ below (mQ mLC E A (fun S' => (∀ j, j < 32 → S'.2.1 k0 i0 j = shaL xs j) ∧ mSame (fun k i => hsX k i ∨ (k = k0 ∧ i = i0)) S S') none) ([.ref (mAdC E 1 0), .ref (mAdC E k0 i0)] : List Value).toArray s 0 0 A) (F0 m 23 ls []) := by
    intro n
    induction n with
    | zero => intro b S1 H locs ls  hn hj hinv hH hS hl; omega
    | succ n ih =>
      intro b S1 H locs ls  hn hj hinv hH hS hl
      refine lv_iload_n hx hb dX1_finish_23 rfl (lv_at hl 2 rfl) ?_
      refine lv_aload_n hx hb dX1_finish_24 rfl (lv_at hl 0 rfl) ?_
      refine g_X1_message Cx hG hH q_fl_X1_16 dX1_finish_25 ?_
      refine g_X0_size Cx hG hH (by decide) q_fl_X1_31 dX1_finish_28 ?_
      refine mv_eqi (x' := nI (padL xs).length) (hinv.2.1.1) ?_
      refine lv_icmp_ge (tgt := 49) hx hb dX1_finish_31 (by decide) (fun h31 => ?_) (fun h31 => ?_)
      · skip
        have hb2 : b = ((padL xs).length / 64) := by have := ge_of (a := (padL xs).length) (by omega) (by omega) h31; omega
        refine lv_iconst (v := 0) hx hb dX1_finish_49 (by decide) ?_
        refine mv_eqi (x' := nI 0) (rfl) ?_
        refine lv_istore_n (lv' := [(2, .int (nI 0)), (0, .ref (mAdC E 1 0)), (1, .ref (mAdC E k0 i0))]) hx hb dX1_finish_50 rfl hl (by decide) rfl (fun ls hl => ?_)
        have lp2 : ∀ (n t : Nat) (S2 : mSt) (H : Heap) (locs : List Loc) (ls : Array Slot) , 8 - t < n → t ≤ 8 → ((∀ j, j < 4 * t → S2.2.1 k0 i0 j = shaOut (shaN (fun q => (padL xs).getD q 0) ((padL xs).length / 64)) j) ∧ (∀ j, j < 8 → S2.1 4 0 j = shaN (fun q => (padL xs).getD q 0) ((padL xs).length / 64) j) ∧ mSame (fun k i => hsX k i ∨ (k = k0 ∧ i = i0)) S S2) → mHold mLC E S2 H → va_S A s.heap H locs → lv_has ls 3 [(0, .ref (mAdC E 1 0)), (1, .ref (mAdC E k0 i0)), (2, .int (nI t))] → W p l e (headSpec (Cond.code yX1_finish cX1_finish 3 none :: mv_ws) (mRm 2 47)).room s m ([.ref (mAdC E 1 0), .ref (mAdC E k0 i0)] : List Value).toArray below meth c H locs 0 0 (MQ below (mQ mLC E A (fun S' => (∀ j, j < 32 → S'.2.1 k0 i0 j = shaL xs j) ∧ mSame (fun k i => hsX k i ∨ (k = k0 ∧ i = i0)) S S') none) ([.ref (mAdC E 1 0), .ref (mAdC E k0 i0)] : List Value).toArray s 0 0 A) (F0 m 51 ls []) := by
          intro n
          induction n with
          | zero => intro t S2 H locs ls  hn2 ht hin2 hH hS hl; omega
          | succ n ih =>
            intro t S2 H locs ls  hn2 ht hin2 hH hS hl
            refine lv_iload_n hx hb dX1_finish_51 rfl (lv_at hl 2 rfl) ?_
            refine lv_aload_n hx hb dX1_finish_52 rfl (lv_at hl 0 rfl) ?_
            refine g_X1_sum Cx hG hH q_fl_X1_20 dX1_finish_53 ?_
            refine mv_ilen Cx hG hH isC_4 dX1_finish_56 ?_
            refine lv_icmp_ge (tgt := 129) hx hb dX1_finish_57 (by decide) (fun h57 => ?_) (fun h57 => ?_)
            · skip
              have ht8 : t = 8 := by have := ge_of (a := 8) (by decide) (by omega) h57; omega
              exact mv_retv Cx hr hH hS (⟨fun j hj => hin2.1 j (by omega), hin2.2.2⟩) dX1_finish_129 hlocks
            · skip
              have ht8 : t < 8 := lt_of (a := 8) (by decide) (by omega) h57
              refine lv_aload_n hx hb dX1_finish_60 rfl (lv_at hl 1 rfl) ?_
              refine lv_iconst (v := 4) hx hb dX1_finish_61 (by decide) ?_
              refine lv_iload_n hx hb dX1_finish_62 rfl (lv_at hl 2 rfl) ?_
              refine lv_imul hx hb dX1_finish_63 ?_
              refine mv_eqi (x' := nI (4 * t)) (pk_mul 4 t) ?_
              refine lv_aload_n hx hb dX1_finish_64 rfl (lv_at hl 0 rfl) ?_
              refine g_X1_sum Cx hG hH q_fl_X1_20 dX1_finish_65 ?_
              refine lv_iload_n hx hb dX1_finish_68 rfl (lv_at hl 2 rfl) ?_
              refine mv_ial Cx hG hH isC_4 t (rfl) (ht8) dX1_finish_69 ?_
              refine lv_bipush (v := 24) hx hb dX1_finish_70 (by decide) ?_
              refine lv_iushr hx hb dX1_finish_72 rfl ?_
              refine lv_i2b hx hb dX1_finish_73 rfl ?_
              refine mv_bas8 Cx hG hO hH hS hB (4 * t) ((((S2.1 4 0 t).toUInt32 >>> ((24 : Int32).toUInt32 &&& Int32.toUInt32 31)).toInt32).toInt8) rfl (rfl) (by omega) dX1_finish_74 (fun H locs hH hS => ?_)
              refine lv_aload_n hx hb dX1_finish_75 rfl (lv_at hl 1 rfl) ?_
              refine lv_iconst (v := 4) hx hb dX1_finish_76 (by decide) ?_
              refine lv_iload_n hx hb dX1_finish_77 rfl (lv_at hl 2 rfl) ?_
              refine lv_imul hx hb dX1_finish_78 ?_
              refine mv_eqi (x' := nI (4 * t)) (pk_mul 4 t) ?_
              refine lv_iconst (v := 1) hx hb dX1_finish_79 (by decide) ?_
              refine lv_iadd hx hb dX1_finish_80 ?_
              refine mv_eqi (x' := nI (4 * t + 1)) (nI_add (4 * t) 1) ?_
              refine lv_aload_n hx hb dX1_finish_81 rfl (lv_at hl 0 rfl) ?_
              refine g_X1_sum Cx hG hH q_fl_X1_20 dX1_finish_82 ?_
              refine lv_iload_n hx hb dX1_finish_85 rfl (lv_at hl 2 rfl) ?_
              refine mv_ial Cx hG hH isC_4 t (rfl) (ht8) dX1_finish_86 ?_
              refine mv_eqi (x' := S2.1 4 0 t) (rfl) ?_
              refine lv_bipush (v := 16) hx hb dX1_finish_87 (by decide) ?_
              refine lv_iushr hx hb dX1_finish_89 rfl ?_
              refine lv_i2b hx hb dX1_finish_90 rfl ?_
              refine mv_bas8 Cx hG hO hH hS hB (4 * t + 1) ((((S2.1 4 0 t).toUInt32 >>> ((16 : Int32).toUInt32 &&& Int32.toUInt32 31)).toInt32).toInt8) rfl (rfl) (by omega) dX1_finish_91 (fun H locs hH hS => ?_)
              refine lv_aload_n hx hb dX1_finish_92 rfl (lv_at hl 1 rfl) ?_
              refine lv_iconst (v := 4) hx hb dX1_finish_93 (by decide) ?_
              refine lv_iload_n hx hb dX1_finish_94 rfl (lv_at hl 2 rfl) ?_
              refine lv_imul hx hb dX1_finish_95 ?_
              refine mv_eqi (x' := nI (4 * t)) (pk_mul 4 t) ?_
              refine lv_iconst (v := 2) hx hb dX1_finish_96 (by decide) ?_
              refine lv_iadd hx hb dX1_finish_97 ?_
              refine mv_eqi (x' := nI (4 * t + 2)) (nI_add (4 * t) 2) ?_
              refine lv_aload_n hx hb dX1_finish_98 rfl (lv_at hl 0 rfl) ?_
              refine g_X1_sum Cx hG hH q_fl_X1_20 dX1_finish_99 ?_
              refine lv_iload_n hx hb dX1_finish_102 rfl (lv_at hl 2 rfl) ?_
              refine mv_ial Cx hG hH isC_4 t (rfl) (ht8) dX1_finish_103 ?_
              refine mv_eqi (x' := S2.1 4 0 t) (rfl) ?_
              refine lv_bipush (v := 8) hx hb dX1_finish_104 (by decide) ?_
              refine lv_iushr hx hb dX1_finish_106 rfl ?_
              refine lv_i2b hx hb dX1_finish_107 rfl ?_
              refine mv_bas8 Cx hG hO hH hS hB (4 * t + 2) ((((S2.1 4 0 t).toUInt32 >>> ((8 : Int32).toUInt32 &&& Int32.toUInt32 31)).toInt32).toInt8) rfl (rfl) (by omega) dX1_finish_108 (fun H locs hH hS => ?_)
              refine lv_aload_n hx hb dX1_finish_109 rfl (lv_at hl 1 rfl) ?_
              refine lv_iconst (v := 4) hx hb dX1_finish_110 (by decide) ?_
              refine lv_iload_n hx hb dX1_finish_111 rfl (lv_at hl 2 rfl) ?_
              refine lv_imul hx hb dX1_finish_112 ?_
              refine mv_eqi (x' := nI (4 * t)) (pk_mul 4 t) ?_
              refine lv_iconst (v := 3) hx hb dX1_finish_113 (by decide) ?_
              refine lv_iadd hx hb dX1_finish_114 ?_
              refine mv_eqi (x' := nI (4 * t + 3)) (nI_add (4 * t) 3) ?_
              refine lv_aload_n hx hb dX1_finish_115 rfl (lv_at hl 0 rfl) ?_
              refine g_X1_sum Cx hG hH q_fl_X1_20 dX1_finish_116 ?_
              refine lv_iload_n hx hb dX1_finish_119 rfl (lv_at hl 2 rfl) ?_
              refine mv_ial Cx hG hH isC_4 t (rfl) (ht8) dX1_finish_120 ?_
              refine mv_eqi (x' := S2.1 4 0 t) (rfl) ?_
              refine lv_i2b hx hb dX1_finish_121 rfl ?_
              refine mv_bas8 Cx hG hO hH hS hB (4 * t + 3) ((S2.1 4 0 t).toInt8) rfl (rfl) (by omega) dX1_finish_122 (fun H locs hH hS => ?_)
              refine lv_iinc (v := nI (t + 1)) (lv' := [(2, .int (nI (t + 1))), (0, .ref (mAdC E 1 0)), (1, .ref (mAdC E k0 i0))]) hx hb dX1_finish_123 hl (k := 2) rfl (i2_1 t) (by decide) rfl (fun ls hl => ?_)
              refine lv_goto (tgt := 51) hx hb dX1_finish_126 (by decide) ?_
              exact ih (t + 1) (mB (mB (mB (mB S2 k0 i0 (4 * t) ((((S2.1 4 0 t).toUInt32 >>> ((24 : Int32).toUInt32 &&& Int32.toUInt32 31)).toInt32).toInt8)) k0 i0 (4 * t + 1) ((((S2.1 4 0 t).toUInt32 >>> ((16 : Int32).toUInt32 &&& Int32.toUInt32 31)).toInt32).toInt8)) k0 i0 (4 * t + 2) ((((S2.1 4 0 t).toUInt32 >>> ((8 : Int32).toUInt32 &&& Int32.toUInt32 31)).toInt32).toInt8)) k0 i0 (4 * t + 3) ((S2.1 4 0 t).toInt8)) _ _ ls  (by omega) (by omega) (⟨shaOut_fill (hin2.2.1 t (by omega)) hin2.1, fun j hj => hin2.2.1 j hj, hin2.2.2.tr ((((mSame.B (Or.inr ⟨rfl, rfl⟩)).tr (mSame.B (Or.inr ⟨rfl, rfl⟩))).tr (mSame.B (Or.inr ⟨rfl, rfl⟩))).tr (mSame.B (Or.inr ⟨rfl, rfl⟩)))⟩) hH hS (lv_sub hl [1, 2, 0] rfl)
        exact lp2 (8 - 0 + 1) 0 S1 _ _ ls  (by omega) (by omega) (⟨fun j hj => absurd hj (by omega), by rw [hb2] at hinv; exact hinv.1, hinv.2.2.wk (fun _ _ h => Or.inl h)⟩) hH hS (lv_sub hl [1, 2, 0] rfl)
      · skip
        have hb2 : b < ((padL xs).length / 64) := by have := lt_of (a := (padL xs).length) (by omega) (by omega) h31; omega
        refine lv_aload_n hx hb dX1_finish_34 rfl (lv_at hl 0 rfl) ?_
        refine lv_iload_n hx hb dX1_finish_35 rfl (lv_at hl 2 rfl) ?_
        refine mv_callV (Y := mLC) (C := RX1) (k := 1) (i := 0) (rest := []) Cx hG hH hS (c_X1_spreadBlock l E A hO S1 (64 * b) (by omega)) q_co_X1_spreadBlock q_ml_X1_58 q_im_X1_spreadBlock q_se_X1_spreadBlock q_in_X1 okC_1 rfl rfl hd_X1_spreadBlock ⟨Nat.le_of_ble_eq_true rfl, Nat.le_of_ble_eq_true rfl⟩ rfl hl.1 rfl (Nat.le_of_ble_eq_true rfl) ⟨Nat.le_of_ble_eq_true rfl, Nat.le_of_ble_eq_true rfl⟩ dX1_finish_36 (fun S36 H locs hP36 hH hS => ?_)
        refine W.eq (g2 := F0 m 39 ls []) rfl ?_
        refine lv_aload_n hx hb dX1_finish_39 rfl (lv_at hl 0 rfl) ?_
        refine mv_callV (Y := mLC) (C := RX1) (k := 1) (i := 0) (rest := []) Cx hG hH hS (c_X1_mixBlock l E A hO S36) q_co_X1_mixBlock q_ml_X1_61 q_im_X1_mixBlock q_se_X1_mixBlock q_in_X1 okC_1 rfl rfl hd_X1_mixBlock ⟨Nat.le_of_ble_eq_true rfl, Nat.le_of_ble_eq_true rfl⟩ rfl hl.1 rfl (Nat.le_of_ble_eq_true rfl) ⟨Nat.le_of_ble_eq_true rfl, Nat.le_of_ble_eq_true rfl⟩ dX1_finish_40 (fun S40 H locs hP40 hH hS => ?_)
        refine W.eq (g2 := F0 m 43 ls []) rfl ?_
        refine lv_iinc (v := nI (64 * (b + 1))) (lv' := [(2, .int (nI (64 * (b + 1)))), (0, .ref (mAdC E 1 0)), (1, .ref (mAdC E k0 i0))]) hx hb dX1_finish_43 hl (k := 2) rfl (by rw [show Int32.ofInt 64 = nI 64 from rfl, nI_add]; rfl) (by decide) rfl (fun ls hl => ?_)
        refine lv_goto (tgt := 23) hx hb dX1_finish_46 (by decide) ?_
        exact ih (b + 1) S40 _ _ ls  (by omega) (by omega) (⟨shaN_step (f := S1.2.1 3 2) (h := fun q => S36.1 4 0 q) (w := fun q => S36.1 5 0 q) (fun j hj => ((hP36.2 4 0 (by decide)).1 j).trans (hinv.1 j hj)) (fun j hj => hP36.1 j (by omega)) (fun j h1 h2 => hinv.2.1.2.2 j (by omega)) hP40.1, (hinv.2.1.keep (X := fun k _ => k = 4 ∨ k = 5) ((hP36.2.wk (fun _ _ h => Or.inr h)).tr (hP40.2.wk (fun _ _ h => Or.inl h))) (by decide) (by decide)), (hinv.2.2.tr (hP36.2.wk (fun _ _ h => Or.inr (Or.inr h)))).tr (hP40.2.wk (fun _ _ h => Or.inr (Or.inl h)))⟩) hH hS (lv_sub hl [1, 2, 0] rfl)
  exact lp (((padL xs).length / 64) - 0 + 1) 0 (mAM Sp 4 0 (va_cpy mI (Sp.1 4 0) 0 0 8)) _ _ ls  (by omega) (by omega) (⟨fun j hj => (show mA Sp.1 4 0 (va_cpy mI (Sp.1 4 0) 0 0 8) 4 0 j = mI j by rw [mA, if_pos ⟨rfl, rfl⟩]; exact mW_cpy8 hj), hP1.1.keep (X := fun k _ => k = 4) (mSame.AM rfl) (by decide) (by decide), (hP1.2.wk (fun _ _ h => Or.inl h)).tr (mSame.AM (Or.inr (Or.inl rfl)))⟩) hH hS (lv_sub hl [1, 2, 0] rfl)

set_option maxHeartbeats 4000000 in
set_option maxRecDepth 100000 in
theorem c_X1_finishKeyed (l : Launch) (E : mEv) (A : Nat → Prop) (hO : mOwn mLC E A) (S : mSt) (k1 i1 : Nat) (hB1 : mIsB mLC k1 i1 32) (hne : ¬ (bX 2 k1 i1 ∨ k1 = 4 ∨ k1 = 5 ∨ k1 = 6)) (k0 i0 : Nat) (hB : mIsB mLC k0 i0 32) (xs : List Int8) (hxs : bHas S 2 xs) (hle : xs.length ≤ 503) : Met l yX1_finishKeyed (Cond.code yX1_finishKeyed cX1_finishKeyed 3 none :: mv_ws) (mRm 3 69) (mPc mLC E A S [.ref (mAdC E 1 0), .ref (mAdC E k1 i1), .ref (mAdC E k0 i0)]) (mQ mLC E A (fun S' => (∀ j, j < 32 → S'.2.1 k0 i0 j = shaL (padK (S.2.1 k1 i1) 92 64 ++ mTk (shaL xs) 32) j) ∧ mSame (fun k i => hsX k i ∨ k = 6 ∨ (k = k0 ∧ i = i0)) S S') none) 0 0 A := by
  refine Met.ofW (cc := cX1_finishKeyed) (maxL := 3) (ret := none) (by decide) rfl ?_
  intro p e s m args below meth c s₁ B hml hv
  obtain ⟨rfl, hG, hH⟩ := hv
  have hx := B.exec
  have hb := B.bytes
  have hr := B.returns
  have hlocks := B.notSynchronized
  have Cx : CallFix p m c cX1_finishKeyed 3 s ([.ref (mAdC E 1 0), .ref (mAdC E k1 i1), .ref (mAdC E k0 i0)] : List Value).toArray (Cond.code yX1_finishKeyed cX1_finishKeyed 3 none :: mv_ws) RX1 := ⟨hx, hb, hml, findClass_of_methodNamed B.named, atoms_spec (ws := Cond.code yX1_finishKeyed cX1_finishKeyed 3 none :: mv_ws) B.pre⟩
  have hS : va_S A s.heap s.heap [] := va_S.rf
  have hl := lv_entry ([.ref (mAdC E 1 0), .ref (mAdC E k1 i1), .ref (mAdC E k0 i0)]) (n := 3) (Nat.le_of_ble_eq_true rfl)
  rw [lg_entry_eq]
  generalize (lg_sl ([.ref (mAdC E 1 0), .ref (mAdC E k1 i1), .ref (mAdC E k0 i0)]) ++ List.replicate (3 - (lg_sl ([.ref (mAdC E 1 0), .ref (mAdC E k1 i1), .ref (mAdC E k0 i0)])).length) Slot.unset).toArray = ls at hl ⊢
  have hl : lv_has ls 3 [(0, .ref (mAdC E 1 0)), (1, .ref (mAdC E k1 i1)), (2, .ref (mAdC E k0 i0))] := hl
  refine lv_aload_n hx hb dX1_finishKeyed_0 rfl (lv_at hl 0 rfl) ?_
  refine lv_aload_n hx hb dX1_finishKeyed_1 rfl (lv_at hl 0 rfl) ?_
  refine g_X1_innerHash Cx hG hH q_fl_X1_27 dX1_finishKeyed_2 ?_
  refine mv_callV (Y := mLC) (C := RX1) (k := 1) (i := 0) (rest := []) Cx hG hH hS (c_X1_finish l E A hO S 6 0 isC_6 xs hxs hle) q_co_X1_finish q_ml_X1_39 q_im_X1_finish q_se_X1_finish q_in_X1 okC_1 rfl rfl hd_X1_finish ⟨Nat.le_of_ble_eq_true rfl, Nat.le_of_ble_eq_true rfl⟩ rfl hl.1 rfl (Nat.le_of_ble_eq_true rfl) ⟨Nat.le_of_ble_eq_true rfl, Nat.le_of_ble_eq_true rfl⟩ dX1_finishKeyed_5 (fun S5 H locs hP5 hH hS => ?_)
  refine W.eq (g2 := F0 m 8 ls []) rfl ?_
  refine lv_aload_n hx hb dX1_finishKeyed_8 rfl (lv_at hl 0 rfl) ?_
  refine g_X1_message Cx hG hH q_fl_X1_16 dX1_finishKeyed_9 ?_
  refine lv_iconst (v := 0) hx hb dX1_finishKeyed_12 (by decide) ?_
  refine p_X0_size Cx hG hO hH hS (by decide) q_fl_X1_31 dX1_finishKeyed_13 (fun H locs hH hS => ?_)
  refine lv_aload_n hx hb dX1_finishKeyed_16 rfl (lv_at hl 0 rfl) ?_
  refine lv_aload_n hx hb dX1_finishKeyed_17 rfl (lv_at hl 1 rfl) ?_
  refine lv_bipush (v := 92) hx hb dX1_finishKeyed_18 (by decide) ?_
  refine mv_callV (Y := mLC) (C := RX1) (k := 1) (i := 0) (rest := []) Cx hG hH hS (c_X1_putPad l E A hO (mM S5 2 2 1 0) k1 i1 hB1 (fun h => hne (Or.inl h)) [] bHas.nil 92 (by decide)) q_co_X1_putPad q_ml_X1_35 q_im_X1_putPad q_se_X1_putPad q_in_X1 okC_1 rfl rfl hd_X1_putPad ⟨Nat.le_of_ble_eq_true rfl, Nat.le_of_ble_eq_true rfl⟩ rfl hl.1 rfl (Nat.le_of_ble_eq_true rfl) ⟨Nat.le_of_ble_eq_true rfl, Nat.le_of_ble_eq_true rfl⟩ dX1_finishKeyed_20 (fun S20 H locs hP20 hH hS => ?_)
  refine W.eq (g2 := F0 m 23 ls []) rfl ?_
  refine lv_aload_n hx hb dX1_finishKeyed_23 rfl (lv_at hl 0 rfl) ?_
  refine g_X1_message Cx hG hH q_fl_X1_16 dX1_finishKeyed_24 ?_
  refine lv_aload_n hx hb dX1_finishKeyed_27 rfl (lv_at hl 0 rfl) ?_
  refine g_X1_innerHash Cx hG hH q_fl_X1_27 dX1_finishKeyed_28 ?_
  refine lv_bipush (v := 32) hx hb dX1_finishKeyed_31 (by decide) ?_
  refine mv_callV (Y := mLC) (C := RX0) (k := 2) (i := 2) (rest := []) Cx hG hH hS (c_X0_putAll l E A hO S20 2 (by decide) _ hP20.1 6 0 32 32 isC_6 (by decide) (by rw [List.nil_append, padK_len]; decide)) q_co_X0_putAll q_ml_X1_43 q_im_X0_putAll q_se_X0_putAll q_in_X0 (okC_2 (by decide)) rfl rfl hd_X0_putAll ⟨Nat.le_of_ble_eq_true rfl, Nat.le_of_ble_eq_true rfl⟩ rfl hl.1 rfl (Nat.le_of_ble_eq_true rfl) ⟨Nat.le_of_ble_eq_true rfl, Nat.le_of_ble_eq_true rfl⟩ dX1_finishKeyed_33 (fun S33 H locs hP33 hH hS => ?_)
  refine W.eq (g2 := F0 m 36 ls []) rfl ?_
  refine lv_aload_n hx hb dX1_finishKeyed_36 rfl (lv_at hl 0 rfl) ?_
  refine lv_aload_n hx hb dX1_finishKeyed_37 rfl (lv_at hl 2 rfl) ?_
  refine mv_callV (Y := mLC) (C := RX1) (k := 1) (i := 0) (rest := []) Cx hG hH hS (c_X1_finish l E A hO S33 k0 i0 hB _ hP33.1 (by rw [List.nil_append, List.length_append, padK_len, mTk_len]; decide)) q_co_X1_finish q_ml_X1_39 q_im_X1_finish q_se_X1_finish q_in_X1 okC_1 rfl rfl hd_X1_finish ⟨Nat.le_of_ble_eq_true rfl, Nat.le_of_ble_eq_true rfl⟩ rfl hl.1 rfl (Nat.le_of_ble_eq_true rfl) ⟨Nat.le_of_ble_eq_true rfl, Nat.le_of_ble_eq_true rfl⟩ dX1_finishKeyed_38 (fun S38 H locs hP38 hH hS => ?_)
  refine W.eq (g2 := F0 m 41 ls []) rfl ?_
  have hk : padK ((mM S5 2 2 1 0).2.1 k1 i1) 92 64 = padK (S.2.1 k1 i1) 92 64 := padK_congr (fun j _ => (hP5.2 k1 i1 (fk_ne hne)).2.1 j)
  have hm : mTk (S20.2.1 6 0) 32 = mTk (shaL xs) 32 := mTk_congr (fun j hj => ((hP20.2 6 0 (by simp [bX])).2.1 j).trans (hP5.1 j hj))
  have hsame : mSame (fun k i => hsX k i ∨ k = 6 ∨ (k = k0 ∧ i = i0)) S S38 := ((((hP5.2.wk (fun _ _ h => h.elim Or.inl (fun z => Or.inr (Or.inl z.1)))).tr (mSame.M (Or.inl (Or.inl ⟨Or.inl rfl, rfl⟩)))).tr (hP20.2.wk (fun _ _ h => Or.inl (Or.inl h)))).tr (hP33.2.wk (fun _ _ h => Or.inl (Or.inl h)))).tr (hP38.2.wk (fun _ _ h => h.elim Or.inl (fun z => Or.inr (Or.inr z))))
  exact mv_retv Cx hr hH hS (⟨fun j hj => (hP38.1 j hj).trans (by rw [hk, hm]; rfl), hsame⟩) dX1_finishKeyed_41 hlocks
