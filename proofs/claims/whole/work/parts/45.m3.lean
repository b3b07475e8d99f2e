/-! ===== the reference: hashes of rows ===== -/
def hX (k0 a : Nat) : Nat → Nat → Prop := fun k j => k = 7 ∨ k = 8 ∨ (k = k0 ∧ a ≤ j ∧ j < a + 32)
/-- what the reference keeps nothing in, from call to call -/
def scM : Nat → Nat → Prop := fun k j => nX 5 k j ∨ k = 7 ∨ k = 8 ∨ k = 9 ∨ k = 10 ∨ nX 11 k j ∨ k = 38
theorem padL_64 {xs : List Int8} (h : xs.length ≤ 503) : (xs.length + 72) / 64 * 64 = (padL xs).length := by
  rw [padL_len]
  omega
theorem zx_32 (x : Int32) : (zx x).toInt32 = x := by
  apply Int32.toBitVec_inj.mp
  unfold zx
  rw [Int64.toBitVec_toInt32, wb_tb]
  apply BitVec.eq_of_getLsbD_eq
  intro i hi
  have h64 : i < 64 := by omega
  rw [BitVec.getLsbD_signExtend, if_pos h64, BitVec.getLsbD_ofNat]
  simp [hi, h64, BitVec.testBit_toNat]
theorem zx_out (h : Nat → Int32) (j : Nat) : (zx (h (j / 4)) >>> ((nI (24 - 8 * (j % 4))).toInt64 &&& 63)).toInt32.toInt8 = shaOut h j := by
  rw [zx_shr _ (by omega), zx_32]
  unfold shaOut
  rcases (show j % 4 = 0 ∨ j % 4 = 1 ∨ j % 4 = 2 ∨ j % 4 = 3 by omega) with e | e | e | e <;> rw [e]
  · rfl
  · rfl
  · rfl
  · show _ = (h (j / 4)).toInt8
    congr 1
theorem mTk_list {f : Nat → Int8} {xs : List Int8} (h : ∀ j, j < xs.length → f j = xs.getD j 0) : mTk f xs.length = xs := by
  apply List.ext_getElem
  · rw [mTk_len]
  · intro i h1 h2
    have e := h i h2
    simp [List.getD_eq_getElem?_getD, h2] at e
    simp [mTk, e]
theorem nHas.list {c cap : Nat} {S : mSt} {xs : List Int8} (h : nHas c cap S xs) : mTk (fun q => S.2.1 c 0 (0 + q)) xs.length = xs := mTk_list (fun j hj => by rw [Nat.zero_add]; exact h.2.2 j hj)
theorem bit_r (x : Int32) {r : Nat} (hr : r < 8) : (x >>> (nI r &&& 31)) &&& 1 = mU x (nI r) &&& 1 := by
  apply Int32.toBitVec_inj.mp
  rw [Int32.toBitVec_and, Int32.toBitVec_and]
  apply BitVec.eq_of_getLsbD_eq
  intro i hi
  rw [BitVec.getLsbD_and, BitVec.getLsbD_and]
  by_cases h0 : i = 0
  · subst h0
    rw [Int32.toBitVec_shiftRight]
    have e1 : BitVec.sshiftRight' x.toBitVec ((nI r &&& 31).toBitVec.smod 32) = BitVec.sshiftRight x.toBitVec r := by
      unfold BitVec.sshiftRight'
      rw [sh_l r (by omega)]
    have e2 : (mU x (nI r)).toBitVec = x.toBitVec >>> r := by
      apply BitVec.eq_of_toNat_eq
      rw [BitVec.toNat_ushiftRight, Nat.shiftRight_eq_div_pow]
      exact pk_ushr x (nI r) r (sh_u r (by omega))
    rw [e1, e2, BitVec.getLsbD_sshiftRight, BitVec.getLsbD_ushiftRight]
    have h2 : r + 0 < 32 := by omega
    simp [h2]
    intro h3
    omega
  · have h1 : ∀ i, i < 32 → ¬ i = 0 → (1 : Int32).toBitVec.getLsbD i = false := by decide
    rw [h1 i hi h0]
    simp
theorem bit_01 (x : Int32) : x &&& 1 = 0 ∨ x &&& 1 = 1 := by
  have h : u32 (x &&& 1) = u32 x % 2 := by rw [u32_and, show u32 1 = 2 ^ 1 - 1 from rfl, Nat.and_two_pow_sub_one_eq_mod]
  rcases (show u32 x % 2 = 0 ∨ u32 x % 2 = 1 by omega) with e | e
  · left
    exact u32_inj (h.trans e)
  · right
    exact u32_inj (h.trans e)
set_option maxHeartbeats 4000000 in
set_option maxRecDepth 100000 in
theorem c_X8_hashTo (l : Launch) (E : mEv) (A : Nat → Prop) (hO : mOwn mLM E A) (S : mSt) (k0 n0 : Nat) (hB : mIsB mLM k0 0 n0) (hk0 : ¬ k0 = 5 ∧ ¬ k0 = 0 ∧ ¬ k0 = 7 ∧ ¬ k0 = 8) (a : Nat) (ha : a + 32 ≤ n0) (xs : List Int8) (hxs : nHas 5 1024 S xs) (hle : xs.length ≤ 503) : Met l yX8_hashTo (Cond.code yX8_hashTo cX8_hashTo 5 none :: mv_ws) (mRm 2 66) (mPc mLM E A S [.ref (mAdM E 0 0), .ref (mAdM E k0 0), .int (nI a)]) (mQ mLM E A (fun S' => (∀ q, q < 32 → S'.2.1 k0 0 (a + q) = shaL xs q) ∧ nSame (hX k0 a) S S') none) 0 0 A := by
  refine Met.ofW (cc := cX8_hashTo) (maxL := 5) (ret := none) (by decide) rfl ?_
  intro p e s m args below meth c s₁ B hml hv
  obtain ⟨rfl, hG, hH⟩ := hv
  have hx := B.exec
  have hb := B.bytes
  have hr := B.returns
  have hlocks := B.notSynchronized
  have Cx : CallFix p m c cX8_hashTo 5 s ([.ref (mAdM E 0 0), .ref (mAdM E k0 0), .int (nI a)] : List Value).toArray (Cond.code yX8_hashTo cX8_hashTo 5 none :: mv_ws) RX8 := ⟨hx, hb, hml, findClass_of_methodNamed B.named, atoms_spec (ws := Cond.code yX8_hashTo cX8_hashTo 5 none :: mv_ws) B.pre⟩
  have hS : va_S A s.heap s.heap [] := va_S.rf
  obtain ⟨tI, hZI, hTI⟩ := hG.2.2.2.2.1
  have hL := padL_64 hle
  have hn0 := hB.2.1
  have hl := lv_entry ([.ref (mAdM E 0 0), .ref (mAdM E k0 0), .int (nI a)]) (n := 5) (Nat.le_of_ble_eq_true rfl)
  rw [lg_entry_eq]
  generalize (lg_sl ([.ref (mAdM E 0 0), .ref (mAdM E k0 0), .int (nI a)]) ++ List.replicate (5 - (lg_sl ([.ref (mAdM E 0 0), .ref (mAdM E k0 0), .int (nI a)])).length) Slot.unset).toArray = ls at hl ⊢
  have hl : lv_has ls 5 [(0, .ref (mAdM E 0 0)), (1, .ref (mAdM E k0 0)), (2, .int (nI a))] := hl
  refine lv_iconst (v := 0) hx hb dX8_hashTo_0 (by decide) ?_
  refine mv_eqi (x' := nI 0) (rfl) ?_
  refine lv_istore_n (lv' := [(3, .int (nI 0)), (0, .ref (mAdM E 0 0)), (1, .ref (mAdM E k0 0)), (2, .int (nI a))]) hx hb dX8_hashTo_1 rfl hl (by decide) rfl (fun ls hl => ?_)
  have lp : ∀ (fu j : Nat) (S1 : mSt) (H : Heap) (locs : List Loc) (ls : Array Slot) , 8 - j < fu → j ≤ 8 → ((∀ q, q < j → S1.2.2 7 0 q = zx (mI q)) ∧ nSame (fun k _ => k = 7) S S1) → mHold mLM E S1 H → va_S A s.heap H locs → lv_has ls 5 [(0, .ref (mAdM E 0 0)), (1, .ref (mAdM E k0 0)), (2, .int (nI a)), (3, .int (nI j))] → W p l e (headSpec (Cond.code yX8_hashTo cX8_hashTo 5 none :: mv_ws) (mRm 2 66)).room s m ([.ref (mAdM E 0 0), .ref (mAdM E k0 0), .int (nI a)] : List Value).toArray below meth c H locs 0 0 (MQ below (mQ mLM E A (fun S' => (∀ q, q < 32 → S'.2.1 k0 0 (a + q) = shaL xs q) ∧ nSame (hX k0 a) S S') none) ([.ref (mAdM E 0 0), .ref (mAdM E k0 0), .int (nI a)] : List Value).toArray s 0 0 A) (F0 m 2 ls []) := by
    intro fu
    induction fu with
    | zero => intro j S1 H locs ls  hn hj hinv hH hS hl; omega
    | succ fu ih1 =>
      intro j S1 H locs ls  hn hj hinv hH hS hl
      refine lv_iload_n hx hb dX8_hashTo_2 rfl (lv_at hl 3 rfl) ?_
      refine lv_bipush (v := 8) hx hb dX8_hashTo_3 (by decide) ?_
      refine lv_icmp_ge (tgt := 30) hx hb dX8_hashTo_5 (by decide) (fun h5 => ?_) (fun h5 => ?_)
      · skip
        have hj8 : j = 8 := by have := ge_of (a := 8) (by decide) (by omega) h5; omega
        refine lv_aload_n hx hb dX8_hashTo_30 rfl (lv_at hl 0 rfl) ?_
        refine g_X8_rowCount Cx hG hH q_fl_X8_100 dX8_hashTo_31 ?_
        refine mv_eqi (x' := nI xs.length) ((hinv.2 0 5 (show ¬ (0 : Nat) = 7 by decide)).1.trans hxs.1) ?_
        refine lv_bipush (v := 72) hx hb dX8_hashTo_34 (by decide) ?_
        refine lv_iadd hx hb dX8_hashTo_36 ?_
        refine mv_eqi (x' := nI (xs.length + 72)) (nI_add _ 72) ?_
        refine lv_bipush (v := 64) hx hb dX8_hashTo_37 (by decide) ?_
        refine lv_idiv hx hb dX8_hashTo_39 (by decide) ?_
        refine mv_eqi (x' := nI ((xs.length + 72) / 64)) (pk_div (a := xs.length + 72) (d := 64) (by omega) (by decide) (by decide)) ?_
        refine lv_bipush (v := 64) hx hb dX8_hashTo_40 (by decide) ?_
        refine lv_imul hx hb dX8_hashTo_42 ?_
        refine mv_eqi (x' := nI (padL xs).length) (by rw [show (64 : Int32) = nI 64 from rfl, pk_mul, padL_64 hle]) ?_
        refine lv_istore_n (lv' := [(3, .int (nI (padL xs).length)), (0, .ref (mAdM E 0 0)), (1, .ref (mAdM E k0 0)), (2, .int (nI a))]) hx hb dX8_hashTo_43 rfl hl (by decide) rfl (fun ls hl => ?_)
        refine lv_iconst (v := 0) hx hb dX8_hashTo_44 (by decide) ?_
        refine mv_eqi (x' := nI (64 * 0)) (rfl) ?_
        refine lv_istore (lv' := [(4, .int (nI (64 * 0))), (3, .int (nI (padL xs).length)), (0, .ref (mAdM E 0 0)), (1, .ref (mAdM E k0 0)), (2, .int (nI a))]) hx hb dX8_hashTo_45 hl (by decide) rfl (fun ls hl => ?_)
        have lp2 : ∀ (fu t : Nat) (S2 : mSt) (H : Heap) (locs : List Loc) (ls : Array Slot) , ((padL xs).length / 64) - t < fu → t ≤ ((padL xs).length / 64) → ((∀ q, q < 8 → S2.2.2 7 0 q = zx (shaN (pF xs) t q)) ∧ nSame (fun k _ => k = 7 ∨ k = 8) S S2) → mHold mLM E S2 H → va_S A s.heap H locs → lv_has ls 5 [(0, .ref (mAdM E 0 0)), (1, .ref (mAdM E k0 0)), (2, .int (nI a)), (3, .int (nI (padL xs).length)), (4, .int (nI (64 * t)))] → W p l e (headSpec (Cond.code yX8_hashTo cX8_hashTo 5 none :: mv_ws) (mRm 2 66)).room s m ([.ref (mAdM E 0 0), .ref (mAdM E k0 0), .int (nI a)] : List Value).toArray below meth c H locs 0 0 (MQ below (mQ mLM E A (fun S' => (∀ q, q < 32 → S'.2.1 k0 0 (a + q) = shaL xs q) ∧ nSame (hX k0 a) S S') none) ([.ref (mAdM E 0 0), .ref (mAdM E k0 0), .int (nI a)] : List Value).toArray s 0 0 A) (F0 m 47 ls []) := by
          intro fu
          induction fu with
          | zero => intro t S2 H locs ls  hn2 ht hin2 hH hS hl; omega
          | succ fu ih2 =>
            intro t S2 H locs ls  hn2 ht hin2 hH hS hl
            refine lv_iload hx hb dX8_hashTo_47 (lv_at hl 4 rfl) ?_
            refine lv_iload_n hx hb dX8_hashTo_49 rfl (lv_at hl 3 rfl) ?_
            refine lv_icmp_ge (tgt := 70) hx hb dX8_hashTo_50 (by decide) (fun h50 => ?_) (fun h50 => ?_)
            · skip
              have htB : t = ((padL xs).length / 64) := by have := ge_of (a := (padL xs).length) (b := 64 * t) (by omega) (by omega) h50; omega
              rw [htB] at hin2
              refine lv_iconst (v := 0) hx hb dX8_hashTo_70 (by decide) ?_
              refine mv_eqi (x' := nI 0) (rfl) ?_
              refine lv_istore (lv' := [(4, .int (nI 0)), (0, .ref (mAdM E 0 0)), (1, .ref (mAdM E k0 0)), (2, .int (nI a)), (3, .int (nI (padL xs).length))]) hx hb dX8_hashTo_71 hl (by decide) rfl (fun ls hl => ?_)
              have lp3 : ∀ (fu r : Nat) (S3 : mSt) (H : Heap) (locs : List Loc) (ls : Array Slot) , 32 - r < fu → r ≤ 32 → ((∀ q, q < r → S3.2.1 k0 0 (a + q) = shaL xs q) ∧ nSame (fun k j => k = k0 ∧ a ≤ j ∧ j < a + 32) S2 S3) → mHold mLM E S3 H → va_S A s.heap H locs → lv_has ls 5 [(0, .ref (mAdM E 0 0)), (1, .ref (mAdM E k0 0)), (2, .int (nI a)), (3, .int (nI (padL xs).length)), (4, .int (nI r))] → W p l e (headSpec (Cond.code yX8_hashTo cX8_hashTo 5 none :: mv_ws) (mRm 2 66)).room s m ([.ref (mAdM E 0 0), .ref (mAdM E k0 0), .int (nI a)] : List Value).toArray below meth c H locs 0 0 (MQ below (mQ mLM E A (fun S' => (∀ q, q < 32 → S'.2.1 k0 0 (a + q) = shaL xs q) ∧ nSame (hX k0 a) S S') none) ([.ref (mAdM E 0 0), .ref (mAdM E k0 0), .int (nI a)] : List Value).toArray s 0 0 A) (F0 m 73 ls []) := by
                intro fu
                induction fu with
                | zero => intro r S3 H locs ls  hn3 hr3 hin3 hH hS hl; omega
                | succ fu ih3 =>
                  intro r S3 H locs ls  hn3 hr3 hin3 hH hS hl
                  refine lv_iload hx hb dX8_hashTo_73 (lv_at hl 4 rfl) ?_
                  refine lv_bipush (v := 32) hx hb dX8_hashTo_75 (by decide) ?_
                  refine lv_icmp_ge (tgt := 114) hx hb dX8_hashTo_77 (by decide) (fun h77 => ?_) (fun h77 => ?_)
                  · skip
                    have hr32 : r = 32 := by have := ge_of (a := 32) (by decide) (by omega) h77; omega
                    exact mv_retv Cx hr hH hS (⟨fun q hq => hin3.1 q (by omega), (hin2.2.wk (X' := hX k0 a) (fun k j h => h.elim Or.inl (fun z => Or.inr (Or.inl z)))).tr (hin3.2.wk (fun k j h => Or.inr (Or.inr h)))⟩) dX8_hashTo_114 hlocks
                  · skip
                    have hr32 : r < 32 := lt_of (a := 32) (by decide) (by omega) h77
                    refine lv_aload_n hx hb dX8_hashTo_80 rfl (lv_at hl 1 rfl) ?_
                    refine lv_iload_n hx hb dX8_hashTo_81 rfl (lv_at hl 2 rfl) ?_
                    refine lv_iload hx hb dX8_hashTo_82 (lv_at hl 4 rfl) ?_
                    refine lv_iadd hx hb dX8_hashTo_84 ?_
                    refine mv_eqi (x' := nI (a + r)) (nI_add _ _) ?_
                    refine lv_aload_n hx hb dX8_hashTo_85 rfl (lv_at hl 0 rfl) ?_
                    refine g_X8_h Cx hG hH q_fl_X8_19 dX8_hashTo_86 ?_
                    refine lv_iload hx hb dX8_hashTo_89 (lv_at hl 4 rfl) ?_
                    refine lv_iconst (v := 4) hx hb dX8_hashTo_91 (by decide) ?_
                    refine lv_idiv hx hb dX8_hashTo_92 (by decide) ?_
                    refine mv_eqi (x' := nI (r / 4)) (pk_div (a := r) (d := 4) (by omega) (by decide) (by decide)) ?_
                    refine mv_lal Cx hG hH isM_7 (r / 4) (rfl) (by omega) dX8_hashTo_93 ?_
                    refine mv_eql (x' := zx (shaN (pF xs) ((padL xs).length / 64) (r / 4))) ((hin3.2 7 (r / 4) (fun h => hk0.2.2.1 h.1.symm)).2.2.trans (hin2.1 _ (by omega))) ?_
                    refine lv_bipush (v := 24) hx hb dX8_hashTo_94 (by decide) ?_
                    refine lv_bipush (v := 8) hx hb dX8_hashTo_96 (by decide) ?_
                    refine lv_iload hx hb dX8_hashTo_98 (lv_at hl 4 rfl) ?_
                    refine lv_iconst (v := 4) hx hb dX8_hashTo_100 (by decide) ?_
                    refine lv_irem hx hb dX8_hashTo_101 (by decide) ?_
                    refine mv_eqi (x' := nI (r % 4)) (pk_rem (a := r) (d := 4) (by omega) (by decide) (by decide)) ?_
                    refine lv_imul hx hb dX8_hashTo_102 ?_
                    refine mv_eqi (x' := nI (8 * (r % 4))) (pk_mul 8 _) ?_
                    refine lv_isub hx hb dX8_hashTo_103 ?_
                    refine mv_eqi (x' := nI (24 - 8 * (r % 4))) (pk_sub (a := 24) (by omega)) ?_
                    refine lv_lshr hx hb dX8_hashTo_104 rfl ?_
                    refine lv_l2i hx hb dX8_hashTo_105 rfl ?_
                    refine lv_i2b hx hb dX8_hashTo_106 rfl ?_
                    refine mv_eqi (x' := (shaL xs r).toInt32) (congrArg Int8.toInt32 (zx_out _ r)) ?_
                    refine mv_bas Cx hG hO hH hS hB (a + r) (rfl) (by omega) dX8_hashTo_107 (fun H locs hH hS => ?_)
                    refine lv_iinc (v := nI (r + 1)) (lv' := [(4, .int (nI (r + 1))), (0, .ref (mAdM E 0 0)), (1, .ref (mAdM E k0 0)), (2, .int (nI a)), (3, .int (nI (padL xs).length))]) hx hb dX8_hashTo_108 hl (k := 4) rfl (i2_1 r) (by decide) rfl (fun ls hl => ?_)
                    refine lv_goto (tgt := 73) hx hb dX8_hashTo_111 (by decide) ?_
                    exact ih3 (r + 1) (mB S3 k0 0 (a + r) ((shaL xs r).toInt32).toInt8) _ _ ls  (by omega) (by omega) (⟨fun q hq => by by_cases e : q = r; (subst e; simp [mB, m3]); (exact (show m3 S3.2.1 k0 0 (a + r) _ k0 0 (a + q) = _ from m3_n _ _ (by omega)).trans (hin3.1 q (by omega))), hin3.2.tr (nSame.B ⟨rfl, by omega, by omega⟩)⟩) hH hS (lv_sub hl [1, 2, 3, 4, 0] rfl)
              exact lp3 (32 - 0 + 1) 0 S2 _ _ ls  (by omega) (by omega) (⟨fun q h => absurd h (Nat.not_lt_zero _), nSame.rf⟩) hH hS (lv_sub hl [1, 2, 3, 4, 0] rfl)
            · skip
              have htB : t < ((padL xs).length / 64) := by have := lt_of (a := (padL xs).length) (b := 64 * t) (by omega) (by omega) h50; omega
              refine lv_aload_n hx hb dX8_hashTo_53 rfl (lv_at hl 0 rfl) ?_
              refine lv_iload hx hb dX8_hashTo_54 (lv_at hl 4 rfl) ?_
              refine lv_aload_n hx hb dX8_hashTo_56 rfl (lv_at hl 0 rfl) ?_
              refine g_X8_rowCount Cx hG hH q_fl_X8_100 dX8_hashTo_57 ?_
              refine mv_eqi (x' := nI xs.length) ((hin2.2 0 5 (show ¬ ((0 : Nat) = 7 ∨ (0 : Nat) = 8) by decide)).1.trans hxs.1) ?_
              refine lv_iload_n hx hb dX8_hashTo_60 rfl (lv_at hl 3 rfl) ?_
              refine mv_callV (Y := mLM) (C := RX8) (k := 0) (i := 0) (rest := []) Cx hG hH hS (c_X8_block l E A hO S2 xs (hxs.keep hin2.2 (by decide) (fun j => by omega)) (shaN (pF xs) t) hin2.1 (64 * t) (by omega)) q_co_X8_block q_ml_X8_127 q_im_X8_block q_se_X8_block q_in_X8 okM_0 rfl rfl hd_X8_block ⟨Nat.le_of_ble_eq_true rfl, Nat.le_of_ble_eq_true rfl⟩ rfl hl.1 rfl (Nat.le_of_ble_eq_true rfl) ⟨Nat.le_of_ble_eq_true rfl, Nat.le_of_ble_eq_true rfl⟩ dX8_hashTo_61 (fun S61 H locs hP61 hH hS => ?_)
              refine W.eq (g2 := F0 m 64 ls []) rfl ?_
              refine lv_iinc (v := nI (64 * (t + 1))) (lv' := [(4, .int (nI (64 * (t + 1)))), (0, .ref (mAdM E 0 0)), (1, .ref (mAdM E k0 0)), (2, .int (nI a)), (3, .int (nI (padL xs).length))]) hx hb dX8_hashTo_64 hl (k := 4) rfl (nI_add (64 * t) 64) (by decide) rfl (fun ls hl => ?_)
              refine lv_goto (tgt := 47) hx hb dX8_hashTo_67 (by decide) ?_
              exact ih2 (t + 1) S61 _ _ ls  (by omega) (by omega) (⟨hP61.1, hin2.2.tr hP61.2⟩) hH hS (lv_sub hl [1, 2, 3, 4, 0] rfl)
        exact lp2 (((padL xs).length / 64) - 0 + 1) 0 S1 _ _ ls  (by omega) (by omega) (⟨fun q hq => hinv.1 q (by omega), hinv.2.wk (fun _ _ h => Or.inl h)⟩) hH hS (lv_sub hl [2, 3, 4, 1, 0] rfl)
      · skip
        have hj8 : j < 8 := lt_of (a := 8) (by decide) (by omega) h5
        refine lv_aload_n hx hb dX8_hashTo_8 rfl (lv_at hl 0 rfl) ?_
        refine g_X8_h Cx hG hH q_fl_X8_19 dX8_hashTo_9 ?_
        refine lv_iload_n hx hb dX8_hashTo_12 rfl (lv_at hl 3 rfl) ?_
        refine mv_sta Cx hS hZI q_fl_X8_124 dX8_hashTo_13 ?_
        refine lv_iload_n hx hb dX8_hashTo_16 rfl (lv_at hl 3 rfl) ?_
        refine mv_stl Cx hS hTI (by decide) j (rfl) (by omega) dX8_hashTo_17 ?_
        refine lv_i2l hx hb dX8_hashTo_18 rfl ?_
        refine lv_ldc2 hx hb Cx.2.2.2.1 (Cx.2.2.2.2 _ (List.mem_cons_of_mem _ q_k_X8_115)) dX8_hashTo_19 ?_
        refine lv_land hx hb dX8_hashTo_22 ?_
        refine mv_eql (x' := zx (mI j)) (zx_i2l _) ?_
        refine mv_las Cx hG hO hH hS isM_7 j (rfl) (by omega) dX8_hashTo_23 (fun H locs hH hS => ?_)
        refine lv_iinc (v := nI (j + 1)) (lv' := [(3, .int (nI (j + 1))), (0, .ref (mAdM E 0 0)), (1, .ref (mAdM E k0 0)), (2, .int (nI a))]) hx hb dX8_hashTo_24 hl (k := 3) rfl (i2_1 j) (by decide) rfl (fun ls hl => ?_)
        refine lv_goto (tgt := 2) hx hb dX8_hashTo_27 (by decide) ?_
        exact ih1 (j + 1) (mJ S1 7 0 j (zx (mI j))) _ _ ls  (by omega) (by omega) (⟨fun q hq => by by_cases e : q = j; (subst e; simp [mJ, m3]); (exact (show m3 S1.2.2 7 0 j _ 7 0 q = _ from m3_n _ _ (by omega)).trans (hinv.1 q (by omega))), hinv.2.tr (nSame.J rfl)⟩) hH hS (lv_sub hl [1, 2, 3, 0] rfl)
  exact lp (8 - 0 + 1) 0 S _ _ ls  (by omega) (by omega) (⟨fun q h => absurd h (Nat.not_lt_zero _), nSame.rf⟩) hH hS (lv_sub hl [1, 2, 3, 0] rfl)

set_option maxHeartbeats 4000000 in
set_option maxRecDepth 100000 in
theorem c_X8_tapeHash (l : Launch) (E : mEv) (A : Nat → Prop) (hO : mOwn mLM E A) (S : mSt) (k0 n0 : Nat) (hB : mIsB mLM k0 0 n0) (hk0 : ¬ k0 = 5 ∧ ¬ k0 = 0 ∧ ¬ k0 = 7 ∧ ¬ k0 = 8) (a : Nat) (ha : a + 32 ≤ n0) (ts : List Int8) (hts : nHas 1 400 S ts) : Met l yX8_tapeHash (Cond.code yX8_tapeHash cX8_tapeHash 3 none :: mv_ws) (mRm 3 90) (mPc mLM E A S [.ref (mAdM E 0 0), .ref (mAdM E k0 0), .int (nI a)]) (mQ mLM E A (fun S' => (∀ q, q < 32 → S'.2.1 k0 0 (a + q) = shaL ts q) ∧ nSame (fun k j => nX 5 k j ∨ hX k0 a k j) S S') none) 0 0 A := by
  refine Met.ofW (cc := cX8_tapeHash) (maxL := 3) (ret := none) (by decide) rfl ?_
  intro p e s m args below meth c s₁ B hml hv
  obtain ⟨rfl, hG, hH⟩ := hv
  have hx := B.exec
  have hb := B.bytes
  have hr := B.returns
  have hlocks := B.notSynchronized
  have Cx : CallFix p m c cX8_tapeHash 3 s ([.ref (mAdM E 0 0), .ref (mAdM E k0 0), .int (nI a)] : List Value).toArray (Cond.code yX8_tapeHash cX8_tapeHash 3 none :: mv_ws) RX8 := ⟨hx, hb, hml, findClass_of_methodNamed B.named, atoms_spec (ws := Cond.code yX8_tapeHash cX8_tapeHash 3 none :: mv_ws) B.pre⟩
  have hS : va_S A s.heap s.heap [] := va_S.rf
  have hl := lv_entry ([.ref (mAdM E 0 0), .ref (mAdM E k0 0), .int (nI a)]) (n := 3) (Nat.le_of_ble_eq_true rfl)
  rw [lg_entry_eq]
  generalize (lg_sl ([.ref (mAdM E 0 0), .ref (mAdM E k0 0), .int (nI a)]) ++ List.replicate (3 - (lg_sl ([.ref (mAdM E 0 0), .ref (mAdM E k0 0), .int (nI a)])).length) Slot.unset).toArray = ls at hl ⊢
  have hl : lv_has ls 3 [(0, .ref (mAdM E 0 0)), (1, .ref (mAdM E k0 0)), (2, .int (nI a))] := hl
  refine lv_aload_n hx hb dX8_tapeHash_0 rfl (lv_at hl 0 rfl) ?_
  refine lv_iconst (v := 0) hx hb dX8_tapeHash_1 (by decide) ?_
  refine p_X8_rowCount Cx hG hO hH hS q_fl_X8_100 dX8_tapeHash_2 (fun H locs hH hS => ?_)
  refine lv_aload_n hx hb dX8_tapeHash_5 rfl (lv_at hl 0 rfl) ?_
  refine lv_aload_n hx hb dX8_tapeHash_6 rfl (lv_at hl 0 rfl) ?_
  refine g_X8_tape Cx hG hH q_fl_X8_9 dX8_tapeHash_7 ?_
  refine lv_iconst (v := 0) hx hb dX8_tapeHash_10 (by decide) ?_
  refine mv_eqi (x' := nI 0) (rfl) ?_
  refine lv_aload_n hx hb dX8_tapeHash_11 rfl (lv_at hl 0 rfl) ?_
  refine g_X8_tapeLength Cx hG hH q_fl_X8_137 dX8_tapeHash_12 ?_
  refine mv_eqi (x' := nI ts.length) (by simpa [mM, m3] using hts.1) ?_
  refine mv_callV (Y := mLM) (C := RX8) (k := 0) (i := 0) (rest := []) Cx hG hH hS (c_X8_add_ l E A hO (mM S 0 0 5 0) 1 400 isM_1 (by decide) 0 ts.length (by have := hts.2.1; omega) [] nHas.nil (by have := hts.2.1; simp; omega)) q_co_X8_add_ q_ml_X8_134 q_im_X8_add_ q_se_X8_add_ q_in_X8 okM_0 rfl rfl hd_X8_add_ ⟨Nat.le_of_ble_eq_true rfl, Nat.le_of_ble_eq_true rfl⟩ rfl hl.1 rfl (Nat.le_of_ble_eq_true rfl) ⟨Nat.le_of_ble_eq_true rfl, Nat.le_of_ble_eq_true rfl⟩ dX8_tapeHash_15 (fun S15 H locs hP15 hH hS => ?_)
  refine W.eq (g2 := F0 m 18 ls []) rfl ?_
  have hr5 : nHas 5 1024 S15 ts := by have h := hP15.1; rw [List.nil_append] at h; rwa [show mTk (fun q => (mM S 0 0 5 0).2.1 1 0 (0 + q)) ts.length = ts from hts.list] at h
  refine lv_aload_n hx hb dX8_tapeHash_18 rfl (lv_at hl 0 rfl) ?_
  refine lv_aload_n hx hb dX8_tapeHash_19 rfl (lv_at hl 1 rfl) ?_
  refine lv_iload_n hx hb dX8_tapeHash_20 rfl (lv_at hl 2 rfl) ?_
  refine mv_callV (Y := mLM) (C := RX8) (k := 0) (i := 0) (rest := []) Cx hG hH hS (c_X8_hashTo l E A hO S15 k0 n0 hB hk0 a ha ts hr5 (by have := hts.2.1; omega)) q_co_X8_hashTo q_ml_X8_111 q_im_X8_hashTo q_se_X8_hashTo q_in_X8 okM_0 rfl rfl hd_X8_hashTo ⟨Nat.le_of_ble_eq_true rfl, Nat.le_of_ble_eq_true rfl⟩ rfl hl.1 rfl (Nat.le_of_ble_eq_true rfl) ⟨Nat.le_of_ble_eq_true rfl, Nat.le_of_ble_eq_true rfl⟩ dX8_tapeHash_21 (fun S21 H locs hP21 hH hS => ?_)
  refine W.eq (g2 := F0 m 24 ls []) rfl ?_
  exact mv_retv Cx hr hH hS (⟨hP21.1, (((nSame.M (Or.inl ⟨rfl, rfl⟩)).tr hP15.2).wk (X' := fun k j => nX 5 k j ∨ hX k0 a k j) (fun k j h => Or.inl h)).tr (hP21.2.wk (fun k j h => Or.inr h))⟩) dX8_tapeHash_24 hlocks

set_option maxHeartbeats 4000000 in
set_option maxRecDepth 100000 in
theorem c_X8_macTo (l : Launch) (E : mEv) (A : Nat → Prop) (hO : mOwn mLM E A) (S : mSt) (k0 n0 : Nat) (hB : mIsB mLM k0 0 n0) (hk0 : ¬ k0 = 5 ∧ ¬ k0 = 0 ∧ ¬ k0 = 7 ∧ ¬ k0 = 8) (a : Nat) (ha : a + 32 ≤ n0) (ms : List Int8) (hms : nHas 11 1024 S ms) (hle : ms.length ≤ 439) : Met l yX8_macTo (Cond.code yX8_macTo cX8_macTo 4 none :: mv_ws) (mRm 3 90) (mPc mLM E A S [.ref (mAdM E 0 0), .ref (mAdM E k0 0), .int (nI a)]) (mQ mLM E A (fun S' => (∀ q, q < 32 → S'.2.1 k0 0 (a + q) = macL (S.2.1 10 0) ms q) ∧ nSame (fun k j => nX 5 k j ∨ k = 9 ∨ hX k0 a k j) S S') none) 0 0 A := by
  refine Met.ofW (cc := cX8_macTo) (maxL := 4) (ret := none) (by decide) rfl ?_
  intro p e s m args below meth c s₁ B hml hv
  obtain ⟨rfl, hG, hH⟩ := hv
  have hx := B.exec
  have hb := B.bytes
  have hr := B.returns
  have hlocks := B.notSynchronized
  have Cx : CallFix p m c cX8_macTo 4 s ([.ref (mAdM E 0 0), .ref (mAdM E k0 0), .int (nI a)] : List Value).toArray (Cond.code yX8_macTo cX8_macTo 4 none :: mv_ws) RX8 := ⟨hx, hb, hml, findClass_of_methodNamed B.named, atoms_spec (ws := Cond.code yX8_macTo cX8_macTo 4 none :: mv_ws) B.pre⟩
  have hS : va_S A s.heap s.heap [] := va_S.rf
  have hl := lv_entry ([.ref (mAdM E 0 0), .ref (mAdM E k0 0), .int (nI a)]) (n := 4) (Nat.le_of_ble_eq_true rfl)
  rw [lg_entry_eq]
  generalize (lg_sl ([.ref (mAdM E 0 0), .ref (mAdM E k0 0), .int (nI a)]) ++ List.replicate (4 - (lg_sl ([.ref (mAdM E 0 0), .ref (mAdM E k0 0), .int (nI a)])).length) Slot.unset).toArray = ls at hl ⊢
  have hl : lv_has ls 4 [(0, .ref (mAdM E 0 0)), (1, .ref (mAdM E k0 0)), (2, .int (nI a))] := hl
  refine lv_aload_n hx hb dX8_macTo_0 rfl (lv_at hl 0 rfl) ?_
  refine lv_iconst (v := 0) hx hb dX8_macTo_1 (by decide) ?_
  refine p_X8_rowCount Cx hG hO hH hS q_fl_X8_100 dX8_macTo_2 (fun H locs hH hS => ?_)
  refine lv_iconst (v := 0) hx hb dX8_macTo_5 (by decide) ?_
  refine mv_eqi (x' := nI 0) (rfl) ?_
  refine lv_istore_n (lv' := [(3, .int (nI 0)), (0, .ref (mAdM E 0 0)), (1, .ref (mAdM E k0 0)), (2, .int (nI a))]) hx hb dX8_macTo_6 rfl hl (by decide) rfl (fun ls hl => ?_)
  have lp : ∀ (fu j : Nat) (S1 : mSt) (H : Heap) (locs : List Loc) (ls : Array Slot) , 64 - j < fu → j ≤ 64 → (nHas 5 1024 S1 (padK (S.2.1 10 0) 54 j) ∧ nSame (nX 5) S S1) → mHold mLM E S1 H → va_S A s.heap H locs → lv_has ls 4 [(0, .ref (mAdM E 0 0)), (1, .ref (mAdM E k0 0)), (2, .int (nI a)), (3, .int (nI j))] → W p l e (headSpec (Cond.code yX8_macTo cX8_macTo 4 none :: mv_ws) (mRm 3 90)).room s m ([.ref (mAdM E 0 0), .ref (mAdM E k0 0), .int (nI a)] : List Value).toArray below meth c H locs 0 0 (MQ below (mQ mLM E A (fun S' => (∀ q, q < 32 → S'.2.1 k0 0 (a + q) = macL (S.2.1 10 0) ms q) ∧ nSame (fun k j => nX 5 k j ∨ k = 9 ∨ hX k0 a k j) S S') none) ([.ref (mAdM E 0 0), .ref (mAdM E k0 0), .int (nI a)] : List Value).toArray s 0 0 A) (F0 m 7 ls []) := by
    intro fu
    induction fu with
    | zero => intro j S1 H locs ls  hn hj hinv hH hS hl; omega
    | succ fu ih1 =>
      intro j S1 H locs ls  hn hj hinv hH hS hl
      refine lv_iload_n hx hb dX8_macTo_7 rfl (lv_at hl 3 rfl) ?_
      refine lv_bipush (v := 64) hx hb dX8_macTo_8 (by decide) ?_
      refine lv_icmp_ge (tgt := 42) hx hb dX8_macTo_10 (by decide) (fun h10 => ?_) (fun h10 => ?_)
      · skip
        have hj64 : j = 64 := by have := ge_of (a := 64) (by decide) (by omega) h10; omega
        rw [hj64] at hinv
        refine lv_aload_n hx hb dX8_macTo_42 rfl (lv_at hl 0 rfl) ?_
        refine lv_aload_n hx hb dX8_macTo_43 rfl (lv_at hl 0 rfl) ?_
        refine g_X8_macText Cx hG hH q_fl_X8_32 dX8_macTo_44 ?_
        refine lv_iconst (v := 0) hx hb dX8_macTo_47 (by decide) ?_
        refine mv_eqi (x' := nI 0) (rfl) ?_
        refine lv_aload_n hx hb dX8_macTo_48 rfl (lv_at hl 0 rfl) ?_
        refine g_X8_macCount Cx hG hH q_fl_X8_131 dX8_macTo_49 ?_
        refine mv_eqi (x' := nI ms.length) ((hinv.2 0 11 (by simp [nX])).1.trans hms.1) ?_
        refine mv_callV (Y := mLM) (C := RX8) (k := 0) (i := 0) (rest := []) Cx hG hH hS (c_X8_add_ l E A hO S1 11 1024 isM_11 (by decide) 0 ms.length (by omega) (padK (S.2.1 10 0) 54 64) hinv.1 (by rw [padK_len]; omega)) q_co_X8_add_ q_ml_X8_134 q_im_X8_add_ q_se_X8_add_ q_in_X8 okM_0 rfl rfl hd_X8_add_ ⟨Nat.le_of_ble_eq_true rfl, Nat.le_of_ble_eq_true rfl⟩ rfl hl.1 rfl (Nat.le_of_ble_eq_true rfl) ⟨Nat.le_of_ble_eq_true rfl, Nat.le_of_ble_eq_true rfl⟩ dX8_macTo_52 (fun S52 H locs hP52 hH hS => ?_)
        refine W.eq (g2 := F0 m 55 ls []) rfl ?_
        have hms1 := hms.keep hinv.2 (by simp [nX]) (by simp [nX])
        have hr5 : nHas 5 1024 S52 (padK (S.2.1 10 0) 54 64 ++ ms) := by have h := hP52.1; rwa [hms1.list] at h
        refine lv_aload_n hx hb dX8_macTo_55 rfl (lv_at hl 0 rfl) ?_
        refine lv_aload_n hx hb dX8_macTo_56 rfl (lv_at hl 0 rfl) ?_
        refine g_X8_one Cx hG hH q_fl_X8_26 dX8_macTo_57 ?_
        refine lv_iconst (v := 0) hx hb dX8_macTo_60 (by decide) ?_
        refine mv_eqi (x' := nI 0) (rfl) ?_
        refine mv_callV (Y := mLM) (C := RX8) (k := 0) (i := 0) (rest := []) Cx hG hH hS (c_X8_hashTo l E A hO S52 9 32 isM_9 (by decide) 0 (by decide) (padK (S.2.1 10 0) 54 64 ++ ms) hr5 (by rw [List.length_append, padK_len]; omega)) q_co_X8_hashTo q_ml_X8_111 q_im_X8_hashTo q_se_X8_hashTo q_in_X8 okM_0 rfl rfl hd_X8_hashTo ⟨Nat.le_of_ble_eq_true rfl, Nat.le_of_ble_eq_true rfl⟩ rfl hl.1 rfl (Nat.le_of_ble_eq_true rfl) ⟨Nat.le_of_ble_eq_true rfl, Nat.le_of_ble_eq_true rfl⟩ dX8_macTo_61 (fun S61 H locs hP61 hH hS => ?_)
        refine W.eq (g2 := F0 m 64 ls []) rfl ?_
        have hS61 : nSame (fun k j => nX 5 k j ∨ hX 9 0 k j) S S61 := ((hinv.2.tr hP52.2).wk (fun k j h => Or.inl h)).tr (hP61.2.wk (fun k j h => Or.inr h))
        have hS61 : nSame (fun k j => nX 5 k j ∨ k = 7 ∨ k = 8 ∨ k = 9) S S61 := hS61.wk (fun k j h => h.elim Or.inl (fun z => Or.inr (z.elim Or.inl (fun z => Or.inr (z.elim Or.inl (fun z => Or.inr z.1))))))
        refine lv_aload_n hx hb dX8_macTo_64 rfl (lv_at hl 0 rfl) ?_
        refine lv_iconst (v := 0) hx hb dX8_macTo_65 (by decide) ?_
        refine p_X8_rowCount Cx hG hO hH hS q_fl_X8_100 dX8_macTo_66 (fun H locs hH hS => ?_)
        refine lv_iconst (v := 0) hx hb dX8_macTo_69 (by decide) ?_
        refine mv_eqi (x' := nI 0) (rfl) ?_
        refine lv_istore_n (lv' := [(3, .int (nI 0)), (0, .ref (mAdM E 0 0)), (1, .ref (mAdM E k0 0)), (2, .int (nI a))]) hx hb dX8_macTo_70 rfl hl (by decide) rfl (fun ls hl => ?_)
        have lp2 : ∀ (fu t : Nat) (S2 : mSt) (H : Heap) (locs : List Loc) (ls : Array Slot) , 64 - t < fu → t ≤ 64 → (nHas 5 1024 S2 (padK (S.2.1 10 0) 92 t) ∧ nSame (nX 5) S61 S2) → mHold mLM E S2 H → va_S A s.heap H locs → lv_has ls 4 [(0, .ref (mAdM E 0 0)), (1, .ref (mAdM E k0 0)), (2, .int (nI a)), (3, .int (nI t))] → W p l e (headSpec (Cond.code yX8_macTo cX8_macTo 4 none :: mv_ws) (mRm 3 90)).room s m ([.ref (mAdM E 0 0), .ref (mAdM E k0 0), .int (nI a)] : List Value).toArray below meth c H locs 0 0 (MQ below (mQ mLM E A (fun S' => (∀ q, q < 32 → S'.2.1 k0 0 (a + q) = macL (S.2.1 10 0) ms q) ∧ nSame (fun k j => nX 5 k j ∨ k = 9 ∨ hX k0 a k j) S S') none) ([.ref (mAdM E 0 0), .ref (mAdM E k0 0), .int (nI a)] : List Value).toArray s 0 0 A) (F0 m 71 ls []) := by
          intro fu
          induction fu with
          | zero => intro t S2 H locs ls  hn2 ht hin2 hH hS hl; omega
          | succ fu ih2 =>
            intro t S2 H locs ls  hn2 ht hin2 hH hS hl
            refine lv_iload_n hx hb dX8_macTo_71 rfl (lv_at hl 3 rfl) ?_
            refine lv_bipush (v := 64) hx hb dX8_macTo_72 (by decide) ?_
            refine lv_icmp_ge (tgt := 106) hx hb dX8_macTo_74 (by decide) (fun h74 => ?_) (fun h74 => ?_)
            · skip
              have ht64 : t = 64 := by have := ge_of (a := 64) (by decide) (by omega) h74; omega
              rw [ht64] at hin2
              refine lv_aload_n hx hb dX8_macTo_106 rfl (lv_at hl 0 rfl) ?_
              refine lv_aload_n hx hb dX8_macTo_107 rfl (lv_at hl 0 rfl) ?_
              refine g_X8_one Cx hG hH q_fl_X8_26 dX8_macTo_108 ?_
              refine lv_iconst (v := 0) hx hb dX8_macTo_111 (by decide) ?_
              refine mv_eqi (x' := nI 0) (rfl) ?_
              refine lv_bipush (v := 32) hx hb dX8_macTo_112 (by decide) ?_
              refine mv_eqi (x' := nI 32) (rfl) ?_
              refine mv_callV (Y := mLM) (C := RX8) (k := 0) (i := 0) (rest := []) Cx hG hH hS (c_X8_add_ l E A hO S2 9 32 isM_9 (by decide) 0 32 (by decide) (padK (S.2.1 10 0) 92 64) hin2.1 (by rw [padK_len]; decide)) q_co_X8_add_ q_ml_X8_134 q_im_X8_add_ q_se_X8_add_ q_in_X8 okM_0 rfl rfl hd_X8_add_ ⟨Nat.le_of_ble_eq_true rfl, Nat.le_of_ble_eq_true rfl⟩ rfl hl.1 rfl (Nat.le_of_ble_eq_true rfl) ⟨Nat.le_of_ble_eq_true rfl, Nat.le_of_ble_eq_true rfl⟩ dX8_macTo_114 (fun S114 H locs hP114 hH hS => ?_)
              refine W.eq (g2 := F0 m 117 ls []) rfl ?_
              have hr6 : nHas 5 1024 S114 (padK (S.2.1 10 0) 92 64 ++ mTk (shaL (padK (S.2.1 10 0) 54 64 ++ ms)) 32) := by have h := hP114.1; rwa [show mTk (fun q => S2.2.1 9 0 (0 + q)) 32 = mTk (shaL (padK (S.2.1 10 0) 54 64 ++ ms)) 32 from mTk_congr (fun q hq => (hin2.2 9 (0 + q) (by simp [nX])).2.1.trans (hP61.1 q hq))] at h
              refine lv_aload_n hx hb dX8_macTo_117 rfl (lv_at hl 0 rfl) ?_
              refine lv_aload_n hx hb dX8_macTo_118 rfl (lv_at hl 1 rfl) ?_
              refine lv_iload_n hx hb dX8_macTo_119 rfl (lv_at hl 2 rfl) ?_
              refine mv_callV (Y := mLM) (C := RX8) (k := 0) (i := 0) (rest := []) Cx hG hH hS (c_X8_hashTo l E A hO S114 k0 n0 hB hk0 a ha _ hr6 (by rw [List.length_append, padK_len, mTk_len]; decide)) q_co_X8_hashTo q_ml_X8_111 q_im_X8_hashTo q_se_X8_hashTo q_in_X8 okM_0 rfl rfl hd_X8_hashTo ⟨Nat.le_of_ble_eq_true rfl, Nat.le_of_ble_eq_true rfl⟩ rfl hl.1 rfl (Nat.le_of_ble_eq_true rfl) ⟨Nat.le_of_ble_eq_true rfl, Nat.le_of_ble_eq_true rfl⟩ dX8_macTo_120 (fun S120 H locs hP120 hH hS => ?_)
              refine W.eq (g2 := F0 m 123 ls []) rfl ?_
              exact mv_retv Cx hr hH hS (⟨hP120.1, ((hS61.tr ((hin2.2.tr hP114.2).wk (fun k j h => Or.inl h))).wk (X' := fun k j => nX 5 k j ∨ k = 9 ∨ hX k0 a k j) (fun k j h => h.elim Or.inl (fun z => Or.inr (z.elim (fun y => Or.inr (Or.inl y)) (fun y => y.elim (fun x => Or.inr (Or.inr (Or.inl x))) Or.inl))))).tr (hP120.2.wk (fun k j h => Or.inr (Or.inr h)))⟩) dX8_macTo_123 hlocks
            · skip
              have ht64 : t < 64 := lt_of (a := 64) (by decide) (by omega) h74
              refine lv_aload_n hx hb dX8_macTo_77 rfl (lv_at hl 0 rfl) ?_
              refine lv_iload_n hx hb dX8_macTo_78 rfl (lv_at hl 3 rfl) ?_
              refine lv_bipush (v := 32) hx hb dX8_macTo_79 (by decide) ?_
              refine lv_icmp_ge (tgt := 93) hx hb dX8_macTo_81 (by decide) (fun h81 => ?_) (fun h81 => ?_)
              · skip
                have hlt2 : ¬ t < 32 := by have := ge_of (a := 32) (by decide) (by omega) h81; omega
                refine lv_iconst (v := 0) hx hb dX8_macTo_93 (by decide) ?_
                refine lv_bipush (v := 92) hx hb dX8_macTo_94 (by decide) ?_
                refine lv_ixor hx hb dX8_macTo_96 ?_
                refine mv_callV (Y := mLM) (C := RX8) (k := 0) (i := 0) (rest := []) Cx hG hH hS (c_X8_add l E A hO S2 (padK (S.2.1 10 0) 92 t) hin2.1 (0 ^^^ 92) (by rw [padK_len]; omega)) q_co_X8_add q_ml_X8_104 q_im_X8_add q_se_X8_add q_in_X8 okM_0 rfl rfl hd_X8_add ⟨Nat.le_of_ble_eq_true rfl, Nat.le_of_ble_eq_true rfl⟩ rfl hl.1 rfl (Nat.le_of_ble_eq_true rfl) ⟨Nat.le_of_ble_eq_true rfl, Nat.le_of_ble_eq_true rfl⟩ dX8_macTo_97 (fun S97 H locs hP97 hH hS => ?_)
                refine W.eq (g2 := F0 m 100 ls []) rfl ?_
                refine lv_iinc (v := nI (t + 1)) (lv' := [(3, .int (nI (t + 1))), (0, .ref (mAdM E 0 0)), (1, .ref (mAdM E k0 0)), (2, .int (nI a))]) hx hb dX8_macTo_100 hl (k := 3) rfl (i2_1 t) (by decide) rfl (fun ls hl => ?_)
                refine lv_goto (tgt := 71) hx hb dX8_macTo_103 (by decide) ?_
                exact ih2 (t + 1) S97 _ _ ls  (by omega) (by omega) (by rw [padK_succ, if_neg hlt2]; exact ⟨hP97.1, hin2.2.tr hP97.2⟩) hH hS (lv_sub hl [1, 2, 3, 0] rfl)
              · skip
                have hlt2 : t < 32 := lt_of (a := 32) (by decide) (by omega) h81
                refine lv_aload_n hx hb dX8_macTo_84 rfl (lv_at hl 0 rfl) ?_
                refine g_X8_macKey Cx hG hH q_fl_X8_29 dX8_macTo_85 ?_
                refine lv_iload_n hx hb dX8_macTo_88 rfl (lv_at hl 3 rfl) ?_
                refine mv_bal Cx hG hH isM_10 t (rfl) (by omega) dX8_macTo_89 ?_
                refine mv_eqi (x' := ((S.2.1 10 0) t).toInt32) (congrArg Int8.toInt32 ((hin2.2 10 t (by simp [nX])).2.1.trans ((hS61 10 t (by simp [nX])).2.1))) ?_
                refine lv_goto (tgt := 94) hx hb dX8_macTo_90 (by decide) ?_
                refine lv_bipush (v := 92) hx hb dX8_macTo_94 (by decide) ?_
                refine lv_ixor hx hb dX8_macTo_96 ?_
                refine mv_callV (Y := mLM) (C := RX8) (k := 0) (i := 0) (rest := []) Cx hG hH hS (c_X8_add l E A hO S2 (padK (S.2.1 10 0) 92 t) hin2.1 ((((S.2.1 10 0) t).toInt32) ^^^ 92) (by rw [padK_len]; omega)) q_co_X8_add q_ml_X8_104 q_im_X8_add q_se_X8_add q_in_X8 okM_0 rfl rfl hd_X8_add ⟨Nat.le_of_ble_eq_true rfl, Nat.le_of_ble_eq_true rfl⟩ rfl hl.1 rfl (Nat.le_of_ble_eq_true rfl) ⟨Nat.le_of_ble_eq_true rfl, Nat.le_of_ble_eq_true rfl⟩ dX8_macTo_97 (fun S97 H locs hP97 hH hS => ?_)
                refine W.eq (g2 := F0 m 100 ls []) rfl ?_
                refine lv_iinc (v := nI (t + 1)) (lv' := [(3, .int (nI (t + 1))), (0, .ref (mAdM E 0 0)), (1, .ref (mAdM E k0 0)), (2, .int (nI a))]) hx hb dX8_macTo_100 hl (k := 3) rfl (i2_1 t) (by decide) rfl (fun ls hl => ?_)
                refine lv_goto (tgt := 71) hx hb dX8_macTo_103 (by decide) ?_
                exact ih2 (t + 1) S97 _ _ ls  (by omega) (by omega) (by rw [padK_succ, if_pos hlt2]; exact ⟨hP97.1, hin2.2.tr hP97.2⟩) hH hS (lv_sub hl [1, 2, 3, 0] rfl)
        exact lp2 (64 - 0 + 1) 0 (mM S61 0 0 5 0) _ _ ls  (by omega) (by omega) (⟨nHas.nil, nSame.M (Or.inl ⟨rfl, rfl⟩)⟩) hH hS (lv_sub hl [1, 2, 3, 0] rfl)
      · skip
        have hj64 : j < 64 := lt_of (a := 64) (by decide) (by omega) h10
        refine lv_aload_n hx hb dX8_macTo_13 rfl (lv_at hl 0 rfl) ?_
        refine lv_iload_n hx hb dX8_macTo_14 rfl (lv_at hl 3 rfl) ?_
        refine lv_bipush (v := 32) hx hb dX8_macTo_15 (by decide) ?_
        refine lv_icmp_ge (tgt := 29) hx hb dX8_macTo_17 (by decide) (fun h17 => ?_) (fun h17 => ?_)
        · skip
          have hlt : ¬ j < 32 := by have := ge_of (a := 32) (by decide) (by omega) h17; omega
          refine lv_iconst (v := 0) hx hb dX8_macTo_29 (by decide) ?_
          refine lv_bipush (v := 54) hx hb dX8_macTo_30 (by decide) ?_
          refine lv_ixor hx hb dX8_macTo_32 ?_
          refine mv_callV (Y := mLM) (C := RX8) (k := 0) (i := 0) (rest := []) Cx hG hH hS (c_X8_add l E A hO S1 (padK (S.2.1 10 0) 54 j) hinv.1 (0 ^^^ 54) (by rw [padK_len]; omega)) q_co_X8_add q_ml_X8_104 q_im_X8_add q_se_X8_add q_in_X8 okM_0 rfl rfl hd_X8_add ⟨Nat.le_of_ble_eq_true rfl, Nat.le_of_ble_eq_true rfl⟩ rfl hl.1 rfl (Nat.le_of_ble_eq_true rfl) ⟨Nat.le_of_ble_eq_true rfl, Nat.le_of_ble_eq_true rfl⟩ dX8_macTo_33 (fun S33 H locs hP33 hH hS => ?_)
          refine W.eq (g2 := F0 m 36 ls []) rfl ?_
          refine lv_iinc (v := nI (j + 1)) (lv' := [(3, .int (nI (j + 1))), (0, .ref (mAdM E 0 0)), (1, .ref (mAdM E k0 0)), (2, .int (nI a))]) hx hb dX8_macTo_36 hl (k := 3) rfl (i2_1 j) (by decide) rfl (fun ls hl => ?_)
          refine lv_goto (tgt := 7) hx hb dX8_macTo_39 (by decide) ?_
          exact ih1 (j + 1) S33 _ _ ls  (by omega) (by omega) (by rw [padK_succ, if_neg hlt]; exact ⟨hP33.1, hinv.2.tr hP33.2⟩) hH hS (lv_sub hl [1, 2, 3, 0] rfl)
        · skip
          have hlt : j < 32 := lt_of (a := 32) (by decide) (by omega) h17
          refine lv_aload_n hx hb dX8_macTo_20 rfl (lv_at hl 0 rfl) ?_
          refine g_X8_macKey Cx hG hH q_fl_X8_29 dX8_macTo_21 ?_
          refine lv_iload_n hx hb dX8_macTo_24 rfl (lv_at hl 3 rfl) ?_
          refine mv_bal Cx hG hH isM_10 j (rfl) (by omega) dX8_macTo_25 ?_
          refine mv_eqi (x' := ((S.2.1 10 0) j).toInt32) (congrArg Int8.toInt32 (hinv.2 10 j (by simp [nX])).2.1) ?_
          refine lv_goto (tgt := 30) hx hb dX8_macTo_26 (by decide) ?_
          refine lv_bipush (v := 54) hx hb dX8_macTo_30 (by decide) ?_
          refine lv_ixor hx hb dX8_macTo_32 ?_
          refine mv_callV (Y := mLM) (C := RX8) (k := 0) (i := 0) (rest := []) Cx hG hH hS (c_X8_add l E A hO S1 (padK (S.2.1 10 0) 54 j) hinv.1 ((((S.2.1 10 0) j).toInt32) ^^^ 54) (by rw [padK_len]; omega)) q_co_X8_add q_ml_X8_104 q_im_X8_add q_se_X8_add q_in_X8 okM_0 rfl rfl hd_X8_add ⟨Nat.le_of_ble_eq_true rfl, Nat.le_of_ble_eq_true rfl⟩ rfl hl.1 rfl (Nat.le_of_ble_eq_true rfl) ⟨Nat.le_of_ble_eq_true rfl, Nat.le_of_ble_eq_true rfl⟩ dX8_macTo_33 (fun S33 H locs hP33 hH hS => ?_)
          refine W.eq (g2 := F0 m 36 ls []) rfl ?_
          refine lv_iinc (v := nI (j + 1)) (lv' := [(3, .int (nI (j + 1))), (0, .ref (mAdM E 0 0)), (1, .ref (mAdM E k0 0)), (2, .int (nI a))]) hx hb dX8_macTo_36 hl (k := 3) rfl (i2_1 j) (by decide) rfl (fun ls hl => ?_)
          refine lv_goto (tgt := 7) hx hb dX8_macTo_39 (by decide) ?_
          exact ih1 (j + 1) S33 _ _ ls  (by omega) (by omega) (by rw [padK_succ, if_pos hlt]; exact ⟨hP33.1, hinv.2.tr hP33.2⟩) hH hS (lv_sub hl [1, 2, 3, 0] rfl)
  exact lp (64 - 0 + 1) 0 (mM S 0 0 5 0) _ _ ls  (by omega) (by omega) (⟨nHas.nil, nSame.M (Or.inl ⟨rfl, rfl⟩)⟩) hH hS (lv_sub hl [1, 2, 3, 0] rfl)

set_option maxHeartbeats 4000000 in
set_option maxRecDepth 100000 in
theorem c_X8_stateTo (l : Launch) (E : mEv) (A : Nat → Prop) (hO : mOwn mLM E A) (S : mSt) (x : Int32) (k0 n0 : Nat) (hB : mIsB mLM k0 0 n0) (hk0 : ¬ k0 = 5 ∧ ¬ k0 = 0 ∧ ¬ k0 = 7 ∧ ¬ k0 = 8) (a : Nat) (ha : a + 32 ≤ n0) : Met l yX8_stateTo (Cond.code yX8_stateTo cX8_stateTo 5 none :: mv_ws) (mRm 3 90) (mPc mLM E A S [.ref (mAdM E 0 0), .int x, .ref (mAdM E k0 0), .int (nI a)]) (mQ mLM E A (fun S' => (∀ q, q < 32 → S'.2.1 k0 0 (a + q) = shaL (regL (S.2.1 16 0) x 8) q) ∧ nSame (fun k j => nX 5 k j ∨ hX k0 a k j) S S') none) 0 0 A := by
  refine Met.ofW (cc := cX8_stateTo) (maxL := 5) (ret := none) (by decide) rfl ?_
  intro p e s m args below meth c s₁ B hml hv
  obtain ⟨rfl, hG, hH⟩ := hv
  have hx := B.exec
  have hb := B.bytes
  have hr := B.returns
  have hlocks := B.notSynchronized
  have Cx : CallFix p m c cX8_stateTo 5 s ([.ref (mAdM E 0 0), .int x, .ref (mAdM E k0 0), .int (nI a)] : List Value).toArray (Cond.code yX8_stateTo cX8_stateTo 5 none :: mv_ws) RX8 := ⟨hx, hb, hml, findClass_of_methodNamed B.named, atoms_spec (ws := Cond.code yX8_stateTo cX8_stateTo 5 none :: mv_ws) B.pre⟩
  have hS : va_S A s.heap s.heap [] := va_S.rf
  have hl := lv_entry ([.ref (mAdM E 0 0), .int x, .ref (mAdM E k0 0), .int (nI a)]) (n := 5) (Nat.le_of_ble_eq_true rfl)
  rw [lg_entry_eq]
  generalize (lg_sl ([.ref (mAdM E 0 0), .int x, .ref (mAdM E k0 0), .int (nI a)]) ++ List.replicate (5 - (lg_sl ([.ref (mAdM E 0 0), .int x, .ref (mAdM E k0 0), .int (nI a)])).length) Slot.unset).toArray = ls at hl ⊢
  have hl : lv_has ls 5 [(0, .ref (mAdM E 0 0)), (1, .int x), (2, .ref (mAdM E k0 0)), (3, .int (nI a))] := hl
  refine lv_aload_n hx hb dX8_stateTo_0 rfl (lv_at hl 0 rfl) ?_
  refine lv_iconst (v := 0) hx hb dX8_stateTo_1 (by decide) ?_
  refine p_X8_rowCount Cx hG hO hH hS q_fl_X8_100 dX8_stateTo_2 (fun H locs hH hS => ?_)
  refine lv_iconst (v := 0) hx hb dX8_stateTo_5 (by decide) ?_
  refine mv_eqi (x' := nI 0) (rfl) ?_
  refine lv_istore (lv' := [(4, .int (nI 0)), (0, .ref (mAdM E 0 0)), (1, .int x), (2, .ref (mAdM E k0 0)), (3, .int (nI a))]) hx hb dX8_stateTo_6 hl (by decide) rfl (fun ls hl => ?_)
  have lp : ∀ (fu j : Nat) (S1 : mSt) (H : Heap) (locs : List Loc) (ls : Array Slot) , 8 - j < fu → j ≤ 8 → (nHas 5 1024 S1 (regL (S.2.1 16 0) x j) ∧ nSame (nX 5) S S1) → mHold mLM E S1 H → va_S A s.heap H locs → lv_has ls 5 [(0, .ref (mAdM E 0 0)), (1, .int x), (2, .ref (mAdM E k0 0)), (3, .int (nI a)), (4, .int (nI j))] → W p l e (headSpec (Cond.code yX8_stateTo cX8_stateTo 5 none :: mv_ws) (mRm 3 90)).room s m ([.ref (mAdM E 0 0), .int x, .ref (mAdM E k0 0), .int (nI a)] : List Value).toArray below meth c H locs 0 0 (MQ below (mQ mLM E A (fun S' => (∀ q, q < 32 → S'.2.1 k0 0 (a + q) = shaL (regL (S.2.1 16 0) x 8) q) ∧ nSame (fun k j => nX 5 k j ∨ hX k0 a k j) S S') none) ([.ref (mAdM E 0 0), .int x, .ref (mAdM E k0 0), .int (nI a)] : List Value).toArray s 0 0 A) (F0 m 8 ls []) := by
    intro fu
    induction fu with
    | zero => intro j S1 H locs ls  hn hj hinv hH hS hl; omega
    | succ fu ih =>
      intro j S1 H locs ls  hn hj hinv hH hS hl
      refine lv_iload hx hb dX8_stateTo_8 (lv_at hl 4 rfl) ?_
      refine lv_bipush (v := 8) hx hb dX8_stateTo_10 (by decide) ?_
      refine lv_icmp_ge (tgt := 46) hx hb dX8_stateTo_12 (by decide) (fun h12 => ?_) (fun h12 => ?_)
      · skip
        have hj8 : j = 8 := by have := ge_of (a := 8) (by decide) (by omega) h12; omega
        rw [hj8] at hinv
        refine lv_aload_n hx hb dX8_stateTo_46 rfl (lv_at hl 0 rfl) ?_
        refine lv_aload_n hx hb dX8_stateTo_47 rfl (lv_at hl 2 rfl) ?_
        refine lv_iload_n hx hb dX8_stateTo_48 rfl (lv_at hl 3 rfl) ?_
        refine mv_callV (Y := mLM) (C := RX8) (k := 0) (i := 0) (rest := []) Cx hG hH hS (c_X8_hashTo l E A hO S1 k0 n0 hB hk0 a ha _ hinv.1 (by have := regL_len (S.2.1 16 0) x 8; omega)) q_co_X8_hashTo q_ml_X8_111 q_im_X8_hashTo q_se_X8_hashTo q_in_X8 okM_0 rfl rfl hd_X8_hashTo ⟨Nat.le_of_ble_eq_true rfl, Nat.le_of_ble_eq_true rfl⟩ rfl hl.1 rfl (Nat.le_of_ble_eq_true rfl) ⟨Nat.le_of_ble_eq_true rfl, Nat.le_of_ble_eq_true rfl⟩ dX8_stateTo_49 (fun S49 H locs hP49 hH hS => ?_)
        refine W.eq (g2 := F0 m 52 ls []) rfl ?_
        exact mv_retv Cx hr hH hS (⟨hP49.1, (hinv.2.wk (X' := fun k j => nX 5 k j ∨ hX k0 a k j) (fun k j h => Or.inl h)).tr (hP49.2.wk (fun k j h => Or.inr h))⟩) dX8_stateTo_52 hlocks
      · skip
        have hj8 : j < 8 := lt_of (a := 8) (by decide) (by omega) h12
        refine lv_iload_n hx hb dX8_stateTo_15 rfl (lv_at hl 1 rfl) ?_
        refine lv_iload hx hb dX8_stateTo_16 (lv_at hl 4 rfl) ?_
        refine lv_ishr hx hb dX8_stateTo_18 ?_
        refine lv_iconst (v := 1) hx hb dX8_stateTo_19 (by decide) ?_
        refine lv_iand hx hb dX8_stateTo_20 ?_
        refine mv_eqi (x' := mU x (nI j) &&& 1) (bit_r x hj8) ?_
        refine lv_iconst (v := 1) hx hb dX8_stateTo_21 (by decide) ?_
        refine lv_icmp_ne (tgt := 40) hx hb dX8_stateTo_22 (by decide) (fun h22 => ?_) (fun h22 => ?_)
        · skip
          refine lv_iinc (v := nI (j + 1)) (lv' := [(4, .int (nI (j + 1))), (0, .ref (mAdM E 0 0)), (1, .int x), (2, .ref (mAdM E k0 0)), (3, .int (nI a))]) hx hb dX8_stateTo_40 hl (k := 4) rfl (i2_1 j) (by decide) rfl (fun ls hl => ?_)
          refine lv_goto (tgt := 8) hx hb dX8_stateTo_43 (by decide) ?_
          exact ih (j + 1) S1 _ _ ls  (by omega) (by omega) (by rw [regL_succ, if_pos ((bit_01 _).resolve_right h22), List.append_nil]; exact hinv) hH hS (lv_sub hl [1, 2, 3, 4, 0] rfl)
        · skip
          refine lv_aload_n hx hb dX8_stateTo_25 rfl (lv_at hl 0 rfl) ?_
          refine lv_aload_n hx hb dX8_stateTo_26 rfl (lv_at hl 0 rfl) ?_
          refine g_X8_register Cx hG hH q_fl_X8_44 dX8_stateTo_27 ?_
          refine lv_bipush (v := 32) hx hb dX8_stateTo_30 (by decide) ?_
          refine lv_iload hx hb dX8_stateTo_32 (lv_at hl 4 rfl) ?_
          refine lv_imul hx hb dX8_stateTo_34 ?_
          refine mv_eqi (x' := nI (32 * j)) (pk_mul 32 j) ?_
          refine lv_bipush (v := 32) hx hb dX8_stateTo_35 (by decide) ?_
          refine mv_eqi (x' := nI 32) (rfl) ?_
          refine mv_callV (Y := mLM) (C := RX8) (k := 0) (i := 0) (rest := []) Cx hG hH hS (c_X8_add_ l E A hO S1 16 256 isM_16 (by decide) (32 * j) 32 (by omega) (regL (S.2.1 16 0) x j) hinv.1 (by have := regL_len (S.2.1 16 0) x j; omega)) q_co_X8_add_ q_ml_X8_134 q_im_X8_add_ q_se_X8_add_ q_in_X8 okM_0 rfl rfl hd_X8_add_ ⟨Nat.le_of_ble_eq_true rfl, Nat.le_of_ble_eq_true rfl⟩ rfl hl.1 rfl (Nat.le_of_ble_eq_true rfl) ⟨Nat.le_of_ble_eq_true rfl, Nat.le_of_ble_eq_true rfl⟩ dX8_stateTo_37 (fun S37 H locs hP37 hH hS => ?_)
          refine W.eq (g2 := F0 m 40 ls []) rfl ?_
          refine lv_iinc (v := nI (j + 1)) (lv' := [(4, .int (nI (j + 1))), (0, .ref (mAdM E 0 0)), (1, .int x), (2, .ref (mAdM E k0 0)), (3, .int (nI a))]) hx hb dX8_stateTo_40 hl (k := 4) rfl (i2_1 j) (by decide) rfl (fun ls hl => ?_)
          refine lv_goto (tgt := 8) hx hb dX8_stateTo_43 (by decide) ?_
          exact ih (j + 1) S37 _ _ ls  (by omega) (by omega) (by rw [regL_succ, if_neg (fun h => absurd (h.symm.trans h22) (by decide))]; exact ⟨by have h := hP37.1; rwa [show mTk (fun q => S1.2.1 16 0 (32 * j + q)) 32 = mTk (fun q => S.2.1 16 0 (32 * j + q)) 32 from mTk_congr (fun q hq => (hinv.2 16 _ (by simp [nX])).2.1)] at h, hinv.2.tr hP37.2⟩) hH hS (lv_sub hl [1, 2, 3, 4, 0] rfl)
  exact lp (8 - 0 + 1) 0 (mM S 0 0 5 0) _ _ ls  (by omega) (by omega) (⟨nHas.nil, nSame.M (Or.inl ⟨rfl, rfl⟩)⟩) hH hS (lv_sub hl [1, 2, 3, 4, 0] rfl)

set_option maxHeartbeats 4000000 in
set_option maxRecDepth 100000 in
theorem c_X8_begin (l : Launch) (E : mEv) (A : Nat → Prop) (hO : mOwn mLM E A) (S : mSt) (i : Nat) (hi : i < 4) (x : Int32) : Met l yX8_begin (Cond.code yX8_begin cX8_begin 3 none :: mv_ws) (mRm 2 45) (mPc mLM E A S [.ref (mAdM E 0 0), .int (nI i), .int x]) (mQ mLM E A (fun S' => nHas 5 1024 S' (mTk (fun q => S.2.1 23 0 (32 * i + q)) 32 ++ [x.toInt8]) ∧ nSame (nX 5) S S') none) 0 0 A := by
  refine Met.ofW (cc := cX8_begin) (maxL := 3) (ret := none) (by decide) rfl ?_
  intro p e s m args below meth c s₁ B hml hv
  obtain ⟨rfl, hG, hH⟩ := hv
  have hx := B.exec
  have hb := B.bytes
  have hr := B.returns
  have hlocks := B.notSynchronized
  have Cx : CallFix p m c cX8_begin 3 s ([.ref (mAdM E 0 0), .int (nI i), .int x] : List Value).toArray (Cond.code yX8_begin cX8_begin 3 none :: mv_ws) RX8 := ⟨hx, hb, hml, findClass_of_methodNamed B.named, atoms_spec (ws := Cond.code yX8_begin cX8_begin 3 none :: mv_ws) B.pre⟩
  have hS : va_S A s.heap s.heap [] := va_S.rf
  have hl := lv_entry ([.ref (mAdM E 0 0), .int (nI i), .int x]) (n := 3) (Nat.le_of_ble_eq_true rfl)
  rw [lg_entry_eq]
  generalize (lg_sl ([.ref (mAdM E 0 0), .int (nI i), .int x]) ++ List.replicate (3 - (lg_sl ([.ref (mAdM E 0 0), .int (nI i), .int x])).length) Slot.unset).toArray = ls at hl ⊢
  have hl : lv_has ls 3 [(0, .ref (mAdM E 0 0)), (1, .int (nI i)), (2, .int x)] := hl
  refine lv_aload_n hx hb dX8_begin_0 rfl (lv_at hl 0 rfl) ?_
  refine lv_iconst (v := 0) hx hb dX8_begin_1 (by decide) ?_
  refine p_X8_rowCount Cx hG hO hH hS q_fl_X8_100 dX8_begin_2 (fun H locs hH hS => ?_)
  refine lv_aload_n hx hb dX8_begin_5 rfl (lv_at hl 0 rfl) ?_
  refine lv_aload_n hx hb dX8_begin_6 rfl (lv_at hl 0 rfl) ?_
  refine g_X8_digest Cx hG hH q_fl_X8_51 dX8_begin_7 ?_
  refine lv_bipush (v := 32) hx hb dX8_begin_10 (by decide) ?_
  refine lv_iload_n hx hb dX8_begin_12 rfl (lv_at hl 1 rfl) ?_
  refine lv_imul hx hb dX8_begin_13 ?_
  refine mv_eqi (x' := nI (32 * i)) (pk_mul 32 i) ?_
  refine lv_bipush (v := 32) hx hb dX8_begin_14 (by decide) ?_
  refine mv_eqi (x' := nI 32) (rfl) ?_
  refine mv_callV (Y := mLM) (C := RX8) (k := 0) (i := 0) (rest := []) Cx hG hH hS (c_X8_add_ l E A hO (mM S 0 0 5 0) 23 128 isM_23 (by decide) (32 * i) 32 (by omega) [] nHas.nil (by simp)) q_co_X8_add_ q_ml_X8_134 q_im_X8_add_ q_se_X8_add_ q_in_X8 okM_0 rfl rfl hd_X8_add_ ⟨Nat.le_of_ble_eq_true rfl, Nat.le_of_ble_eq_true rfl⟩ rfl hl.1 rfl (Nat.le_of_ble_eq_true rfl) ⟨Nat.le_of_ble_eq_true rfl, Nat.le_of_ble_eq_true rfl⟩ dX8_begin_16 (fun S16 H locs hP16 hH hS => ?_)
  refine W.eq (g2 := F0 m 19 ls []) rfl ?_
  refine lv_aload_n hx hb dX8_begin_19 rfl (lv_at hl 0 rfl) ?_
  refine lv_iload_n hx hb dX8_begin_20 rfl (lv_at hl 2 rfl) ?_
  refine mv_callV (Y := mLM) (C := RX8) (k := 0) (i := 0) (rest := []) Cx hG hH hS (c_X8_add l E A hO S16 _ hP16.1 x (by simp [mTk_len])) q_co_X8_add q_ml_X8_104 q_im_X8_add q_se_X8_add q_in_X8 okM_0 rfl rfl hd_X8_add ⟨Nat.le_of_ble_eq_true rfl, Nat.le_of_ble_eq_true rfl⟩ rfl hl.1 rfl (Nat.le_of_ble_eq_true rfl) ⟨Nat.le_of_ble_eq_true rfl, Nat.le_of_ble_eq_true rfl⟩ dX8_begin_21 (fun S21 H locs hP21 hH hS => ?_)
  refine W.eq (g2 := F0 m 24 ls []) rfl ?_
  exact mv_retv Cx hr hH hS (⟨by have h := hP21.1; rwa [List.nil_append] at h, ((nSame.M (Or.inl ⟨rfl, rfl⟩)).tr hP16.2).tr hP21.2⟩) dX8_begin_24 hlocks

set_option maxHeartbeats 4000000 in
set_option maxRecDepth 100000 in
theorem c_X8_told (l : Launch) (E : mEv) (A : Nat → Prop) (hO : mOwn mLM E A) (S : mSt)  : Met l yX8_told (Cond.code yX8_told cX8_told 1 (some .int) :: mv_ws) (mRm 0 0) (mPc mLM E A S [.ref (mAdM E 0 0)]) (mQ mLM E A (fun S' => S' = mM S 0 0 3 32) (some (.int 32))) 0 0 A := by
  refine Met.ofW (cc := cX8_told) (maxL := 1) (ret := (some .int)) (by decide) rfl ?_
  intro p e s m args below meth c s₁ B hml hv
  obtain ⟨rfl, hG, hH⟩ := hv
  have hx := B.exec
  have hb := B.bytes
  have hr := B.returns
  have hlocks := B.notSynchronized
  have Cx : CallFix p m c cX8_told 1 s ([.ref (mAdM E 0 0)] : List Value).toArray (Cond.code yX8_told cX8_told 1 (some .int) :: mv_ws) RX8 := ⟨hx, hb, hml, findClass_of_methodNamed B.named, atoms_spec (ws := Cond.code yX8_told cX8_told 1 (some .int) :: mv_ws) B.pre⟩
  have hS : va_S A s.heap s.heap [] := va_S.rf
  have hl := lv_entry ([.ref (mAdM E 0 0)]) (n := 1) (Nat.le_of_ble_eq_true rfl)
  rw [lg_entry_eq]
  generalize (lg_sl ([.ref (mAdM E 0 0)]) ++ List.replicate (1 - (lg_sl ([.ref (mAdM E 0 0)])).length) Slot.unset).toArray = ls at hl ⊢
  have hl : lv_has ls 1 [(0, .ref (mAdM E 0 0))] := hl
  refine lv_aload_n hx hb dX8_told_0 rfl (lv_at hl 0 rfl) ?_
  refine lv_bipush (v := 32) hx hb dX8_told_1 (by decide) ?_
  refine p_X8_outCount Cx hG hO hH hS q_fl_X8_143 dX8_told_3 (fun H locs hH hS => ?_)
  refine lv_bipush (v := 32) hx hb dX8_told_6 (by decide) ?_
  exact mv_reti Cx hr hH hS (rfl) (rfl) dX8_told_8 hlocks

set_option maxHeartbeats 4000000 in
set_option maxRecDepth 100000 in
theorem c_X8_change (l : Launch) (E : mEv) (A : Nat → Prop) (hO : mOwn mLM E A) (S : mSt)  : Met l yX8_change (Cond.code yX8_change cX8_change 2 none :: mv_ws) (mRm 0 0) (mPc mLM E A S [.ref (mAdM E 0 0)]) (mQ mLM E A (fun S' => (∀ q, q < 4 → S'.1 25 0 q = if S.1 25 0 q = 0 ∧ S.1 24 0 q = 0 then 0 else 1) ∧ nSame (fun k q => k = 25 ∧ q < 4) S S') none) 0 0 A := by
  refine Met.ofW (cc := cX8_change) (maxL := 2) (ret := none) (by decide) rfl ?_
  intro p e s m args below meth c s₁ B hml hv
  obtain ⟨rfl, hG, hH⟩ := hv
  have hx := B.exec
  have hb := B.bytes
  have hr := B.returns
  have hlocks := B.notSynchronized
  have Cx : CallFix p m c cX8_change 2 s ([.ref (mAdM E 0 0)] : List Value).toArray (Cond.code yX8_change cX8_change 2 none :: mv_ws) RX8 := ⟨hx, hb, hml, findClass_of_methodNamed B.named, atoms_spec (ws := Cond.code yX8_change cX8_change 2 none :: mv_ws) B.pre⟩
  have hS : va_S A s.heap s.heap [] := va_S.rf
  have hl := lv_entry ([.ref (mAdM E 0 0)]) (n := 2) (Nat.le_of_ble_eq_true rfl)
  rw [lg_entry_eq]
  generalize (lg_sl ([.ref (mAdM E 0 0)]) ++ List.replicate (2 - (lg_sl ([.ref (mAdM E 0 0)])).length) Slot.unset).toArray = ls at hl ⊢
  have hl : lv_has ls 2 [(0, .ref (mAdM E 0 0))] := hl
  refine lv_iconst (v := 0) hx hb dX8_change_0 (by decide) ?_
  refine mv_eqi (x' := nI 0) (rfl) ?_
  refine lv_istore_n (lv' := [(1, .int (nI 0)), (0, .ref (mAdM E 0 0))]) hx hb dX8_change_1 rfl hl (by decide) rfl (fun ls hl => ?_)
  have lp : ∀ (fu j : Nat) (S1 : mSt) (H : Heap) (locs : List Loc) (ls : Array Slot) , 4 - j < fu → j ≤ 4 → ((∀ q, q < j → S1.1 25 0 q = if S.1 25 0 q = 0 ∧ S.1 24 0 q = 0 then 0 else 1) ∧ nSame (fun k q => k = 25 ∧ q < j) S S1) → mHold mLM E S1 H → va_S A s.heap H locs → lv_has ls 2 [(0, .ref (mAdM E 0 0)), (1, .int (nI j))] → W p l e (headSpec (Cond.code yX8_change cX8_change 2 none :: mv_ws) (mRm 0 0)).room s m ([.ref (mAdM E 0 0)] : List Value).toArray below meth c H locs 0 0 (MQ below (mQ mLM E A (fun S' => (∀ q, q < 4 → S'.1 25 0 q = if S.1 25 0 q = 0 ∧ S.1 24 0 q = 0 then 0 else 1) ∧ nSame (fun k q => k = 25 ∧ q < 4) S S') none) ([.ref (mAdM E 0 0)] : List Value).toArray s 0 0 A) (F0 m 2 ls []) := by
    intro fu
    induction fu with
    | zero => intro j S1 H locs ls  hn hj hinv hH hS hl; omega
    | succ fu ih =>
      intro j S1 H locs ls  hn hj hinv hH hS hl
      refine lv_iload_n hx hb dX8_change_2 rfl (lv_at hl 1 rfl) ?_
      refine lv_iconst (v := 4) hx hb dX8_change_3 (by decide) ?_
      refine lv_icmp_ge (tgt := 42) hx hb dX8_change_4 (by decide) (fun h4 => ?_) (fun h4 => ?_)
      · skip
        have hj4 : j = 4 := by have := ge_of (a := 4) (by decide) (by omega) h4; omega
        rw [hj4] at hinv
        exact mv_retv Cx hr hH hS (⟨hinv.1, hinv.2⟩) dX8_change_42 hlocks
      · skip
        have hj4 : j < 4 := lt_of (a := 4) (by decide) (by omega) h4
        refine lv_aload_n hx hb dX8_change_7 rfl (lv_at hl 0 rfl) ?_
        refine g_X8_changed Cx hG hH q_fl_X8_57 dX8_change_8 ?_
        refine lv_iload_n hx hb dX8_change_11 rfl (lv_at hl 1 rfl) ?_
        refine lv_aload_n hx hb dX8_change_12 rfl (lv_at hl 0 rfl) ?_
        refine g_X8_changed Cx hG hH q_fl_X8_57 dX8_change_13 ?_
        refine lv_iload_n hx hb dX8_change_16 rfl (lv_at hl 1 rfl) ?_
        refine mv_zal Cx hG hH isM_25 j (rfl) (by omega) dX8_change_17 ?_
        refine mv_eqi (x' := S.1 25 0 j) ((hinv.2 25 j (by omega)).1) ?_
        refine lv_if_ne (tgt := 30) hx hb dX8_change_18 (by decide) (fun h18 => ?_) (fun h18 => ?_)
        · skip
          refine lv_iconst (v := 1) hx hb dX8_change_30 (by decide) ?_
          refine lv_goto (tgt := 35) hx hb dX8_change_31 (by decide) ?_
          refine mv_zas Cx hG hO hH hS isM_25 j (Or.inr rfl) (rfl) (by omega) dX8_change_35 (fun H locs hH hS => ?_)
          refine lv_iinc (v := nI (j + 1)) (lv' := [(1, .int (nI (j + 1))), (0, .ref (mAdM E 0 0))]) hx hb dX8_change_36 hl (k := 1) rfl (i2_1 j) (by decide) rfl (fun ls hl => ?_)
          refine lv_goto (tgt := 2) hx hb dX8_change_39 (by decide) ?_
          exact ih (j + 1) (mM S1 25 0 j 1) _ _ ls  (by omega) (by omega) (⟨fun q hq => by by_cases e : q = j; (subst e; exact (show m3 S1.1 25 0 q _ 25 0 q = _ by simp [m3]).trans (if_neg (fun h => h18 h.1)).symm); (exact (show m3 S1.1 25 0 j _ 25 0 q = _ from m3_n _ _ (by omega)).trans (hinv.1 q (by omega))), (hinv.2.wk (X' := fun k q => k = 25 ∧ q < j + 1) (fun k q h => ⟨h.1, by omega⟩)).tr (nSame.M ⟨rfl, by omega⟩)⟩) hH hS (lv_sub hl [1, 0] rfl)
        · skip
          refine lv_aload_n hx hb dX8_change_21 rfl (lv_at hl 0 rfl) ?_
          refine g_X8_ofRegisters Cx hG hH q_fl_X8_54 dX8_change_22 ?_
          refine lv_iload_n hx hb dX8_change_25 rfl (lv_at hl 1 rfl) ?_
          refine mv_zal Cx hG hH isM_24 j (rfl) (by omega) dX8_change_26 ?_
          refine mv_eqi (x' := S.1 24 0 j) ((hinv.2 24 j (by omega)).1) ?_
          refine lv_if_eq (tgt := 34) hx hb dX8_change_27 (by decide) (fun h27 => ?_) (fun h27 => ?_)
          · skip
            refine lv_iconst (v := 0) hx hb dX8_change_34 (by decide) ?_
            refine mv_zas Cx hG hO hH hS isM_25 j (Or.inl rfl) (rfl) (by omega) dX8_change_35 (fun H locs hH hS => ?_)
            refine lv_iinc (v := nI (j + 1)) (lv' := [(1, .int (nI (j + 1))), (0, .ref (mAdM E 0 0))]) hx hb dX8_change_36 hl (k := 1) rfl (i2_1 j) (by decide) rfl (fun ls hl => ?_)
            refine lv_goto (tgt := 2) hx hb dX8_change_39 (by decide) ?_
            exact ih (j + 1) (mM S1 25 0 j 0) _ _ ls  (by omega) (by omega) (⟨fun q hq => by by_cases e : q = j; (subst e; exact (show m3 S1.1 25 0 q _ 25 0 q = _ by simp [m3]).trans (if_pos ⟨h18, h27⟩).symm); (exact (show m3 S1.1 25 0 j _ 25 0 q = _ from m3_n _ _ (by omega)).trans (hinv.1 q (by omega))), (hinv.2.wk (X' := fun k q => k = 25 ∧ q < j + 1) (fun k q h => ⟨h.1, by omega⟩)).tr (nSame.M ⟨rfl, by omega⟩)⟩) hH hS (lv_sub hl [1, 0] rfl)
          · skip
            refine lv_iconst (v := 1) hx hb dX8_change_30 (by decide) ?_
            refine lv_goto (tgt := 35) hx hb dX8_change_31 (by decide) ?_
            refine mv_zas Cx hG hO hH hS isM_25 j (Or.inr rfl) (rfl) (by omega) dX8_change_35 (fun H locs hH hS => ?_)
            refine lv_iinc (v := nI (j + 1)) (lv' := [(1, .int (nI (j + 1))), (0, .ref (mAdM E 0 0))]) hx hb dX8_change_36 hl (k := 1) rfl (i2_1 j) (by decide) rfl (fun ls hl => ?_)
            refine lv_goto (tgt := 2) hx hb dX8_change_39 (by decide) ?_
            exact ih (j + 1) (mM S1 25 0 j 1) _ _ ls  (by omega) (by omega) (⟨fun q hq => by by_cases e : q = j; (subst e; exact (show m3 S1.1 25 0 q _ 25 0 q = _ by simp [m3]).trans (if_neg (fun h => h27 h.2)).symm); (exact (show m3 S1.1 25 0 j _ 25 0 q = _ from m3_n _ _ (by omega)).trans (hinv.1 q (by omega))), (hinv.2.wk (X' := fun k q => k = 25 ∧ q < j + 1) (fun k q h => ⟨h.1, by omega⟩)).tr (nSame.M ⟨rfl, by omega⟩)⟩) hH hS (lv_sub hl [1, 0] rfl)
  exact lp (4 - 0 + 1) 0 S _ _ ls  (by omega) (by omega) (⟨fun q h => absurd h (Nat.not_lt_zero _), nSame.rf⟩) hH hS (lv_sub hl [1, 0] rfl)

set_option maxHeartbeats 4000000 in
set_option maxRecDepth 100000 in
theorem c_X8_many (l : Launch) (E : mEv) (A : Nat → Prop) (hO : mOwn mLM E A) (S : mSt) (k0 n0 : Nat) (hZ : mIsZ mLM k0 0 n0) (a n : Nat) (hn : a + n ≤ n0) : Met l yX8_many (Cond.code yX8_many cX8_many 5 (some .int) :: mv_ws) (mRm 0 0) (mPc mLM E A S [.ref (mAdM E k0 0), .int (nI a), .int (nI (a + n))]) (mQ mLM E A (fun S' => S' = S) (some (.int (cntN (fun q => S.1 k0 0 (a + q)) n)))) 0 0 A := by
  refine Met.ofW (cc := cX8_many) (maxL := 5) (ret := (some .int)) (by decide) rfl ?_
  intro p e s m args below meth c s₁ B hml hv
  obtain ⟨rfl, hG, hH⟩ := hv
  have hx := B.exec
  have hb := B.bytes
  have hr := B.returns
  have hlocks := B.notSynchronized
  have Cx : CallFix p m c cX8_many 5 s ([.ref (mAdM E k0 0), .int (nI a), .int (nI (a + n))] : List Value).toArray (Cond.code yX8_many cX8_many 5 (some .int) :: mv_ws) RX8 := ⟨hx, hb, hml, findClass_of_methodNamed B.named, atoms_spec (ws := Cond.code yX8_many cX8_many 5 (some .int) :: mv_ws) B.pre⟩
  have hS : va_S A s.heap s.heap [] := va_S.rf
  have hn0 := hZ.2.1
  have hl := lv_entry ([.ref (mAdM E k0 0), .int (nI a), .int (nI (a + n))]) (n := 5) (Nat.le_of_ble_eq_true rfl)
  rw [lg_entry_eq]
  generalize (lg_sl ([.ref (mAdM E k0 0), .int (nI a), .int (nI (a + n))]) ++ List.replicate (5 - (lg_sl ([.ref (mAdM E k0 0), .int (nI a), .int (nI (a + n))])).length) Slot.unset).toArray = ls at hl ⊢
  have hl : lv_has ls 5 [(0, .ref (mAdM E k0 0)), (1, .int (nI a)), (2, .int (nI (a + n)))] := hl
  refine lv_iconst (v := 0) hx hb dX8_many_0 (by decide) ?_
  refine lv_istore_n (lv' := [(3, .int 0), (0, .ref (mAdM E k0 0)), (1, .int (nI a)), (2, .int (nI (a + n)))]) hx hb dX8_many_1 rfl hl (by decide) rfl (fun ls hl => ?_)
  refine lv_iload_n hx hb dX8_many_2 rfl (lv_at hl 2 rfl) ?_
  refine mv_eqi (x' := nI (a + 0)) (rfl) ?_
  refine lv_istore (lv' := [(4, .int (nI (a + 0))), (3, .int 0), (0, .ref (mAdM E k0 0)), (1, .int (nI a)), (2, .int (nI (a + n)))]) hx hb dX8_many_3 hl (by decide) rfl (fun ls hl => ?_)
  have lp : ∀ (fu j : Nat) (S1 : mSt) (H : Heap) (locs : List Loc) (ls : Array Slot) , n - j < fu → j ≤ n → (S1 = S) → mHold mLM E S1 H → va_S A s.heap H locs → lv_has ls 5 [(0, .ref (mAdM E k0 0)), (1, .int (nI a)), (2, .int (nI (a + n))), (3, .int (cntN (fun q => S.1 k0 0 (a + q)) j)), (4, .int (nI (a + j)))] → W p l e (headSpec (Cond.code yX8_many cX8_many 5 (some .int) :: mv_ws) (mRm 0 0)).room s m ([.ref (mAdM E k0 0), .int (nI a), .int (nI (a + n))] : List Value).toArray below meth c H locs 0 0 (MQ below (mQ mLM E A (fun S' => S' = S) (some (.int (cntN (fun q => S.1 k0 0 (a + q)) n)))) ([.ref (mAdM E k0 0), .int (nI a), .int (nI (a + n))] : List Value).toArray s 0 0 A) (F0 m 5 ls []) := by
    intro fu
    induction fu with
    | zero => intro j S1 H locs ls  hn hj hinv hH hS hl; omega
    | succ fu ih =>
      intro j S1 H locs ls  hn hj hinv hH hS hl
      have hH := mv_S hinv hH
      refine lv_iload hx hb dX8_many_5 (lv_at hl 4 rfl) ?_
      refine mv_eqi (x' := nI (a + j)) (rfl) ?_
      refine lv_iload_n hx hb dX8_many_7 rfl (lv_at hl 2 rfl) ?_
      refine lv_icmp_ge (tgt := 32) hx hb dX8_many_8 (by decide) (fun h8 => ?_) (fun h8 => ?_)
      · skip
        have hjn : j = n := by have := ge_of (a := a + n) (b := a + j) (by omega) (by omega) h8; omega
        refine lv_iload_n hx hb dX8_many_32 rfl (lv_at hl 3 rfl) ?_
        exact mv_reti Cx hr hH hS (by rw [hjn]) (rfl) dX8_many_33 hlocks
      · skip
        have hjn : j < n := by have := lt_of (a := a + n) (b := a + j) (by omega) (by omega) h8; omega
        refine lv_iload_n hx hb dX8_many_11 rfl (lv_at hl 3 rfl) ?_
        refine lv_aload_n hx hb dX8_many_12 rfl (lv_at hl 0 rfl) ?_
        refine lv_iload hx hb dX8_many_13 (lv_at hl 4 rfl) ?_
        refine mv_zal Cx hG hH hZ (a + j) (rfl) (by omega) dX8_many_15 ?_
        refine lv_if_eq (tgt := 23) hx hb dX8_many_16 (by decide) (fun h16 => ?_) (fun h16 => ?_)
        · skip
          refine lv_iconst (v := 0) hx hb dX8_many_23 (by decide) ?_
          refine lv_iadd hx hb dX8_many_24 ?_
          refine mv_eqi (x' := cntN (fun q => S.1 k0 0 (a + q)) (j + 1)) (by show _ = cntN (fun q => S.1 k0 0 (a + q)) j + (if S.1 k0 0 (a + j) = 0 then 0 else 1); rw [if_pos h16]) ?_
          refine lv_istore_n (lv' := [(3, .int (cntN (fun q => S.1 k0 0 (a + q)) (j + 1))), (0, .ref (mAdM E k0 0)), (1, .int (nI a)), (2, .int (nI (a + n))), (4, .int (nI (a + j)))]) hx hb dX8_many_25 rfl hl (by decide) rfl (fun ls hl => ?_)
          refine lv_iinc (v := nI (a + (j + 1))) (lv' := [(4, .int (nI (a + (j + 1)))), (3, .int (cntN (fun q => S.1 k0 0 (a + q)) (j + 1))), (0, .ref (mAdM E k0 0)), (1, .int (nI a)), (2, .int (nI (a + n)))]) hx hb dX8_many_26 hl (k := 4) rfl (i2_1 (a + j)) (by decide) rfl (fun ls hl => ?_)
          refine lv_goto (tgt := 5) hx hb dX8_many_29 (by decide) ?_
          exact ih (j + 1) S _ _ ls  (by omega) (by omega) (rfl) hH hS (lv_sub hl [2, 3, 4, 1, 0] rfl)
        · skip
          refine lv_iconst (v := 1) hx hb dX8_many_19 (by decide) ?_
          refine lv_goto (tgt := 24) hx hb dX8_many_20 (by decide) ?_
          refine lv_iadd hx hb dX8_many_24 ?_
          refine mv_eqi (x' := cntN (fun q => S.1 k0 0 (a + q)) (j + 1)) (by show _ = cntN (fun q => S.1 k0 0 (a + q)) j + (if S.1 k0 0 (a + j) = 0 then 0 else 1); rw [if_neg h16]) ?_
          refine lv_istore_n (lv' := [(3, .int (cntN (fun q => S.1 k0 0 (a + q)) (j + 1))), (0, .ref (mAdM E k0 0)), (1, .int (nI a)), (2, .int (nI (a + n))), (4, .int (nI (a + j)))]) hx hb dX8_many_25 rfl hl (by decide) rfl (fun ls hl => ?_)
          refine lv_iinc (v := nI (a + (j + 1))) (lv' := [(4, .int (nI (a + (j + 1)))), (3, .int (cntN (fun q => S.1 k0 0 (a + q)) (j + 1))), (0, .ref (mAdM E k0 0)), (1, .int (nI a)), (2, .int (nI (a + n)))]) hx hb dX8_many_26 hl (k := 4) rfl (i2_1 (a + j)) (by decide) rfl (fun ls hl => ?_)
          refine lv_goto (tgt := 5) hx hb dX8_many_29 (by decide) ?_
          exact ih (j + 1) S _ _ ls  (by omega) (by omega) (rfl) hH hS (lv_sub hl [2, 3, 4, 1, 0] rfl)
  exact lp (n - 0 + 1) 0 S _ _ ls  (by omega) (by omega) (rfl) hH hS (lv_sub hl [2, 3, 4, 1, 0] rfl)
