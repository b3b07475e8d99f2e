/-! ===== the vault's public methods: quotes, blobs, objects ===== -/
def quL (S : mSt) (x : Int32) (ts : List Int8) : List Int8 := [(81 : Int32).toInt8] ++ [x.toInt8] ++ mTk (shaL (regL (S.2.1 16 0) x 8)) 32 ++ w4 (S.1 0 0 13) ++ w4 (S.1 0 0 14) ++ ts
theorem quL_len (S : mSt) (x : Int32) (ts : List Int8) : (quL S x ts).length = 42 + ts.length := by
  simp only [quL, List.length_append, List.length_singleton, mTk_len, w4_len]
theorem blobL_len (seed : Nat → Int8) (N : Int32) (pol auth : Nat → Int8) (ts : List Int8) : (blobL seed N pol auth ts).length = 101 + ts.length := by
  simp only [blobL, List.length_append, bl1_len, bl0_len, mTk_len]
  omega
theorem ffO_congr {S S' : mSt} (h : ∀ q, q < 4 → S'.1 22 q 3 = S.1 22 q 3) : ffO S' = ffO S := by
  unfold ffO
  rw [h 0 (by omega), h 1 (by omega), h 2 (by omega), h 3 (by omega)]
theorem akS_same (S : mSt) (f : Nat → Int8) : mSame (fun k _ => k = 0) S (akS S f) := by
  unfold akS
  split
  · split
    · exact mSame.rf
    · exact mSame.M rfl
  · exact mSame.rf
theorem askP_same (S : mSt) (t : Nat) (x co : Int32) : mSame (fun k _ => k = 0 ∨ k = 19) S (askP S t x co).2 := by
  have ha := (akS_same S (S.2.1 23 t)).wk (X' := fun k _ => k = 0 ∨ k = 19) (fun _ _ h => Or.inl h)
  unfold askP
  split
  · exact ha
  · cases seO S x with
    | none => exact mSame.rf
    | some i =>
      show mSame _ S (askQ S t i co).2
      unfold askQ
      split
      · exact mSame.rf
      · split
        · split
          · split
            · exact mSame.M (Or.inr rfl)
            · split
              · exact ha.tr (mSame.M (Or.inr rfl))
              · exact ha
          · exact mSame.rf
        · exact mSame.rf
theorem acP_same (S : mSt) (i : Nat) (x co : Int32) : mSame (fun k _ => k = 0 ∨ k = 19) S (acP S i x co).2 := by
  unfold acP
  split
  · exact askP_same S (4 + i) x co
  · exact mSame.rf
theorem macL_congr2 {f g : Nat → Int8} {as ms : List Int8} (h : ∀ j, j < 32 → f j = g j) (j : Nat) (_ : j < 32) : macL (macL f as) ms j = macL (macL g as) ms j := macL_congr (fun q _ => macL_congr h q) j
set_option maxHeartbeats 4000000 in
set_option maxRecDepth 100000 in
theorem c_X7_quote (l : Launch) (E : mEv) (A : Nat → Prop) (hO : mOwn mLC E A) (S : mSt) (x : Int32) (ts : List Int8) (hts : bHas S 0 ts) : Met l yX7_quote (Cond.code yX7_quote cX7_quote 3 (some .int) :: mv_ws) (mRm 6 134) (mPc mLC E A S [.ref (mAdC E 0 0), .int x]) (mQ mLC E A (fun S' => bHas S' 0 [] ∧ (ts.length ≤ 32 → bHas S' 1 (quL S x ts ++ mTk (macL (macL (S.2.1 8 0) [(81 : Int32).toInt8]) (quL S x ts)) 32) ∧ mSame (fun k i => scX k i ∨ bX 0 k i ∨ bX 1 k i) S S') ∧ (¬ ts.length ≤ 32 → mSame (bX 0) S S')) (some (.int (if ts.length ≤ 32 then nI (74 + ts.length) else -1)))) 0 0 A := by
  refine Met.ofW (cc := cX7_quote) (maxL := 3) (ret := (some .int)) (by decide) rfl ?_
  intro p e s m args below meth c s₁ B hml hv
  obtain ⟨rfl, hG, hH⟩ := hv
  have hx := B.exec
  have hb := B.bytes
  have hr := B.returns
  have hlocks := B.notSynchronized
  have Cx : CallFix p m c cX7_quote 3 s ([.ref (mAdC E 0 0), .int x] : List Value).toArray (Cond.code yX7_quote cX7_quote 3 (some .int) :: mv_ws) RX7 := ⟨hx, hb, hml, findClass_of_methodNamed B.named, atoms_spec (ws := Cond.code yX7_quote cX7_quote 3 (some .int) :: mv_ws) B.pre⟩
  have hS : va_S A s.heap s.heap [] := va_S.rf
  have hlen := hts.2.1
  rw [mLn_0] at hlen
  have hl := lv_entry ([.ref (mAdC E 0 0), .int x]) (n := 3) (Nat.le_of_ble_eq_true rfl)
  rw [lg_entry_eq]
  generalize (lg_sl ([.ref (mAdC E 0 0), .int x]) ++ List.replicate (3 - (lg_sl ([.ref (mAdC E 0 0), .int x])).length) Slot.unset).toArray = ls at hl ⊢
  have hl : lv_has ls 3 [(0, .ref (mAdC E 0 0)), (1, .int x)] := hl
  refine lv_iconst (v := (-1 : Int32)) hx hb dX7_quote_0 (by decide) ?_
  refine lv_istore_n (lv' := [(2, .int (-1 : Int32)), (0, .ref (mAdC E 0 0)), (1, .int x)]) hx hb dX7_quote_1 rfl hl (by decide) rfl (fun ls hl => ?_)
  refine lv_aload_n hx hb dX7_quote_2 rfl (lv_at hl 1 rfl) ?_
  refine g_X7_tape Cx hG hH q_fl_X7_30 dX7_quote_3 ?_
  refine g_X0_size Cx hG hH (by decide) q_fl_X7_89 dX7_quote_6 ?_
  refine mv_eqi (x' := nI ts.length) (hts.1) ?_
  refine lv_bipush (v := 32) hx hb dX7_quote_9 (by decide) ?_
  refine mv_eqi (x' := nI 32) (rfl) ?_
  refine lv_icmp_gt (tgt := 130) hx hb dX7_quote_11 (by decide) (fun h11 => ?_) (fun h11 => ?_)
  · skip
    have h32 : ¬ ts.length ≤ 32 := Nat.not_le.mpr ((nI_ltI (by decide) (by omega)).mp h11)
    refine lv_aload_n hx hb dX7_quote_130 rfl (lv_at hl 1 rfl) ?_
    refine g_X7_tape Cx hG hH q_fl_X7_30 dX7_quote_131 ?_
    refine lv_iconst (v := 0) hx hb dX7_quote_134 (by decide) ?_
    refine p_X0_size Cx hG hO hH hS (by decide) q_fl_X7_89 dX7_quote_135 (fun H locs hH hS => ?_)
    refine lv_iload_n hx hb dX7_quote_138 rfl (lv_at hl 0 rfl) ?_
    exact mv_reti Cx hr hH hS ((if_neg h32).symm) (⟨bHas.nil, fun q => absurd q h32, fun _ => mSame.M ⟨Or.inl rfl, rfl⟩⟩) dX7_quote_139 hlocks
  · skip
    have h32 : ts.length ≤ 32 := Nat.not_lt.mp (fun q => h11 ((nI_ltI (by decide) (by omega)).mpr q))
    refine lv_aload_n hx hb dX7_quote_14 rfl (lv_at hl 1 rfl) ?_
    refine g_X7_registers Cx hG hH q_fl_X7_53 dX7_quote_15 ?_
    refine lv_iload_n hx hb dX7_quote_18 rfl (lv_at hl 2 rfl) ?_
    refine lv_aload_n hx hb dX7_quote_19 rfl (lv_at hl 1 rfl) ?_
    refine g_X7_hasher Cx hG hH q_fl_X7_10 dX7_quote_20 ?_
    refine lv_aload_n hx hb dX7_quote_23 rfl (lv_at hl 1 rfl) ?_
    refine g_X7_scratch Cx hG hH q_fl_X7_47 dX7_quote_24 ?_
    refine mv_callV (Y := mLC) (C := RX2) (k := 15) (i := 0) (rest := []) Cx hG hH hS (c_X2_measure l E A hO S x 14 0 isC_14) q_co_X2_measure q_ml_X7_118 q_im_X2_measure q_se_X2_measure q_in_X2 okC_15 rfl rfl hd_X2_measure ⟨Nat.le_of_ble_eq_true rfl, Nat.le_of_ble_eq_true rfl⟩ rfl hl.1 rfl (Nat.le_of_ble_eq_true rfl) ⟨Nat.le_of_ble_eq_true rfl, Nat.le_of_ble_eq_true rfl⟩ dX7_quote_27 (fun S27 H locs hP27 hH hS => ?_)
    refine W.eq (g2 := F0 m 30 ls []) rfl ?_
    refine lv_aload_n hx hb dX7_quote_30 rfl (lv_at hl 1 rfl) ?_
    refine g_X7_out Cx hG hH q_fl_X7_34 dX7_quote_31 ?_
    refine lv_iconst (v := 0) hx hb dX7_quote_34 (by decide) ?_
    refine p_X0_size Cx hG hO hH hS (by decide) q_fl_X7_89 dX7_quote_35 (fun H locs hH hS => ?_)
    refine lv_aload_n hx hb dX7_quote_38 rfl (lv_at hl 1 rfl) ?_
    refine g_X7_out Cx hG hH q_fl_X7_34 dX7_quote_39 ?_
    refine lv_bipush (v := 81) hx hb dX7_quote_42 (by decide) ?_
    refine mv_callV (Y := mLC) (C := RX0) (k := 2) (i := 1) (rest := []) Cx hG hH hS (c_X0_put l E A hO (mM S27 2 1 1 0) 1 (by decide) [] bHas.nil 81 (by decide)) q_co_X0_put q_ml_X7_122 q_im_X0_put q_se_X0_put q_in_X0 (okC_2 (by decide)) rfl rfl hd_X0_put ⟨Nat.le_of_ble_eq_true rfl, Nat.le_of_ble_eq_true rfl⟩ rfl hl.1 rfl (Nat.le_of_ble_eq_true rfl) ⟨Nat.le_of_ble_eq_true rfl, Nat.le_of_ble_eq_true rfl⟩ dX7_quote_44 (fun S44 H locs hP44 hH hS => ?_)
    refine W.eq (g2 := F0 m 47 ls []) rfl ?_
    refine lv_aload_n hx hb dX7_quote_47 rfl (lv_at hl 1 rfl) ?_
    refine g_X7_out Cx hG hH q_fl_X7_34 dX7_quote_48 ?_
    refine lv_iload_n hx hb dX7_quote_51 rfl (lv_at hl 2 rfl) ?_
    refine mv_callV (Y := mLC) (C := RX0) (k := 2) (i := 1) (rest := []) Cx hG hH hS (c_X0_put l E A hO S44 1 (by decide) _ hP44.1 x (by decide)) q_co_X0_put q_ml_X7_122 q_im_X0_put q_se_X0_put q_in_X0 (okC_2 (by decide)) rfl rfl hd_X0_put ⟨Nat.le_of_ble_eq_true rfl, Nat.le_of_ble_eq_true rfl⟩ rfl hl.1 rfl (Nat.le_of_ble_eq_true rfl) ⟨Nat.le_of_ble_eq_true rfl, Nat.le_of_ble_eq_true rfl⟩ dX7_quote_52 (fun S52 H locs hP52 hH hS => ?_)
    refine W.eq (g2 := F0 m 55 ls []) rfl ?_
    refine lv_aload_n hx hb dX7_quote_55 rfl (lv_at hl 1 rfl) ?_
    refine g_X7_out Cx hG hH q_fl_X7_34 dX7_quote_56 ?_
    refine lv_aload_n hx hb dX7_quote_59 rfl (lv_at hl 1 rfl) ?_
    refine g_X7_scratch Cx hG hH q_fl_X7_47 dX7_quote_60 ?_
    refine lv_bipush (v := 32) hx hb dX7_quote_63 (by decide) ?_
    refine mv_callV (Y := mLC) (C := RX0) (k := 2) (i := 1) (rest := []) Cx hG hH hS (c_X0_putAll l E A hO S52 1 (by decide) _ hP52.1 14 0 32 32 isC_14 (by decide) (Nat.le_of_ble_eq_true rfl)) q_co_X0_putAll q_ml_X7_96 q_im_X0_putAll q_se_X0_putAll q_in_X0 (okC_2 (by decide)) rfl rfl hd_X0_putAll ⟨Nat.le_of_ble_eq_true rfl, Nat.le_of_ble_eq_true rfl⟩ rfl hl.1 rfl (Nat.le_of_ble_eq_true rfl) ⟨Nat.le_of_ble_eq_true rfl, Nat.le_of_ble_eq_true rfl⟩ dX7_quote_65 (fun S65 H locs hP65 hH hS => ?_)
    refine W.eq (g2 := F0 m 68 ls []) rfl ?_
    have s65 : mSame (fun k i => scX k i ∨ bX 1 k i) S S65 := (((((hP27.2.wk (fun k i h => Or.inl (h.elim (fun z => z) (fun z => by rw [z.1]; exact sc_14)))).tr (mSame.M (Or.inr ⟨Or.inl rfl, rfl⟩))).tr (hP44.2.wk (fun _ _ h => Or.inr h))).tr (hP52.2.wk (fun _ _ h => Or.inr h))).tr (hP65.2.wk (fun _ _ h => Or.inr h)))
    refine lv_aload_n hx hb dX7_quote_68 rfl (lv_at hl 1 rfl) ?_
    refine g_X7_out Cx hG hH q_fl_X7_34 dX7_quote_69 ?_
    refine lv_aload_n hx hb dX7_quote_72 rfl (lv_at hl 1 rfl) ?_
    refine g_X7_clock Cx hG hH q_fl_X7_125 dX7_quote_73 ?_
    refine mv_eqi (x' := S.1 0 0 13) ((s65 0 0 (by simp [scX, hsX, bX])).1 13) ?_
    refine mv_callV (Y := mLC) (C := RX0) (k := 2) (i := 1) (rest := []) Cx hG hH hS (c_X0_putInt l E A hO S65 1 (by decide) _ hP65.1 (S.1 0 0 13) (by simp only [List.length_append, List.length_singleton, List.length_nil, mTk_len, mLn_1]; decide)) q_co_X0_putInt q_ml_X7_86 q_im_X0_putInt q_se_X0_putInt q_in_X0 (okC_2 (by decide)) rfl rfl hd_X0_putInt ⟨Nat.le_of_ble_eq_true rfl, Nat.le_of_ble_eq_true rfl⟩ rfl hl.1 rfl (Nat.le_of_ble_eq_true rfl) ⟨Nat.le_of_ble_eq_true rfl, Nat.le_of_ble_eq_true rfl⟩ dX7_quote_76 (fun S76 H locs hP76 hH hS => ?_)
    refine W.eq (g2 := F0 m 79 ls []) rfl ?_
    have s76 : mSame (fun k i => scX k i ∨ bX 1 k i) S S76 := s65.tr (hP76.2.wk (fun _ _ h => Or.inr h))
    refine lv_aload_n hx hb dX7_quote_79 rfl (lv_at hl 1 rfl) ?_
    refine g_X7_out Cx hG hH q_fl_X7_34 dX7_quote_80 ?_
    refine lv_aload_n hx hb dX7_quote_83 rfl (lv_at hl 1 rfl) ?_
    refine g_X7_restarts Cx hG hH q_fl_X7_128 dX7_quote_84 ?_
    refine mv_eqi (x' := S.1 0 0 14) ((s76 0 0 (by simp [scX, hsX, bX])).1 14) ?_
    refine mv_callV (Y := mLC) (C := RX0) (k := 2) (i := 1) (rest := []) Cx hG hH hS (c_X0_putInt l E A hO S76 1 (by decide) _ hP76.1 (S.1 0 0 14) (by simp only [List.length_append, List.length_singleton, List.length_nil, mTk_len, w4_len, mLn_1]; decide)) q_co_X0_putInt q_ml_X7_86 q_im_X0_putInt q_se_X0_putInt q_in_X0 (okC_2 (by decide)) rfl rfl hd_X0_putInt ⟨Nat.le_of_ble_eq_true rfl, Nat.le_of_ble_eq_true rfl⟩ rfl hl.1 rfl (Nat.le_of_ble_eq_true rfl) ⟨Nat.le_of_ble_eq_true rfl, Nat.le_of_ble_eq_true rfl⟩ dX7_quote_87 (fun S87 H locs hP87 hH hS => ?_)
    refine W.eq (g2 := F0 m 90 ls []) rfl ?_
    have s87 : mSame (fun k i => scX k i ∨ bX 1 k i) S S87 := s76.tr (hP87.2.wk (fun _ _ h => Or.inr h))
    have hts87 : bHas S87 0 ts := hts.keep s87 (by simp [scX, hsX, bX]) (by simp [scX, hsX, bX])
    refine lv_aload_n hx hb dX7_quote_90 rfl (lv_at hl 1 rfl) ?_
    refine g_X7_out Cx hG hH q_fl_X7_34 dX7_quote_91 ?_
    refine lv_aload_n hx hb dX7_quote_94 rfl (lv_at hl 1 rfl) ?_
    refine g_X7_tape Cx hG hH q_fl_X7_30 dX7_quote_95 ?_
    refine g_X0_held Cx hG hH (by decide) q_fl_X7_93 dX7_quote_98 ?_
    refine lv_aload_n hx hb dX7_quote_101 rfl (lv_at hl 1 rfl) ?_
    refine g_X7_tape Cx hG hH q_fl_X7_30 dX7_quote_102 ?_
    refine g_X0_size Cx hG hH (by decide) q_fl_X7_89 dX7_quote_105 ?_
    refine mv_eqi (x' := nI ts.length) (hts87.1) ?_
    refine mv_callV (Y := mLC) (C := RX0) (k := 2) (i := 1) (rest := []) Cx hG hH hS (c_X0_putAll l E A hO S87 1 (by decide) _ hP87.1 3 0 (mLn 0) ts.length (isC_3 (by decide)) hts.2.1 (by simp only [List.length_append, List.length_singleton, List.length_nil, mTk_len, w4_len, mLn_1]; omega)) q_co_X0_putAll q_ml_X7_96 q_im_X0_putAll q_se_X0_putAll q_in_X0 (okC_2 (by decide)) rfl rfl hd_X0_putAll ⟨Nat.le_of_ble_eq_true rfl, Nat.le_of_ble_eq_true rfl⟩ rfl hl.1 rfl (Nat.le_of_ble_eq_true rfl) ⟨Nat.le_of_ble_eq_true rfl, Nat.le_of_ble_eq_true rfl⟩ dX7_quote_108 (fun S108 H locs hP108 hH hS => ?_)
    refine W.eq (g2 := F0 m 111 ls []) rfl ?_
    have hq108 : bHas S108 1 (quL S x ts) := by
      have h := hP108.1
      rw [List.nil_append, mTk_has hts87, mTk_congr (g := shaL (regL (S.2.1 16 0) x 8)) (fun j hj => ((hP52.2 14 0 (by simp [bX])).2.1 j).trans (((hP44.2 14 0 (by simp [bX])).2.1 j).trans (hP27.1 j hj)))] at h
      exact h
    have s108 : mSame (fun k i => scX k i ∨ bX 1 k i) S S108 := s87.tr (hP108.2.wk (fun _ _ h => Or.inr h))
    refine lv_aload_n hx hb dX7_quote_111 rfl (lv_at hl 1 rfl) ?_
    refine g_X7_secret Cx hG hH q_fl_X7_21 dX7_quote_112 ?_
    refine lv_aload_n hx hb dX7_quote_115 rfl (lv_at hl 1 rfl) ?_
    refine g_X7_out Cx hG hH q_fl_X7_34 dX7_quote_116 ?_
    refine mv_callV (Y := mLC) (C := RX3) (k := 7) (i := 0) (rest := []) Cx hG hH hS (c_X3_sign l E A hO S108 (quL S x ts) hq108 (by rw [quL_len, mLn_1]; omega)) q_co_X3_sign q_ml_X7_131 q_im_X3_sign q_se_X3_sign q_in_X3 okC_7 rfl rfl hd_X3_sign ⟨Nat.le_of_ble_eq_true rfl, Nat.le_of_ble_eq_true rfl⟩ rfl hl.1 rfl (Nat.le_of_ble_eq_true rfl) ⟨Nat.le_of_ble_eq_true rfl, Nat.le_of_ble_eq_true rfl⟩ dX7_quote_119 (fun S119 H locs hP119 hH hS => ?_)
    refine W.eq (g2 := F0 m 122 ls []) rfl ?_
    refine lv_aload_n hx hb dX7_quote_122 rfl (lv_at hl 1 rfl) ?_
    refine g_X7_out Cx hG hH q_fl_X7_34 dX7_quote_123 ?_
    refine g_X0_size Cx hG hH (by decide) q_fl_X7_89 dX7_quote_126 ?_
    refine mv_eqi (x' := nI (74 + ts.length)) (by have h := hP119.1.1; rw [List.length_append, quL_len, mTk_len] at h; rw [h]; congr 1; omega) ?_
    refine lv_istore_n (lv' := [(2, .int (nI (74 + ts.length))), (0, .ref (mAdC E 0 0)), (1, .int x)]) hx hb dX7_quote_129 rfl hl (by decide) rfl (fun ls hl => ?_)
    refine lv_aload_n hx hb dX7_quote_130 rfl (lv_at hl 1 rfl) ?_
    refine g_X7_tape Cx hG hH q_fl_X7_30 dX7_quote_131 ?_
    refine lv_iconst (v := 0) hx hb dX7_quote_134 (by decide) ?_
    refine p_X0_size Cx hG hO hH hS (by decide) q_fl_X7_89 dX7_quote_135 (fun H locs hH hS => ?_)
    refine lv_iload_n hx hb dX7_quote_138 rfl (lv_at hl 0 rfl) ?_
    exact mv_reti Cx hr hH hS ((if_pos h32).symm) (⟨bHas.nil, fun _ => ⟨by have h := hP119.1; rw [mTk_congr (macL_congr2 (fun j _ => (s108 8 0 (by simp [scX, hsX, bX])).2.1 j))] at h; exact h.keep (X := bX 0) (mSame.M ⟨Or.inl rfl, rfl⟩) (by simp [bX]) (by simp [bX]), ((s108.wk (fun _ _ h => h.elim Or.inl (fun z => Or.inr (Or.inr z)))).tr (hP119.2.wk (fun _ _ h => h.elim Or.inl (fun z => Or.inr (Or.inr z))))).tr (mSame.M (Or.inr (Or.inl ⟨Or.inl rfl, rfl⟩)))⟩, fun q => absurd h32 q⟩) dX7_quote_139 hlocks

set_option maxHeartbeats 4000000 in
set_option maxRecDepth 100000 in
theorem c_X7_seal (l : Launch) (E : mEv) (A : Nat → Prop) (hO : mOwn mLC E A) (S : mSt) (x : Int32) (ts : List Int8) (hts : bHas S 0 ts) : Met l yX7_seal (Cond.code yX7_seal cX7_seal 4 (some .int) :: mv_ws) (mRm 6 138) (mPc mLC E A S [.ref (mAdC E 0 0), .int x]) (mQ mLC E A (fun S' => bHas S' 0 [] ∧ (poO S x = none → mSame (bX 0) S S') ∧ ∀ k i, poO S x = some (k, i) → (ts.length ≤ 128 → bHas S' 1 (blobL (S.2.1 8 0) (S.1 7 0 4) (S.2.1 k i) (S.2.1 11 0) ts) ∧ S'.1 7 0 4 = S.1 7 0 4 + 1 ∧ mSame (fun k i => scX k i ∨ bX 0 k i ∨ bX 1 k i ∨ k = 7) S S') ∧ (¬ ts.length ≤ 128 → mSame (bX 0) S S')) (some (.int ((poO S x).elim (-1) (fun _ => if ts.length ≤ 128 then nI (101 + ts.length) else -1))))) 0 0 A := by
  refine Met.ofW (cc := cX7_seal) (maxL := 4) (ret := (some .int)) (by decide) rfl ?_
  intro p e s m args below meth c s₁ B hml hv
  obtain ⟨rfl, hG, hH⟩ := hv
  have hx := B.exec
  have hb := B.bytes
  have hr := B.returns
  have hlocks := B.notSynchronized
  have Cx : CallFix p m c cX7_seal 4 s ([.ref (mAdC E 0 0), .int x] : List Value).toArray (Cond.code yX7_seal cX7_seal 4 (some .int) :: mv_ws) RX7 := ⟨hx, hb, hml, findClass_of_methodNamed B.named, atoms_spec (ws := Cond.code yX7_seal cX7_seal 4 (some .int) :: mv_ws) B.pre⟩
  have hS : va_S A s.heap s.heap [] := va_S.rf
  have hlen := hts.2.1
  rw [mLn_0] at hlen
  have hl := lv_entry ([.ref (mAdC E 0 0), .int x]) (n := 4) (Nat.le_of_ble_eq_true rfl)
  rw [lg_entry_eq]
  generalize (lg_sl ([.ref (mAdC E 0 0), .int x]) ++ List.replicate (4 - (lg_sl ([.ref (mAdC E 0 0), .int x])).length) Slot.unset).toArray = ls at hl ⊢
  have hl : lv_has ls 4 [(0, .ref (mAdC E 0 0)), (1, .int x)] := hl
  refine lv_aload_n hx hb dX7_seal_0 rfl (lv_at hl 0 rfl) ?_
  refine lv_iload_n hx hb dX7_seal_1 rfl (lv_at hl 1 rfl) ?_
  obtain ⟨oq, hpo⟩ : ∃ oq, poO S x = oq := ⟨_, rfl⟩
  rcases oq with _ | ⟨kp, ip⟩
  · skip
    refine mv_callV (Y := mLC) (C := RX7) (k := 0) (i := 0) (rest := []) Cx hG hH hS (X7_policyFrom_n l E A hO S x hpo) q_co_X7_policyFrom q_ml_X7_172 q_im_X7_policyFrom q_se_X7_policyFrom q_in_X7 okC_0 rfl rfl hd_X7_policyFrom ⟨Nat.le_of_ble_eq_true rfl, Nat.le_of_ble_eq_true rfl⟩ rfl hl.1 rfl (Nat.le_of_ble_eq_true rfl) ⟨Nat.le_of_ble_eq_true rfl, Nat.le_of_ble_eq_true rfl⟩ dX7_seal_2 (fun S2 H locs hP2 hH hS => ?_)
    refine W.eq (g2 := F0 m 5 ls [.null]) rfl ?_
    have hH := mv_S hP2 hH
    refine lv_astore_nN (lv' := [(2, .null), (0, .ref (mAdC E 0 0)), (1, .int x)]) hx hb dX7_seal_5 rfl hl (by decide) rfl (fun ls hl => ?_)
    refine lv_iconst (v := (-1 : Int32)) hx hb dX7_seal_6 (by decide) ?_
    refine lv_istore_n (lv' := [(3, .int (-1 : Int32)), (2, .null), (0, .ref (mAdC E 0 0)), (1, .int x)]) hx hb dX7_seal_7 rfl hl (by decide) rfl (fun ls hl => ?_)
    refine lv_aload_nN hx hb dX7_seal_8 rfl (lv_at hl 1 rfl) ?_
    refine lv_ifnullN (tgt := 53) hx hb dX7_seal_9 (by decide) ?_
    refine lv_aload_n hx hb dX7_seal_53 rfl (lv_at hl 2 rfl) ?_
    refine g_X7_tape Cx hG hH q_fl_X7_30 dX7_seal_54 ?_
    refine lv_iconst (v := 0) hx hb dX7_seal_57 (by decide) ?_
    refine p_X0_size Cx hG hO hH hS (by decide) q_fl_X7_89 dX7_seal_58 (fun H locs hH hS => ?_)
    refine lv_iload_n hx hb dX7_seal_61 rfl (lv_at hl 0 rfl) ?_
    exact mv_reti Cx hr hH hS (by rw [hpo]; rfl) (⟨bHas.nil, fun _ => mSame.M ⟨Or.inl rfl, rfl⟩, fun k i h => by (rw [hpo] at h; cases h)⟩) dX7_seal_62 hlocks
  · skip
    have hpB := poO_isB hpo
    have hpn := poO_ne hpo
    refine mv_callV (Y := mLC) (C := RX7) (k := 0) (i := 0) (rest := []) Cx hG hH hS (X7_policyFrom_s l E A hO S x kp ip hpo) q_co_X7_policyFrom q_ml_X7_172 q_im_X7_policyFrom q_se_X7_policyFrom q_in_X7 okC_0 rfl rfl hd_X7_policyFrom ⟨Nat.le_of_ble_eq_true rfl, Nat.le_of_ble_eq_true rfl⟩ rfl hl.1 rfl (Nat.le_of_ble_eq_true rfl) ⟨Nat.le_of_ble_eq_true rfl, Nat.le_of_ble_eq_true rfl⟩ dX7_seal_2 (fun S2 H locs hP2 hH hS => ?_)
    refine W.eq (g2 := F0 m 5 ls [.ref (mAdC E kp ip)]) rfl ?_
    have hH := mv_S hP2 hH
    refine lv_astore_n (lv' := [(2, .ref (mAdC E kp ip)), (0, .ref (mAdC E 0 0)), (1, .int x)]) hx hb dX7_seal_5 rfl hl (by decide) rfl (fun ls hl => ?_)
    refine lv_iconst (v := (-1 : Int32)) hx hb dX7_seal_6 (by decide) ?_
    refine lv_istore_n (lv' := [(3, .int (-1 : Int32)), (2, .ref (mAdC E kp ip)), (0, .ref (mAdC E 0 0)), (1, .int x)]) hx hb dX7_seal_7 rfl hl (by decide) rfl (fun ls hl => ?_)
    refine lv_aload_n hx hb dX7_seal_8 rfl (lv_at hl 1 rfl) ?_
    refine lv_ifnull hx hb dX7_seal_9 ?_
    refine lv_aload_n hx hb dX7_seal_12 rfl (lv_at hl 2 rfl) ?_
    refine g_X7_tape Cx hG hH q_fl_X7_30 dX7_seal_13 ?_
    refine g_X0_size Cx hG hH (by decide) q_fl_X7_89 dX7_seal_16 ?_
    refine mv_eqi (x' := nI ts.length) (hts.1) ?_
    refine lv_sipush (v := 128) hx hb dX7_seal_19 (by decide) ?_
    refine mv_eqi (x' := nI 128) (rfl) ?_
    refine lv_icmp_gt (tgt := 53) hx hb dX7_seal_22 (by decide) (fun h22 => ?_) (fun h22 => ?_)
    · skip
      have h128 : ¬ ts.length ≤ 128 := Nat.not_le.mpr ((nI_ltI (by decide) (by omega)).mp h22)
      refine lv_aload_n hx hb dX7_seal_53 rfl (lv_at hl 2 rfl) ?_
      refine g_X7_tape Cx hG hH q_fl_X7_30 dX7_seal_54 ?_
      refine lv_iconst (v := 0) hx hb dX7_seal_57 (by decide) ?_
      refine p_X0_size Cx hG hO hH hS (by decide) q_fl_X7_89 dX7_seal_58 (fun H locs hH hS => ?_)
      refine lv_iload_n hx hb dX7_seal_61 rfl (lv_at hl 0 rfl) ?_
      exact mv_reti Cx hr hH hS (by rw [hpo]; exact (if_neg h128).symm) (⟨bHas.nil, fun h => by (rw [hpo] at h; cases h), fun k i h => ⟨fun q => absurd q h128, fun _ => mSame.M ⟨Or.inl rfl, rfl⟩⟩⟩) dX7_seal_62 hlocks
    · skip
      have h128 : ts.length ≤ 128 := Nat.not_lt.mp (fun q => h22 ((nI_ltI (by decide) (by omega)).mpr q))
      refine lv_aload_n hx hb dX7_seal_25 rfl (lv_at hl 2 rfl) ?_
      refine g_X7_secret Cx hG hH q_fl_X7_21 dX7_seal_26 ?_
      refine lv_aload_n hx hb dX7_seal_29 rfl (lv_at hl 2 rfl) ?_
      refine g_X7_tape Cx hG hH q_fl_X7_30 dX7_seal_30 ?_
      refine lv_aload_n hx hb dX7_seal_33 rfl (lv_at hl 2 rfl) ?_
      refine g_X7_theKey Cx hG hH q_fl_X7_37 dX7_seal_34 ?_
      refine lv_aload_n hx hb dX7_seal_37 rfl (lv_at hl 1 rfl) ?_
      refine lv_aload_n hx hb dX7_seal_38 rfl (lv_at hl 2 rfl) ?_
      refine g_X7_out Cx hG hH q_fl_X7_34 dX7_seal_39 ?_
      refine mv_callV (Y := mLC) (C := RX3) (k := 7) (i := 0) (rest := []) Cx hG hH hS (c_X3_wrap l E A hO S kp ip hpB (by rcases hpn with h | h <;> rw [h] <;> simp [scX, hsX, bX]) ts hts h128) q_co_X3_wrap q_ml_X7_176 q_im_X3_wrap q_se_X3_wrap q_in_X3 okC_7 rfl rfl hd_X3_wrap ⟨Nat.le_of_ble_eq_true rfl, Nat.le_of_ble_eq_true rfl⟩ rfl hl.1 rfl (Nat.le_of_ble_eq_true rfl) ⟨Nat.le_of_ble_eq_true rfl, Nat.le_of_ble_eq_true rfl⟩ dX7_seal_42 (fun S42 H locs hP42 hH hS => ?_)
      refine W.eq (g2 := F0 m 45 ls []) rfl ?_
      refine lv_aload_n hx hb dX7_seal_45 rfl (lv_at hl 2 rfl) ?_
      refine g_X7_out Cx hG hH q_fl_X7_34 dX7_seal_46 ?_
      refine g_X0_size Cx hG hH (by decide) q_fl_X7_89 dX7_seal_49 ?_
      refine mv_eqi (x' := nI (101 + ts.length)) (by have h := hP42.1.1; rw [blobL_len] at h; exact h) ?_
      refine lv_istore_n (lv' := [(3, .int (nI (101 + ts.length))), (2, .ref (mAdC E kp ip)), (0, .ref (mAdC E 0 0)), (1, .int x)]) hx hb dX7_seal_52 rfl hl (by decide) rfl (fun ls hl => ?_)
      refine lv_aload_n hx hb dX7_seal_53 rfl (lv_at hl 2 rfl) ?_
      refine g_X7_tape Cx hG hH q_fl_X7_30 dX7_seal_54 ?_
      refine lv_iconst (v := 0) hx hb dX7_seal_57 (by decide) ?_
      refine p_X0_size Cx hG hO hH hS (by decide) q_fl_X7_89 dX7_seal_58 (fun H locs hH hS => ?_)
      refine lv_iload_n hx hb dX7_seal_61 rfl (lv_at hl 0 rfl) ?_
      exact mv_reti Cx hr hH hS (by rw [hpo]; exact (if_pos h128).symm) (⟨bHas.nil, fun h => by (rw [hpo] at h; cases h), fun k i h => by (rw [hpo] at h; cases h; exact ⟨fun _ => ⟨hP42.1.keep (X := bX 0) (mSame.M ⟨Or.inl rfl, rfl⟩) (by simp [bX]) (by simp [bX]), by simpa [mM, m3] using hP42.2.1, (hP42.2.2.wk (fun _ _ h => h.elim Or.inl (fun z => z.elim (fun y => Or.inr (Or.inr (Or.inl y))) (fun y => Or.inr (Or.inr (Or.inr y)))))).tr (mSame.M (Or.inr (Or.inl ⟨Or.inl rfl, rfl⟩)))⟩, fun q => absurd h128 q⟩)⟩) dX7_seal_62 hlocks

set_option maxHeartbeats 4000000 in
set_option maxRecDepth 100000 in
theorem c_X7_load (l : Launch) (E : mEv) (A : Nat → Prop) (hO : mOwn mLC E A) (S : mSt) (ts : List Int8) (hts : bHas S 0 ts) : Met l yX7_load (Cond.code yX7_load cX7_load 2 (some .int) :: mv_ws) (mRm 6 138) (mPc mLC E A S [.ref (mAdC E 0 0)]) (mQ mLC E A (fun S' => bHas S' 0 [] ∧ (¬ uwB (S.2.1 8 0) ts = true → mSame (fun k i => scX k i ∨ bX 0 k i) S S') ∧ (uwB (S.2.1 8 0) ts = true → (ffO S = none → mSame (fun k i => scX k i ∨ bX 0 k i) S S') ∧ ∀ i, ffO S = some i → S'.1 22 i 3 = 1 ∧ (∀ q, q < 32 → S'.2.1 24 i q = uwF (S.2.1 8 0) ts (4 + q)) ∧ (∀ q, q < 32 → S'.2.1 23 i q = uwF (S.2.1 8 0) ts (36 + q)) ∧ bHas S' (3 + i) (mTk (fun q => uwF (S.2.1 8 0) ts (69 + q)) (ts.length - 101)) ∧ mSame (fun k i' => scX k i' ∨ bX 0 k i' ∨ obX i k i') S S')) (some (.int (if uwB (S.2.1 8 0) ts = true then (ffO S).elim (-3) nI else -6)))) 0 0 A := by
  refine Met.ofW (cc := cX7_load) (maxL := 2) (ret := (some .int)) (by decide) rfl ?_
  intro p e s m args below meth c s₁ B hml hv
  obtain ⟨rfl, hG, hH⟩ := hv
  have hx := B.exec
  have hb := B.bytes
  have hr := B.returns
  have hlocks := B.notSynchronized
  have Cx : CallFix p m c cX7_load 2 s ([.ref (mAdC E 0 0)] : List Value).toArray (Cond.code yX7_load cX7_load 2 (some .int) :: mv_ws) RX7 := ⟨hx, hb, hml, findClass_of_methodNamed B.named, atoms_spec (ws := Cond.code yX7_load cX7_load 2 (some .int) :: mv_ws) B.pre⟩
  have hS : va_S A s.heap s.heap [] := va_S.rf
  have hlen := hts.2.1
  rw [mLn_0] at hlen
  have hl := lv_entry ([.ref (mAdC E 0 0)]) (n := 2) (Nat.le_of_ble_eq_true rfl)
  rw [lg_entry_eq]
  generalize (lg_sl ([.ref (mAdC E 0 0)]) ++ List.replicate (2 - (lg_sl ([.ref (mAdC E 0 0)])).length) Slot.unset).toArray = ls at hl ⊢
  have hl : lv_has ls 2 [(0, .ref (mAdC E 0 0))] := hl
  refine lv_bipush (v := (-6 : Int32)) hx hb dX7_load_0 (by decide) ?_
  refine lv_istore_n (lv' := [(1, .int (-6 : Int32)), (0, .ref (mAdC E 0 0))]) hx hb dX7_load_2 rfl hl (by decide) rfl (fun ls hl => ?_)
  refine lv_aload_n hx hb dX7_load_3 rfl (lv_at hl 1 rfl) ?_
  refine g_X7_secret Cx hG hH q_fl_X7_21 dX7_load_4 ?_
  refine lv_aload_n hx hb dX7_load_7 rfl (lv_at hl 1 rfl) ?_
  refine g_X7_tape Cx hG hH q_fl_X7_30 dX7_load_8 ?_
  refine mv_callV (Y := mLC) (C := RX3) (k := 7) (i := 0) (rest := []) Cx hG hH hS (c_X3_unwrap l E A hO S ts hts) q_co_X3_unwrap q_ml_X7_180 q_im_X3_unwrap q_se_X3_unwrap q_in_X3 okC_7 rfl rfl hd_X3_unwrap ⟨Nat.le_of_ble_eq_true rfl, Nat.le_of_ble_eq_true rfl⟩ rfl hl.1 rfl (Nat.le_of_ble_eq_true rfl) ⟨Nat.le_of_ble_eq_true rfl, Nat.le_of_ble_eq_true rfl⟩ dX7_load_11 (fun S11 H locs hP11 hH hS => ?_)
  refine W.eq (g2 := F0 m 14 ls [.int (if uwB (S.2.1 8 0) ts = true then 1 else 0)]) rfl ?_
  refine lv_if_eq (tgt := 22) hx hb dX7_load_14 (by decide) (fun h14 => ?_) (fun h14 => ?_)
  · skip
    have hB := b0_of h14
    refine lv_aload_n hx hb dX7_load_22 rfl (lv_at hl 1 rfl) ?_
    refine g_X7_tape Cx hG hH q_fl_X7_30 dX7_load_23 ?_
    refine lv_iconst (v := 0) hx hb dX7_load_26 (by decide) ?_
    refine p_X0_size Cx hG hO hH hS (by decide) q_fl_X7_89 dX7_load_27 (fun H locs hH hS => ?_)
    refine lv_iload_n hx hb dX7_load_30 rfl (lv_at hl 0 rfl) ?_
    exact mv_reti Cx hr hH hS ((if_neg hB).symm) (⟨bHas.nil, fun _ => hP11.1.tr (mSame.M (Or.inr ⟨Or.inl rfl, rfl⟩)), fun q => absurd q hB⟩) dX7_load_31 hlocks
  · skip
    have hB := b1_of h14
    have hff : ffO S11 = ffO S := ffO_congr (fun q _ => (hP11.1 22 q (by simp [scX, hsX, bX])).1 3)
    refine lv_aload_n hx hb dX7_load_17 rfl (lv_at hl 1 rfl) ?_
    refine mv_callV (Y := mLC) (C := RX7) (k := 0) (i := 0) (rest := []) Cx hG hH hS (c_X7_keepUnwrapped l E A hO S11 (mTk (uwF (S.2.1 8 0) ts) ts.length) (hP11.2 hB) (by rw [mTk_len]; exact (uwB_iff.mp hB).1) (by rw [mTk_len]; exact (uwB_iff.mp hB).2.1)) q_co_X7_keepUnwrapped q_ml_X7_184 q_im_X7_keepUnwrapped q_se_X7_keepUnwrapped q_in_X7 okC_0 rfl rfl hd_X7_keepUnwrapped ⟨Nat.le_of_ble_eq_true rfl, Nat.le_of_ble_eq_true rfl⟩ rfl hl.1 rfl (Nat.le_of_ble_eq_true rfl) ⟨Nat.le_of_ble_eq_true rfl, Nat.le_of_ble_eq_true rfl⟩ dX7_load_18 (fun S18 H locs hP18 hH hS => ?_)
    refine W.eq (g2 := F0 m 21 ls [.int ((ffO S11).elim (-3) nI)]) rfl ?_
    refine mv_eqi (x' := (ffO S).elim (-3) nI) (by rw [hff]) ?_
    refine lv_istore_n (lv' := [(1, .int ((ffO S).elim (-3) nI)), (0, .ref (mAdC E 0 0))]) hx hb dX7_load_21 rfl hl (by decide) rfl (fun ls hl => ?_)
    refine lv_aload_n hx hb dX7_load_22 rfl (lv_at hl 1 rfl) ?_
    refine g_X7_tape Cx hG hH q_fl_X7_30 dX7_load_23 ?_
    refine lv_iconst (v := 0) hx hb dX7_load_26 (by decide) ?_
    refine p_X0_size Cx hG hO hH hS (by decide) q_fl_X7_89 dX7_load_27 (fun H locs hH hS => ?_)
    refine lv_iload_n hx hb dX7_load_30 rfl (lv_at hl 0 rfl) ?_
    exact mv_reti Cx hr hH hS ((if_pos hB).symm) (⟨bHas.nil, fun q => absurd hB q, fun _ => ⟨fun h => (by rw [hP18.1 (hff.trans h)]; exact hP11.1.tr (mSame.M (Or.inr ⟨Or.inl rfl, rfl⟩))), fun i h => by
              obtain ⟨e1, e2, e3, e4, e5⟩ := hP18.2 i (hff.trans h)
              have hl2 := uwB_iff.mp hB
              refine ⟨by simpa [mM, m3] using e1, fun q hq => (e2 q hq).trans (mTk_get _ (by have := hl2.1; omega)), fun q hq => (e3 q hq).trans (mTk_get _ (by have := hl2.1; omega)), ?_, ((hP11.1.wk (fun _ _ h => h.elim Or.inl (fun z => Or.inr (Or.inl z)))).tr (e5.wk (fun _ _ h => Or.inr (Or.inr h)))).tr (mSame.M (Or.inr (Or.inl ⟨Or.inl rfl, rfl⟩)))⟩
              rw [mTk_len] at e4
              rw [mTk_congr (g := fun q => uwF (S.2.1 8 0) ts (69 + q)) (fun q hq => mTk_get _ (by have := hl2.1; omega))] at e4
              exact e4.keep (X := bX 0) (mSame.M ⟨Or.inl rfl, rfl⟩) (by simp [bX]) (by simp [bX])⟩⟩) dX7_load_31 hlocks

set_option maxHeartbeats 4000000 in
set_option maxRecDepth 100000 in
theorem c_X7_unseal (l : Launch) (E : mEv) (A : Nat → Prop) (hO : mOwn mLC E A) (S : mSt) (x y : Int32) (hdo : ∀ i, obO S x = some i → ∃ ds, bHas S (3 + i) ds) : Met l yX7_unseal (Cond.code yX7_unseal cX7_unseal 5 (some .int) :: mv_ws) (mRm 4 90) (mPc mLC E A S [.ref (mAdC E 0 0), .int x, .int y]) (mQ mLC E A (fun S' => (obO S x = none → S' = S) ∧ ∀ i, obO S x = some i → ((askP S i y 1).1 = 0 → (∀ ds, bHas S (3 + i) ds → bHas S' 1 ds) ∧ mSame (bX 1) (askP S i y 1).2 S') ∧ (¬ (askP S i y 1).1 = 0 → S' = (askP S i y 1).2)) (some (.int ((obO S x).elim (-2) (fun i => if (askP S i y 1).1 = 0 then S.1 2 (3 + i) 1 else (askP S i y 1).1))))) 0 0 A := by
  refine Met.ofW (cc := cX7_unseal) (maxL := 5) (ret := (some .int)) (by decide) rfl ?_
  intro p e s m args below meth c s₁ B hml hv
  obtain ⟨rfl, hG, hH⟩ := hv
  have hx := B.exec
  have hb := B.bytes
  have hr := B.returns
  have hlocks := B.notSynchronized
  have Cx : CallFix p m c cX7_unseal 5 s ([.ref (mAdC E 0 0), .int x, .int y] : List Value).toArray (Cond.code yX7_unseal cX7_unseal 5 (some .int) :: mv_ws) RX7 := ⟨hx, hb, hml, findClass_of_methodNamed B.named, atoms_spec (ws := Cond.code yX7_unseal cX7_unseal 5 (some .int) :: mv_ws) B.pre⟩
  have hS : va_S A s.heap s.heap [] := va_S.rf
  have hl := lv_entry ([.ref (mAdC E 0 0), .int x, .int y]) (n := 5) (Nat.le_of_ble_eq_true rfl)
  rw [lg_entry_eq]
  generalize (lg_sl ([.ref (mAdC E 0 0), .int x, .int y]) ++ List.replicate (5 - (lg_sl ([.ref (mAdC E 0 0), .int x, .int y])).length) Slot.unset).toArray = ls at hl ⊢
  have hl : lv_has ls 5 [(0, .ref (mAdC E 0 0)), (1, .int x), (2, .int y)] := hl
  refine lv_aload_n hx hb dX7_unseal_0 rfl (lv_at hl 0 rfl) ?_
  refine lv_iload_n hx hb dX7_unseal_1 rfl (lv_at hl 1 rfl) ?_
  obtain ⟨oq, hob⟩ : ∃ oq, obO S x = oq := ⟨_, rfl⟩
  rcases oq with _ | i
  · skip
    refine mv_callV (Y := mLC) (C := RX7) (k := 0) (i := 0) (rest := []) Cx hG hH hS (X7_objectAt_n l E A hO S x hob) q_co_X7_objectAt q_ml_X7_188 q_im_X7_objectAt q_se_X7_objectAt q_in_X7 okC_0 rfl rfl hd_X7_objectAt ⟨Nat.le_of_ble_eq_true rfl, Nat.le_of_ble_eq_true rfl⟩ rfl hl.1 rfl (Nat.le_of_ble_eq_true rfl) ⟨Nat.le_of_ble_eq_true rfl, Nat.le_of_ble_eq_true rfl⟩ dX7_unseal_2 (fun S2 H locs hP2 hH hS => ?_)
    refine W.eq (g2 := F0 m 5 ls [.null]) rfl ?_
    have hH := mv_S hP2 hH
    refine lv_astore_nN (lv' := [(3, .null), (0, .ref (mAdC E 0 0)), (1, .int x), (2, .int y)]) hx hb dX7_unseal_5 rfl hl (by decide) rfl (fun ls hl => ?_)
    refine lv_aload_nN hx hb dX7_unseal_6 rfl (lv_at hl 0 rfl) ?_
    refine lv_ifnonnullN hx hb dX7_unseal_7 ?_
    refine lv_bipush (v := (-2 : Int32)) hx hb dX7_unseal_10 (by decide) ?_
    exact mv_reti Cx hr hH hS (by rw [hob]; rfl) (⟨fun _ => rfl, fun i h => by (rw [hob] at h; cases h)⟩) dX7_unseal_12 hlocks
  · skip
    obtain ⟨hxi, hi, hop⟩ := obO_some hob
    obtain ⟨ds, hds⟩ := hdo i hob
    have hdl := hds.2.1
    rw [mLn_o hi] at hdl
    refine mv_callV (Y := mLC) (C := RX7) (k := 0) (i := 0) (rest := []) Cx hG hH hS (X7_objectAt_s l E A hO S x i hob) q_co_X7_objectAt q_ml_X7_188 q_im_X7_objectAt q_se_X7_objectAt q_in_X7 okC_0 rfl rfl hd_X7_objectAt ⟨Nat.le_of_ble_eq_true rfl, Nat.le_of_ble_eq_true rfl⟩ rfl hl.1 rfl (Nat.le_of_ble_eq_true rfl) ⟨Nat.le_of_ble_eq_true rfl, Nat.le_of_ble_eq_true rfl⟩ dX7_unseal_2 (fun S2 H locs hP2 hH hS => ?_)
    refine W.eq (g2 := F0 m 5 ls [.ref (mAdC E 22 i)]) rfl ?_
    have hH := mv_S hP2 hH
    refine lv_astore_n (lv' := [(3, .ref (mAdC E 22 i)), (0, .ref (mAdC E 0 0)), (1, .int x), (2, .int y)]) hx hb dX7_unseal_5 rfl hl (by decide) rfl (fun ls hl => ?_)
    refine lv_aload_n hx hb dX7_unseal_6 rfl (lv_at hl 0 rfl) ?_
    refine lv_ifnonnull (tgt := 13) hx hb dX7_unseal_7 (by decide) ?_
    refine lv_aload_n hx hb dX7_unseal_13 rfl (lv_at hl 1 rfl) ?_
    refine lv_aload_n hx hb dX7_unseal_14 rfl (lv_at hl 0 rfl) ?_
    refine lv_iload_n hx hb dX7_unseal_15 rfl (lv_at hl 3 rfl) ?_
    refine lv_iconst (v := 1) hx hb dX7_unseal_16 (by decide) ?_
    refine mv_callV (Y := mLC) (C := RX7) (k := 0) (i := 0) (rest := []) Cx hG hH hS (c_X7_ask l E A hO S i (by omega) y 1) q_co_X7_ask q_ml_X7_192 q_im_X7_ask q_se_X7_ask q_in_X7 okC_0 rfl rfl hd_X7_ask ⟨Nat.le_of_ble_eq_true rfl, Nat.le_of_ble_eq_true rfl⟩ rfl hl.1 rfl (Nat.le_of_ble_eq_true rfl) ⟨Nat.le_of_ble_eq_true rfl, Nat.le_of_ble_eq_true rfl⟩ dX7_unseal_17 (fun S17 H locs hP17 hH hS => ?_)
    refine W.eq (g2 := F0 m 20 ls [.int ((askP S i y 1).1)]) rfl ?_
    refine lv_istore (lv' := [(4, .int ((askP S i y 1).1)), (3, .ref (mAdC E 22 i)), (0, .ref (mAdC E 0 0)), (1, .int x), (2, .int y)]) hx hb dX7_unseal_20 hl (by decide) rfl (fun ls hl => ?_)
    refine lv_iload hx hb dX7_unseal_22 (lv_at hl 0 rfl) ?_
    refine lv_if_eq (tgt := 30) hx hb dX7_unseal_24 (by decide) (fun h24 => ?_) (fun h24 => ?_)
    · skip
      have hds17 : bHas S17 (3 + i) ds := by rw [hP17]; exact hds.keep (askP_same S i y 1) (by decide) (by decide)
      refine lv_aload_n hx hb dX7_unseal_30 rfl (lv_at hl 2 rfl) ?_
      refine lv_aload_n hx hb dX7_unseal_31 rfl (lv_at hl 1 rfl) ?_
      refine g_X5_data Cx hG hH (Nat.lt_of_lt_of_le hi (by decide)) q_fl_X7_196 dX7_unseal_32 ?_
      refine g_X0_held Cx hG hH (by have := hi; omega) q_fl_X7_93 dX7_unseal_35 ?_
      refine lv_aload_n hx hb dX7_unseal_38 rfl (lv_at hl 1 rfl) ?_
      refine g_X5_data Cx hG hH (Nat.lt_of_lt_of_le hi (by decide)) q_fl_X7_196 dX7_unseal_39 ?_
      refine g_X0_size Cx hG hH (by have := hi; omega) q_fl_X7_89 dX7_unseal_42 ?_
      refine mv_eqi (x' := nI ds.length) (hds17.1) ?_
      refine mv_callV (Y := mLC) (C := RX7) (k := 0) (i := 0) (rest := []) Cx hG hH hS (c_X7_tell l E A hO S17 3 (3 + i) (mLn (3 + i)) ds.length (isC_3 (by omega)) hds.2.1 (by omega)) q_co_X7_tell q_ml_X7_103 q_im_X7_tell q_se_X7_tell q_in_X7 okC_0 rfl rfl hd_X7_tell ⟨Nat.le_of_ble_eq_true rfl, Nat.le_of_ble_eq_true rfl⟩ rfl hl.1 rfl (Nat.le_of_ble_eq_true rfl) ⟨Nat.le_of_ble_eq_true rfl, Nat.le_of_ble_eq_true rfl⟩ dX7_unseal_45 (fun S45 H locs hP45 hH hS => ?_)
      refine W.eq (g2 := F0 m 48 ls [.int (nI ds.length)]) rfl ?_
      exact mv_reti Cx hr hH hS (by rw [hob]; show _ = (if (askP S i y 1).1 = 0 then S.1 2 (3 + i) 1 else (askP S i y 1).1); rw [if_pos h24, hds.1]) (⟨fun h => by (rw [hob] at h; cases h), fun j h => by (rw [hob] at h; cases h; exact ⟨fun _ => ⟨fun es hes => by (have e : es = ds := by (rw [← mTk_has hes, ← mTk_has hds]; congr 1; have a := hes.1; rw [hds.1] at a; exact ((nI_eq (by omega) (by have := hes.2.1; rw [mLn_o hi] at this; omega)).mp a).symm)); subst e; have h := hP45.1; rw [mTk_has hds17] at h; exact h, by rw [← hP17]; exact hP45.2⟩, fun q => absurd h24 q⟩)⟩) dX7_unseal_48 hlocks
    · skip
      refine lv_iload hx hb dX7_unseal_27 (lv_at hl 0 rfl) ?_
      exact mv_reti Cx hr hH hS (by rw [hob]; exact (if_neg h24).symm) (⟨fun h => by (rw [hob] at h; cases h), fun j h => by (rw [hob] at h; cases h; exact ⟨fun q => absurd q h24, fun _ => hP17⟩)⟩) dX7_unseal_29 hlocks

set_option maxHeartbeats 4000000 in
set_option maxRecDepth 100000 in
theorem c_X7_flush (l : Launch) (E : mEv) (A : Nat → Prop) (hO : mOwn mLC E A) (S : mSt) (x : Int32) : Met l yX7_flush (Cond.code yX7_flush cX7_flush 3 (some .int) :: mv_ws) (mRm 1 21) (mPc mLC E A S [.ref (mAdC E 0 0), .int x]) (mQ mLC E A (fun S' => S' = (obO S x).elim S (fun i => mM S 22 i 3 0)) (some (.int ((obO S x).elim (-2) (fun _ => 0))))) 0 0 A := by
  refine Met.ofW (cc := cX7_flush) (maxL := 3) (ret := (some .int)) (by decide) rfl ?_
  intro p e s m args below meth c s₁ B hml hv
  obtain ⟨rfl, hG, hH⟩ := hv
  have hx := B.exec
  have hb := B.bytes
  have hr := B.returns
  have hlocks := B.notSynchronized
  have Cx : CallFix p m c cX7_flush 3 s ([.ref (mAdC E 0 0), .int x] : List Value).toArray (Cond.code yX7_flush cX7_flush 3 (some .int) :: mv_ws) RX7 := ⟨hx, hb, hml, findClass_of_methodNamed B.named, atoms_spec (ws := Cond.code yX7_flush cX7_flush 3 (some .int) :: mv_ws) B.pre⟩
  have hS : va_S A s.heap s.heap [] := va_S.rf
  have hl := lv_entry ([.ref (mAdC E 0 0), .int x]) (n := 3) (Nat.le_of_ble_eq_true rfl)
  rw [lg_entry_eq]
  generalize (lg_sl ([.ref (mAdC E 0 0), .int x]) ++ List.replicate (3 - (lg_sl ([.ref (mAdC E 0 0), .int x])).length) Slot.unset).toArray = ls at hl ⊢
  have hl : lv_has ls 3 [(0, .ref (mAdC E 0 0)), (1, .int x)] := hl
  refine lv_aload_n hx hb dX7_flush_0 rfl (lv_at hl 0 rfl) ?_
  refine lv_iload_n hx hb dX7_flush_1 rfl (lv_at hl 1 rfl) ?_
  obtain ⟨oq, hob⟩ : ∃ oq, obO S x = oq := ⟨_, rfl⟩
  rcases oq with _ | i
  · skip
    refine mv_callV (Y := mLC) (C := RX7) (k := 0) (i := 0) (rest := []) Cx hG hH hS (X7_objectAt_n l E A hO S x hob) q_co_X7_objectAt q_ml_X7_188 q_im_X7_objectAt q_se_X7_objectAt q_in_X7 okC_0 rfl rfl hd_X7_objectAt ⟨Nat.le_of_ble_eq_true rfl, Nat.le_of_ble_eq_true rfl⟩ rfl hl.1 rfl (Nat.le_of_ble_eq_true rfl) ⟨Nat.le_of_ble_eq_true rfl, Nat.le_of_ble_eq_true rfl⟩ dX7_flush_2 (fun S2 H locs hP2 hH hS => ?_)
    refine W.eq (g2 := F0 m 5 ls [.null]) rfl ?_
    have hH := mv_S hP2 hH
    refine lv_astore_nN (lv' := [(2, .null), (0, .ref (mAdC E 0 0)), (1, .int x)]) hx hb dX7_flush_5 rfl hl (by decide) rfl (fun ls hl => ?_)
    refine lv_aload_nN hx hb dX7_flush_6 rfl (lv_at hl 0 rfl) ?_
    refine lv_ifnonnullN hx hb dX7_flush_7 ?_
    refine lv_bipush (v := (-2 : Int32)) hx hb dX7_flush_10 (by decide) ?_
    exact mv_reti Cx hr hH hS (by rw [hob]; rfl) (by rw [hob]; rfl) dX7_flush_12 hlocks
  · skip
    obtain ⟨hxi, hi, hop⟩ := obO_some hob
    refine mv_callV (Y := mLC) (C := RX7) (k := 0) (i := 0) (rest := []) Cx hG hH hS (X7_objectAt_s l E A hO S x i hob) q_co_X7_objectAt q_ml_X7_188 q_im_X7_objectAt q_se_X7_objectAt q_in_X7 okC_0 rfl rfl hd_X7_objectAt ⟨Nat.le_of_ble_eq_true rfl, Nat.le_of_ble_eq_true rfl⟩ rfl hl.1 rfl (Nat.le_of_ble_eq_true rfl) ⟨Nat.le_of_ble_eq_true rfl, Nat.le_of_ble_eq_true rfl⟩ dX7_flush_2 (fun S2 H locs hP2 hH hS => ?_)
    refine W.eq (g2 := F0 m 5 ls [.ref (mAdC E 22 i)]) rfl ?_
    have hH := mv_S hP2 hH
    refine lv_astore_n (lv' := [(2, .ref (mAdC E 22 i)), (0, .ref (mAdC E 0 0)), (1, .int x)]) hx hb dX7_flush_5 rfl hl (by decide) rfl (fun ls hl => ?_)
    refine lv_aload_n hx hb dX7_flush_6 rfl (lv_at hl 0 rfl) ?_
    refine lv_ifnonnull (tgt := 13) hx hb dX7_flush_7 (by decide) ?_
    refine lv_aload_n hx hb dX7_flush_13 rfl (lv_at hl 0 rfl) ?_
    refine lv_iconst (v := 0) hx hb dX7_flush_14 (by decide) ?_
    refine p_X5_present Cx hG hO hH hS (Nat.lt_of_lt_of_le hi (by decide)) (by decide) q_fl_X7_199 dX7_flush_15 (fun H locs hH hS => ?_)
    refine lv_iconst (v := 0) hx hb dX7_flush_18 (by decide) ?_
    exact mv_reti Cx hr hH hS (by rw [hob]; rfl) (by rw [hob]; rfl) dX7_flush_19 hlocks
