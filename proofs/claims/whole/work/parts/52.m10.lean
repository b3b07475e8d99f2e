/-! ===== the reference: blobs ===== -/
def ldX (i : Nat) : Nat → Nat → Prop := fun k j => scM k j ∨ k = 1 ∨ (k = 30 ∧ j = i) ∨ ((k = 31 ∨ k = 32) ∧ 32 * i ≤ j ∧ j < 32 * i + 32) ∨ (k = 34 ∧ j = i) ∨ (k = 33 ∧ 128 * i ≤ j ∧ j < 128 * i + 128)
set_option maxHeartbeats 4000000 in
set_option maxRecDepth 100000 in
theorem c_X8_seal (l : Launch) (E : mEv) (A : Nat → Prop) (hO : mOwn mLM E A) (S : mSt) (x : Int32) (ts : List Int8) (hts : nHas 1 400 S ts) : Met l yX8_seal (Cond.code yX8_seal cX8_seal 4 (some .int) :: mv_ws) (mRm 5 139) (mPc mLM E A S [.ref (mAdM E 0 0), .int x]) (mQ mLM E A (fun S' => ((mpOk (mM S 0 0 1 0) x ∧ ts.length ≤ 128) → nHas 3 512 S' (blobL (S.2.1 13 0) (S.1 0 0 19) (mpF S x) (S.2.1 14 0) ts) ∧ S'.1 0 0 19 = S.1 0 0 19 + 1 ∧ nSame (fun k j => scM k j ∨ nX 3 k j ∨ (k = 0 ∧ j = 19)) (mM S 0 0 1 0) S') ∧ (¬ (mpOk (mM S 0 0 1 0) x ∧ ts.length ≤ 128) → S' = (mM S 0 0 1 0))) (some (.int (if (mpOk (mM S 0 0 1 0) x ∧ ts.length ≤ 128) then nI (101 + ts.length) else -1)))) 0 0 A := by
  refine Met.ofW (cc := cX8_seal) (maxL := 4) (ret := (some .int)) (by decide) rfl ?_
  intro p e s m args below meth c s₁ B hml hv
  obtain ⟨rfl, hG, hH⟩ := hv
  have hx := B.exec
  have hb := B.bytes
  have hr := B.returns
  have hlocks := B.notSynchronized
  have Cx : CallFix p m c cX8_seal 4 s ([.ref (mAdM E 0 0), .int x] : List Value).toArray (Cond.code yX8_seal cX8_seal 4 (some .int) :: mv_ws) RX8 := ⟨hx, hb, hml, findClass_of_methodNamed B.named, atoms_spec (ws := Cond.code yX8_seal cX8_seal 4 (some .int) :: mv_ws) B.pre⟩
  have hS : va_S A s.heap s.heap [] := va_S.rf
  have hlen := hts.2.1
  have hl := lv_entry ([.ref (mAdM E 0 0), .int x]) (n := 4) (Nat.le_of_ble_eq_true rfl)
  rw [lg_entry_eq]
  generalize (lg_sl ([.ref (mAdM E 0 0), .int x]) ++ List.replicate (4 - (lg_sl ([.ref (mAdM E 0 0), .int x])).length) Slot.unset).toArray = ls at hl ⊢
  have hl : lv_has ls 4 [(0, .ref (mAdM E 0 0)), (1, .int x)] := hl
  refine lv_aload_n hx hb dX8_seal_0 rfl (lv_at hl 0 rfl) ?_
  refine g_X8_tapeLength Cx hG hH q_fl_X8_137 dX8_seal_1 ?_
  refine mv_eqi (x' := nI ts.length) (hts.1) ?_
  refine lv_istore_n (lv' := [(2, .int (nI ts.length)), (0, .ref (mAdM E 0 0)), (1, .int x)]) hx hb dX8_seal_4 rfl hl (by decide) rfl (fun ls hl => ?_)
  refine lv_aload_n hx hb dX8_seal_5 rfl (lv_at hl 1 rfl) ?_
  refine lv_iconst (v := 0) hx hb dX8_seal_6 (by decide) ?_
  refine p_X8_tapeLength Cx hG hO hH hS q_fl_X8_137 dX8_seal_7 (fun H locs hH hS => ?_)
  refine lv_iload_n hx hb dX8_seal_10 rfl (lv_at hl 2 rfl) ?_
  refine lv_iconst (v := (-1 : Int32)) hx hb dX8_seal_11 (by decide) ?_
  refine lv_icmp_eq (tgt := 23) hx hb dX8_seal_12 (by decide) (fun h12 => ?_) (fun h12 => ?_)
  · skip
    refine lv_iload_n hx hb dX8_seal_23 rfl (lv_at hl 0 rfl) ?_
    refine lv_sipush (v := 128) hx hb dX8_seal_24 (by decide) ?_
    refine lv_icmp_le (tgt := 32) hx hb dX8_seal_27 (by decide) (fun h27 => ?_) (fun h27 => ?_)
    · skip
      have h128 : ts.length ≤ 128 := (nI_leI (b := 128) (by omega) (by decide)).mp h27
      have hok : (mpOk (mM S 0 0 1 0) x ∧ ts.length ≤ 128) := ⟨Or.inl h12, h128⟩
      refine lv_aload_n hx hb dX8_seal_32 rfl (lv_at hl 1 rfl) ?_
      refine lv_iconst (v := 0) hx hb dX8_seal_33 (by decide) ?_
      refine p_X8_outCount Cx hG hO hH hS q_fl_X8_143 dX8_seal_34 (fun H locs hH hS => ?_)
      refine lv_aload_n hx hb dX8_seal_37 rfl (lv_at hl 1 rfl) ?_
      refine lv_aload_n hx hb dX8_seal_38 rfl (lv_at hl 1 rfl) ?_
      refine g_X8_blobs Cx hG hH q_fl_X8_203 dX8_seal_39 ?_
      refine mv_eqi (x' := S.1 0 0 19) (by simp [mM, m3]) ?_
      refine mv_callV (Y := mLM) (C := RX8) (k := 0) (i := 0) (rest := []) Cx hG hH hS (c_X8_tellWord l E A hO (mM (mM S 0 0 1 0) 0 0 3 0) [] nHas.nil (S.1 0 0 19) (by simp)) q_co_X8_tellWord q_ml_X8_166 q_im_X8_tellWord q_se_X8_tellWord q_in_X8 okM_0 rfl rfl hd_X8_tellWord ⟨Nat.le_of_ble_eq_true rfl, Nat.le_of_ble_eq_true rfl⟩ rfl hl.1 rfl (Nat.le_of_ble_eq_true rfl) ⟨Nat.le_of_ble_eq_true rfl, Nat.le_of_ble_eq_true rfl⟩ dX8_seal_42 (fun S42 H locs hP42 hH hS => ?_)
      refine W.eq (g2 := F0 m 45 ls []) rfl ?_
      have hs42 : nSame (fun k j => scM k j ∨ nX 3 k j) (mM S 0 0 1 0) S42 := (nSame.M (by simp [scM, nX, hX, seM])).tr (hP42.2.wk (fun k j h => by simp only [scM, nX, hX, seM] at h ⊢; omega))
      refine lv_iconst (v := 0) hx hb dX8_seal_45 (by decide) ?_
      refine mv_eqi (x' := nI 0) (rfl) ?_
      refine lv_istore_n (lv' := [(3, .int (nI 0)), (2, .int (nI ts.length)), (0, .ref (mAdM E 0 0)), (1, .int x)]) hx hb dX8_seal_46 rfl hl (by decide) rfl (fun ls hl => ?_)
      have lp : ∀ (fu j : Nat) (S1 : mSt) (H : Heap) (locs : List Loc) (ls : Array Slot) , 32 - j < fu → j ≤ 32 → (nHas 3 512 S1 (w4 (S.1 0 0 19) ++ mTk (mpF S x) j) ∧ nSame (fun k j => scM k j ∨ nX 3 k j) (mM S 0 0 1 0) S1) → mHold mLM E S1 H → va_S A s.heap H locs → lv_has ls 4 [(0, .ref (mAdM E 0 0)), (1, .int x), (2, .int (nI ts.length)), (3, .int (nI j))] → W p l e (headSpec (Cond.code yX8_seal cX8_seal 4 (some .int) :: mv_ws) (mRm 5 139)).room s m ([.ref (mAdM E 0 0), .int x] : List Value).toArray below meth c H locs 0 0 (MQ below (mQ mLM E A (fun S' => ((mpOk (mM S 0 0 1 0) x ∧ ts.length ≤ 128) → nHas 3 512 S' (blobL (S.2.1 13 0) (S.1 0 0 19) (mpF S x) (S.2.1 14 0) ts) ∧ S'.1 0 0 19 = S.1 0 0 19 + 1 ∧ nSame (fun k j => scM k j ∨ nX 3 k j ∨ (k = 0 ∧ j = 19)) (mM S 0 0 1 0) S') ∧ (¬ (mpOk (mM S 0 0 1 0) x ∧ ts.length ≤ 128) → S' = (mM S 0 0 1 0))) (some (.int (if (mpOk (mM S 0 0 1 0) x ∧ ts.length ≤ 128) then nI (101 + ts.length) else -1)))) ([.ref (mAdM E 0 0), .int x] : List Value).toArray s 0 0 A) (F0 m 47 ls []) := by
        intro fu
        induction fu with
        | zero => intro j S1 H locs ls  hn hj hinv hH hS hl; omega
        | succ fu ih =>
          intro j S1 H locs ls  hn hj hinv hH hS hl
          refine lv_iload_n hx hb dX8_seal_47 rfl (lv_at hl 3 rfl) ?_
          refine lv_bipush (v := 32) hx hb dX8_seal_48 (by decide) ?_
          refine lv_icmp_ge (tgt := 82) hx hb dX8_seal_50 (by decide) (fun h50 => ?_) (fun h50 => ?_)
          · skip
            have hje : j = 32 := by have := ge_of (a := 32) (b := j) (by omega) (by omega) h50; omega
            rw [hje] at hinv
            refine lv_iconst (v := 0) hx hb dX8_seal_82 (by decide) ?_
            refine mv_eqi (x' := nI 0) (rfl) ?_
            refine lv_istore_n (lv' := [(3, .int (nI 0)), (0, .ref (mAdM E 0 0)), (1, .int x), (2, .int (nI ts.length))]) hx hb dX8_seal_83 rfl hl (by decide) rfl (fun ls hl => ?_)
            have lp2 : ∀ (fu u : Nat) (S2 : mSt) (H : Heap) (locs : List Loc) (ls : Array Slot) , 32 - u < fu → u ≤ 32 → (nHas 3 512 S2 (w4 (S.1 0 0 19) ++ mTk (mpF S x) 32 ++ mTk (S.2.1 14 0) u) ∧ nSame (fun k j => scM k j ∨ nX 3 k j) (mM S 0 0 1 0) S2) → mHold mLM E S2 H → va_S A s.heap H locs → lv_has ls 4 [(0, .ref (mAdM E 0 0)), (2, .int (nI ts.length)), (3, .int (nI u))] → W p l e (headSpec (Cond.code yX8_seal cX8_seal 4 (some .int) :: mv_ws) (mRm 5 139)).room s m ([.ref (mAdM E 0 0), .int x] : List Value).toArray below meth c H locs 0 0 (MQ below (mQ mLM E A (fun S' => ((mpOk (mM S 0 0 1 0) x ∧ ts.length ≤ 128) → nHas 3 512 S' (blobL (S.2.1 13 0) (S.1 0 0 19) (mpF S x) (S.2.1 14 0) ts) ∧ S'.1 0 0 19 = S.1 0 0 19 + 1 ∧ nSame (fun k j => scM k j ∨ nX 3 k j ∨ (k = 0 ∧ j = 19)) (mM S 0 0 1 0) S') ∧ (¬ (mpOk (mM S 0 0 1 0) x ∧ ts.length ≤ 128) → S' = (mM S 0 0 1 0))) (some (.int (if (mpOk (mM S 0 0 1 0) x ∧ ts.length ≤ 128) then nI (101 + ts.length) else -1)))) ([.ref (mAdM E 0 0), .int x] : List Value).toArray s 0 0 A) (F0 m 84 ls []) := by
              intro fu
              induction fu with
              | zero => intro u S2 H locs ls  hn2 hu hin2 hH hS hl; omega
              | succ fu ih2 =>
                intro u S2 H locs ls  hn2 hu hin2 hH hS hl
                refine lv_iload_n hx hb dX8_seal_84 rfl (lv_at hl 2 rfl) ?_
                refine lv_bipush (v := 32) hx hb dX8_seal_85 (by decide) ?_
                refine lv_icmp_ge (tgt := 106) hx hb dX8_seal_87 (by decide) (fun h87 => ?_) (fun h87 => ?_)
                · skip
                  have hue : u = 32 := by have := ge_of (a := 32) (b := u) (by omega) (by omega) h87; omega
                  rw [hue] at hin2
                  refine lv_aload_n hx hb dX8_seal_106 rfl (lv_at hl 0 rfl) ?_
                  refine lv_iload_n hx hb dX8_seal_107 rfl (lv_at hl 1 rfl) ?_
                  refine mv_callV (Y := mLM) (C := RX8) (k := 0) (i := 0) (rest := []) Cx hG hH hS (c_X8_tell l E A hO S2 _ hin2.1 (nI ts.length) (by simp only [List.length_append, List.length_singleton, List.length_cons, List.length_nil, mTk_len, w4_len]; omega)) q_co_X8_tell q_ml_X8_160 q_im_X8_tell q_se_X8_tell q_in_X8 okM_0 rfl rfl hd_X8_tell ⟨Nat.le_of_ble_eq_true rfl, Nat.le_of_ble_eq_true rfl⟩ rfl hl.1 rfl (Nat.le_of_ble_eq_true rfl) ⟨Nat.le_of_ble_eq_true rfl, Nat.le_of_ble_eq_true rfl⟩ dX8_seal_108 (fun S108 H locs hP108 hH hS => ?_)
                  refine W.eq (g2 := F0 m 111 ls []) rfl ?_
                  refine lv_iconst (v := 0) hx hb dX8_seal_111 (by decide) ?_
                  refine mv_eqi (x' := nI 0) (rfl) ?_
                  refine lv_istore_n (lv' := [(3, .int (nI 0)), (0, .ref (mAdM E 0 0)), (2, .int (nI ts.length))]) hx hb dX8_seal_112 rfl hl (by decide) rfl (fun ls hl => ?_)
                  have lp3 : ∀ (fu v : Nat) (S3 : mSt) (H : Heap) (locs : List Loc) (ls : Array Slot) , ts.length - v < fu → v ≤ ts.length → (nHas 3 512 S3 (w4 (S.1 0 0 19) ++ mTk (mpF S x) 32 ++ mTk (S.2.1 14 0) 32 ++ [(nI ts.length).toInt8] ++ mTk (fun q => ts.getD q 0) v) ∧ nSame (fun k j => scM k j ∨ nX 3 k j) (mM S 0 0 1 0) S3) → mHold mLM E S3 H → va_S A s.heap H locs → lv_has ls 4 [(0, .ref (mAdM E 0 0)), (2, .int (nI ts.length)), (3, .int (nI v))] → W p l e (headSpec (Cond.code yX8_seal cX8_seal 4 (some .int) :: mv_ws) (mRm 5 139)).room s m ([.ref (mAdM E 0 0), .int x] : List Value).toArray below meth c H locs 0 0 (MQ below (mQ mLM E A (fun S' => ((mpOk (mM S 0 0 1 0) x ∧ ts.length ≤ 128) → nHas 3 512 S' (blobL (S.2.1 13 0) (S.1 0 0 19) (mpF S x) (S.2.1 14 0) ts) ∧ S'.1 0 0 19 = S.1 0 0 19 + 1 ∧ nSame (fun k j => scM k j ∨ nX 3 k j ∨ (k = 0 ∧ j = 19)) (mM S 0 0 1 0) S') ∧ (¬ (mpOk (mM S 0 0 1 0) x ∧ ts.length ≤ 128) → S' = (mM S 0 0 1 0))) (some (.int (if (mpOk (mM S 0 0 1 0) x ∧ ts.length ≤ 128) then nI (101 + ts.length) else -1)))) ([.ref (mAdM E 0 0), .int x] : List Value).toArray s 0 0 A) (F0 m 113 ls []) := by
                    intro fu
                    induction fu with
                    | zero => intro v S3 H locs ls  hn3 hv3 hin3 hH hS hl; omega
                    | succ fu ih3 =>
                      intro v S3 H locs ls  hn3 hv3 hin3 hH hS hl
                      refine lv_iload_n hx hb dX8_seal_113 rfl (lv_at hl 2 rfl) ?_
                      refine lv_iload_n hx hb dX8_seal_114 rfl (lv_at hl 1 rfl) ?_
                      refine lv_icmp_ge (tgt := 134) hx hb dX8_seal_115 (by decide) (fun h115 => ?_) (fun h115 => ?_)
                      · skip
                        have hve : v = ts.length := by have := ge_of (a := ts.length) (b := v) (by omega) (by omega) h115; omega
                        rw [hve] at hin3
                        refine lv_aload_n hx hb dX8_seal_134 rfl (lv_at hl 0 rfl) ?_
                        refine lv_aload_n hx hb dX8_seal_135 rfl (lv_at hl 0 rfl) ?_
                        refine g_X8_out Cx hG hH q_fl_X8_13 dX8_seal_136 ?_
                        refine lv_bipush (v := 36) hx hb dX8_seal_139 (by decide) ?_
                        refine mv_eqi (x' := nI 36) (rfl) ?_
                        refine lv_bipush (v := 33) hx hb dX8_seal_141 (by decide) ?_
                        refine lv_iload_n hx hb dX8_seal_143 rfl (lv_at hl 1 rfl) ?_
                        refine lv_iadd hx hb dX8_seal_144 ?_
                        refine mv_eqi (x' := nI (33 + ts.length)) (nI_add 33 _) ?_
                        refine lv_aload_n hx hb dX8_seal_145 rfl (lv_at hl 0 rfl) ?_
                        refine g_X8_blobs Cx hG hH q_fl_X8_203 dX8_seal_146 ?_
                        refine mv_eqi (x' := S.1 0 0 19) ((hin3.2 0 19 (by simp only [scM, nX, hX, seM]; omega)).1.trans (by simp [mM, m3])) ?_
                        refine mv_callV (Y := mLM) (C := RX8) (k := 0) (i := 0) (rest := []) Cx hG hH hS (c_X8_mix l E A hO S3 3 512 isM_3 (Or.inr rfl) (33 + ts.length) (by omega) (S.1 0 0 19)) q_co_X8_mix q_ml_X8_206 q_im_X8_mix q_se_X8_mix q_in_X8 okM_0 rfl rfl hd_X8_mix ⟨Nat.le_of_ble_eq_true rfl, Nat.le_of_ble_eq_true rfl⟩ rfl hl.1 rfl (Nat.le_of_ble_eq_true rfl) ⟨Nat.le_of_ble_eq_true rfl, Nat.le_of_ble_eq_true rfl⟩ dX8_seal_149 (fun S149 H locs hP149 hH hS => ?_)
                        refine W.eq (g2 := F0 m 152 ls []) rfl ?_
                        have hs149 : nSame (fun k j => scM k j ∨ nX 3 k j) (mM S 0 0 1 0) S149 := hin3.2.tr (hP149.2.wk (fun k j h => by simp only [scM, nX, hX, seM] at h ⊢; omega))
                        have hsd : ∀ q, q < 32 → S3.2.1 13 0 q = S.2.1 13 0 q := fun q hq => (hin3.2 13 q (by simp only [scM, nX, hX, seM]; omega)).2.1
                        have hsd2 : ∀ q, q < 32 → S149.2.1 13 0 q = S.2.1 13 0 q := fun q hq => (hs149 13 q (by simp only [scM, nX, hX, seM]; omega)).2.1
                        have hb0 : nHas 3 512 S3 (bl0 (S.1 0 0 19) (mpF S x) (S.2.1 14 0) ts) := by have h := hin3.1; rw [mTk_getD] at h; exact h
                        have hb1 : nHas 3 512 S149 (bl1 (S.2.1 13 0) (S.1 0 0 19) (bl0 (S.1 0 0 19) (mpF S x) (S.2.1 14 0) ts)) := ⟨by rw [bl1_len]; exact (hP149.2 0 3 (by simp only [scM, nX, hX, seM]; omega)).1.trans hb0.1, by rw [bl1_len]; exact hb0.2.1, fun j hj => by rw [bl1_len] at hj; unfold bl1; rw [mTk_get _ hj, hP149.1 j, show 36 + (33 + ts.length) = (bl0 (S.1 0 0 19) (mpF S x) (S.2.1 14 0) ts).length by rw [bl0_len]; omega]; exact covF_congr (fun q hq => congrFun (macL_cg hsd) q) (hb0.2.2 j hj)⟩
                        have hoc : S149.1 0 0 3 = nI (69 + ts.length) := by have h := hb1.1; rwa [bl1_len, bl0_len] at h
                        have hml : mTk (S149.2.1 3 0) (69 + ts.length) = (bl1 (S.2.1 13 0) (S.1 0 0 19) (bl0 (S.1 0 0 19) (mpF S x) (S.2.1 14 0) ts)) := by have h := mTk_list hb1.2.2; rwa [bl1_len, bl0_len] at h
                        refine lv_aload_n hx hb dX8_seal_152 rfl (lv_at hl 0 rfl) ?_
                        refine lv_aload_n hx hb dX8_seal_153 rfl (lv_at hl 0 rfl) ?_
                        refine g_X8_out Cx hG hH q_fl_X8_13 dX8_seal_154 ?_
                        refine lv_aload_n hx hb dX8_seal_157 rfl (lv_at hl 0 rfl) ?_
                        refine g_X8_outCount Cx hG hH q_fl_X8_143 dX8_seal_158 ?_
                        refine mv_eqi (x' := nI (69 + ts.length)) (hoc) ?_
                        refine lv_aload_n hx hb dX8_seal_161 rfl (lv_at hl 0 rfl) ?_
                        refine g_X8_blobs Cx hG hH q_fl_X8_203 dX8_seal_162 ?_
                        refine mv_eqi (x' := S.1 0 0 19) ((hs149 0 19 (by simp only [scM, nX, hX, seM]; omega)).1.trans (by simp [mM, m3])) ?_
                        refine lv_aload_n hx hb dX8_seal_165 rfl (lv_at hl 0 rfl) ?_
                        refine g_X8_out Cx hG hH q_fl_X8_13 dX8_seal_166 ?_
                        refine lv_aload_n hx hb dX8_seal_169 rfl (lv_at hl 0 rfl) ?_
                        refine g_X8_outCount Cx hG hH q_fl_X8_143 dX8_seal_170 ?_
                        refine mv_eqi (x' := nI (69 + ts.length)) (hoc) ?_
                        refine mv_callV (Y := mLM) (C := RX8) (k := 0) (i := 0) (rest := []) Cx hG hH hS (c_X8_sealTo l E A hO S149 3 512 isM_3 (Or.inr rfl) (69 + ts.length) (by omega) (by omega) (S.1 0 0 19) 3 512 isM_3 (by decide) (69 + ts.length) (by omega)) q_co_X8_sealTo q_ml_X8_210 q_im_X8_sealTo q_se_X8_sealTo q_in_X8 okM_0 rfl rfl hd_X8_sealTo ⟨Nat.le_of_ble_eq_true rfl, Nat.le_of_ble_eq_true rfl⟩ rfl hl.1 rfl (Nat.le_of_ble_eq_true rfl) ⟨Nat.le_of_ble_eq_true rfl, Nat.le_of_ble_eq_true rfl⟩ dX8_seal_173 (fun S173 H locs hP173 hH hS => ?_)
                        refine W.eq (g2 := F0 m 176 ls []) rfl ?_
                        refine lv_aload_n hx hb dX8_seal_176 rfl (lv_at hl 0 rfl) ?_
                        refine lv_dup hx hb dX8_seal_177 rfl ?_
                        refine g_X8_outCount Cx hG hH q_fl_X8_143 dX8_seal_178 ?_
                        refine mv_eqi (x' := nI (69 + ts.length)) ((hP173.2 0 3 (by simp only [scM, nX, hX, seM]; omega)).1.trans hoc) ?_
                        refine lv_bipush (v := 32) hx hb dX8_seal_181 (by decide) ?_
                        refine lv_iadd hx hb dX8_seal_183 ?_
                        refine mv_eqi (x' := nI (101 + ts.length)) (by rw [show 101 + ts.length = 69 + ts.length + 32 by omega]; exact nI_add _ 32) ?_
                        refine p_X8_outCount Cx hG hO hH hS q_fl_X8_143 dX8_seal_184 (fun H locs hH hS => ?_)
                        refine lv_aload_n hx hb dX8_seal_187 rfl (lv_at hl 0 rfl) ?_
                        refine lv_dup hx hb dX8_seal_188 rfl ?_
                        refine g_X8_blobs Cx hG hH q_fl_X8_203 dX8_seal_189 ?_
                        refine mv_eqi (x' := S.1 0 0 19) ((show (mM S173 0 0 3 (nI (101 + ts.length))).1 0 0 19 = S173.1 0 0 19 by simp [mM, m3]).trans ((hP173.2 0 19 (by simp only [scM, nX, hX, seM]; omega)).1.trans ((hs149 0 19 (by simp only [scM, nX, hX, seM]; omega)).1.trans (by simp [mM, m3])))) ?_
                        refine lv_iconst (v := 1) hx hb dX8_seal_192 (by decide) ?_
                        refine lv_iadd hx hb dX8_seal_193 ?_
                        refine p_X8_blobs Cx hG hO hH hS q_fl_X8_203 dX8_seal_194 (fun H locs hH hS => ?_)
                        refine lv_aload_n hx hb dX8_seal_197 rfl (lv_at hl 0 rfl) ?_
                        refine g_X8_outCount Cx hG hH q_fl_X8_143 dX8_seal_198 ?_
                        refine mv_eqi (x' := nI (101 + ts.length)) (by simp [mM, m3]) ?_
                        exact mv_reti Cx hr hH hS ((if_pos hok).symm) (⟨fun _ => ⟨nHas.app (S := S149) (xs := (bl1 (S.2.1 13 0) (S.1 0 0 19) (bl0 (S.1 0 0 19) (mpF S x) (S.2.1 14 0) ts))) (f := blMk (S.2.1 13 0) (S.1 0 0 19) (bl1 (S.2.1 13 0) (S.1 0 0 19) (bl0 (S.1 0 0 19) (mpF S x) (S.2.1 14 0) ts))) hb1 (fun j hj => by rw [bl1_len, bl0_len] at hj; exact (hP173.2 3 j (by simp only [scM, nX, hX, seM]; omega)).2.1) (fun q hq => by rw [bl1_len, bl0_len]; exact (hP173.1 q hq).trans (by rw [hml]; unfold blMk; rw [macL_cg (f := S149.2.1 13 0) (g := S.2.1 13 0) hsd2])) (by rw [bl1_len, bl0_len, show 69 + ts.length + 32 = 101 + ts.length by omega]; simp [mM, m3]) (by rw [bl1_len, bl0_len]; omega), by simp [mM, m3], (((hs149.wk (fun k j h => by simp only [scM, nX, hX, seM] at h ⊢; omega)).tr (hP173.2.wk (fun k j h => by simp only [scM, nX, hX, seM] at h ⊢; omega))).tr (nSame.M (by simp [scM, nX, hX, seM]))).tr (nSame.M (by simp [scM, nX, hX, seM]))⟩, fun q => absurd hok q⟩) dX8_seal_201 hlocks
                      · skip
                        have hve : v < ts.length := by have := lt_of (a := ts.length) (b := v) (by omega) (by omega) h115; omega
                        refine lv_aload_n hx hb dX8_seal_118 rfl (lv_at hl 0 rfl) ?_
                        refine lv_aload_n hx hb dX8_seal_119 rfl (lv_at hl 0 rfl) ?_
                        refine g_X8_tape Cx hG hH q_fl_X8_9 dX8_seal_120 ?_
                        refine lv_iload_n hx hb dX8_seal_123 rfl (lv_at hl 2 rfl) ?_
                        refine mv_bal Cx hG hH isM_1 v (rfl) (by omega) dX8_seal_124 ?_
                        refine mv_eqi (x' := (ts.getD v 0).toInt32) (congrArg Int8.toInt32 ((hin3.2 1 v (by simp only [scM, nX, hX, seM]; omega)).2.1.trans (hts.2.2 v (by omega)))) ?_
                        refine mv_callV (Y := mLM) (C := RX8) (k := 0) (i := 0) (rest := []) Cx hG hH hS (c_X8_tell l E A hO S3 _ hin3.1 (ts.getD v 0).toInt32 (by simp only [List.length_append, List.length_singleton, List.length_cons, List.length_nil, mTk_len, w4_len]; omega)) q_co_X8_tell q_ml_X8_160 q_im_X8_tell q_se_X8_tell q_in_X8 okM_0 rfl rfl hd_X8_tell ⟨Nat.le_of_ble_eq_true rfl, Nat.le_of_ble_eq_true rfl⟩ rfl hl.1 rfl (Nat.le_of_ble_eq_true rfl) ⟨Nat.le_of_ble_eq_true rfl, Nat.le_of_ble_eq_true rfl⟩ dX8_seal_125 (fun S125 H locs hP125 hH hS => ?_)
                        refine W.eq (g2 := F0 m 128 ls []) rfl ?_
                        refine lv_iinc (v := nI (v + 1)) (lv' := [(3, .int (nI (v + 1))), (0, .ref (mAdM E 0 0)), (2, .int (nI ts.length))]) hx hb dX8_seal_128 hl (k := 2) rfl (i2_1 v) (by decide) rfl (fun ls hl => ?_)
                        refine lv_goto (tgt := 113) hx hb dX8_seal_131 (by decide) ?_
                        exact ih3 (v + 1) S125 _ _ ls  (by omega) (by omega) (⟨by rw [mTk_succ (fun q => ts.getD q 0), ← List.append_assoc]; have h := hP125.1; rwa [Int8.toInt8_toInt32] at h, hin3.2.tr (hP125.2.wk (fun k j h => by simp only [scM, nX, hX, seM] at h ⊢; omega))⟩) hH hS (lv_sub hl [1, 2, 0] rfl)
                  exact lp3 (ts.length - 0 + 1) 0 S108 _ _ ls  (by omega) (by omega) (⟨by rw [show mTk (fun q => ts.getD q 0) 0 = [] from rfl, List.append_nil]; exact hP108.1, hin2.2.tr (hP108.2.wk (fun k j h => by simp only [scM, nX, hX, seM] at h ⊢; omega))⟩) hH hS (lv_sub hl [1, 2, 0] rfl)
                · skip
                  have hue : u < 32 := by have := lt_of (a := 32) (b := u) (by omega) (by omega) h87; omega
                  refine lv_aload_n hx hb dX8_seal_90 rfl (lv_at hl 0 rfl) ?_
                  refine lv_aload_n hx hb dX8_seal_91 rfl (lv_at hl 0 rfl) ?_
                  refine g_X8_keyNow Cx hG hH q_fl_X8_38 dX8_seal_92 ?_
                  refine lv_iload_n hx hb dX8_seal_95 rfl (lv_at hl 2 rfl) ?_
                  refine mv_bal Cx hG hH isM_14 u (rfl) (by omega) dX8_seal_96 ?_
                  refine mv_eqi (x' := (S.2.1 14 0 u).toInt32) (congrArg Int8.toInt32 (hin2.2 14 u (by simp only [scM, nX, hX, seM]; omega)).2.1) ?_
                  refine mv_callV (Y := mLM) (C := RX8) (k := 0) (i := 0) (rest := []) Cx hG hH hS (c_X8_tell l E A hO S2 _ hin2.1 (S.2.1 14 0 u).toInt32 (by simp only [List.length_append, List.length_singleton, List.length_cons, List.length_nil, mTk_len, w4_len]; omega)) q_co_X8_tell q_ml_X8_160 q_im_X8_tell q_se_X8_tell q_in_X8 okM_0 rfl rfl hd_X8_tell ⟨Nat.le_of_ble_eq_true rfl, Nat.le_of_ble_eq_true rfl⟩ rfl hl.1 rfl (Nat.le_of_ble_eq_true rfl) ⟨Nat.le_of_ble_eq_true rfl, Nat.le_of_ble_eq_true rfl⟩ dX8_seal_97 (fun S97 H locs hP97 hH hS => ?_)
                  refine W.eq (g2 := F0 m 100 ls []) rfl ?_
                  refine lv_iinc (v := nI (u + 1)) (lv' := [(3, .int (nI (u + 1))), (0, .ref (mAdM E 0 0)), (2, .int (nI ts.length))]) hx hb dX8_seal_100 hl (k := 2) rfl (i2_1 u) (by decide) rfl (fun ls hl => ?_)
                  refine lv_goto (tgt := 84) hx hb dX8_seal_103 (by decide) ?_
                  exact ih2 (u + 1) S97 _ _ ls  (by omega) (by omega) (⟨by rw [mTk_succ (S.2.1 14 0), ← List.append_assoc]; have h := hP97.1; rwa [Int8.toInt8_toInt32] at h, hin2.2.tr (hP97.2.wk (fun k j h => by simp only [scM, nX, hX, seM] at h ⊢; omega))⟩) hH hS (lv_sub hl [1, 2, 0] rfl)
            exact lp2 (32 - 0 + 1) 0 S1 _ _ ls  (by omega) (by omega) (⟨by rw [show mTk (S.2.1 14 0) 0 = [] from rfl, List.append_nil]; exact hinv.1, hinv.2⟩) hH hS (lv_sub hl [1, 3, 0] rfl)
          · skip
            have hje : j < 32 := by have := lt_of (a := 32) (b := j) (by omega) (by omega) h50; omega
            refine lv_aload_n hx hb dX8_seal_53 rfl (lv_at hl 0 rfl) ?_
            refine lv_iload_n hx hb dX8_seal_54 rfl (lv_at hl 1 rfl) ?_
            refine lv_if_ge (tgt := 62) hx hb dX8_seal_55 (by decide) (fun h55 => ?_) (fun h55 => ?_)
            · skip
              exact absurd h55 (by rw [h12]; decide)
            · skip
              refine lv_iconst (v := 0) hx hb dX8_seal_58 (by decide) ?_
              refine mv_eqi (x' := (mpF S x j).toInt32) (by rw [h12, mpF_m]; rfl) ?_
              refine lv_goto (tgt := 73) hx hb dX8_seal_59 (by decide) ?_
              refine mv_callV (Y := mLM) (C := RX8) (k := 0) (i := 0) (rest := []) Cx hG hH hS (c_X8_tell l E A hO S1 _ hinv.1 (mpF S x j).toInt32 (by simp only [List.length_append, List.length_singleton, List.length_cons, List.length_nil, mTk_len, w4_len]; omega)) q_co_X8_tell q_ml_X8_160 q_im_X8_tell q_se_X8_tell q_in_X8 okM_0 rfl rfl hd_X8_tell ⟨Nat.le_of_ble_eq_true rfl, Nat.le_of_ble_eq_true rfl⟩ rfl hl.1 rfl (Nat.le_of_ble_eq_true rfl) ⟨Nat.le_of_ble_eq_true rfl, Nat.le_of_ble_eq_true rfl⟩ dX8_seal_73 (fun S73 H locs hP73 hH hS => ?_)
              refine W.eq (g2 := F0 m 76 ls []) rfl ?_
              refine lv_iinc (v := nI (j + 1)) (lv' := [(3, .int (nI (j + 1))), (0, .ref (mAdM E 0 0)), (1, .int x), (2, .int (nI ts.length))]) hx hb dX8_seal_76 hl (k := 3) rfl (i2_1 j) (by decide) rfl (fun ls hl => ?_)
              refine lv_goto (tgt := 47) hx hb dX8_seal_79 (by decide) ?_
              exact ih (j + 1) S73 _ _ ls  (by omega) (by omega) (⟨by rw [mTk_succ (mpF S x), ← List.append_assoc]; have h := hP73.1; rwa [Int8.toInt8_toInt32] at h, hinv.2.tr (hP73.2.wk (fun k j h => by simp only [scM, nX, hX, seM] at h ⊢; omega))⟩) hH hS (lv_sub hl [1, 2, 3, 0] rfl)
      exact lp (32 - 0 + 1) 0 S42 _ _ ls  (by omega) (by omega) (⟨by rw [show mTk (mpF S x) 0 = [] from rfl, List.append_nil]; exact hP42.1, hs42⟩) hH hS (lv_sub hl [2, 3, 1, 0] rfl)
    · skip
      have hok : ¬ (mpOk (mM S 0 0 1 0) x ∧ ts.length ≤ 128) := fun q => h27 ((nI_leI (b := 128) (by omega) (by decide)).mpr q.2)
      refine lv_iconst (v := (-1 : Int32)) hx hb dX8_seal_30 (by decide) ?_
      exact mv_reti Cx hr hH hS ((if_neg hok).symm) (⟨fun q => absurd q hok, fun _ => rfl⟩) dX8_seal_31 hlocks
  · skip
    refine lv_aload_n hx hb dX8_seal_15 rfl (lv_at hl 1 rfl) ?_
    refine lv_iload_n hx hb dX8_seal_16 rfl (lv_at hl 2 rfl) ?_
    refine mv_callV (Y := mLM) (C := RX8) (k := 0) (i := 0) (rest := []) Cx hG hH hS (c_X8_opened l E A hO (mM S 0 0 1 0) x) q_co_X8_opened q_ml_X8_182 q_im_X8_opened q_se_X8_opened q_in_X8 okM_0 rfl rfl hd_X8_opened ⟨Nat.le_of_ble_eq_true rfl, Nat.le_of_ble_eq_true rfl⟩ rfl hl.1 rfl (Nat.le_of_ble_eq_true rfl) ⟨Nat.le_of_ble_eq_true rfl, Nat.le_of_ble_eq_true rfl⟩ dX8_seal_17 (fun S17 H locs hP17 hH hS => ?_)
    refine W.eq (g2 := F0 m 20 ls [.int (if (msO (mM S 0 0 1 0) x).isSome = true then 1 else 0)]) rfl ?_
    have hH := mv_S hP17 hH
    refine lv_if_eq (tgt := 30) hx hb dX8_seal_20 (by decide) (fun h20 => ?_) (fun h20 => ?_)
    · skip
      have hok : ¬ (mpOk (mM S 0 0 1 0) x ∧ ts.length ≤ 128) := fun q => q.1.elim h12 (b0_of h20)
      refine lv_iconst (v := (-1 : Int32)) hx hb dX8_seal_30 (by decide) ?_
      exact mv_reti Cx hr hH hS ((if_neg hok).symm) (⟨fun q => absurd q hok, fun _ => rfl⟩) dX8_seal_31 hlocks
    · skip
      obtain ⟨i, hso⟩ := Option.isSome_iff_exists.mp (b1_of h20)
      obtain ⟨hxi, hi, hop⟩ := opO_some (by decide) hso
      have hl : lv_has ls 4 [(2, .int (nI ts.length)), (0, .ref (mAdM E 0 0)), (1, .int (nI i))] := by rw [← hxi]; exact hl
      refine lv_iload_n hx hb dX8_seal_23 rfl (lv_at hl 0 rfl) ?_
      refine lv_sipush (v := 128) hx hb dX8_seal_24 (by decide) ?_
      refine lv_icmp_le (tgt := 32) hx hb dX8_seal_27 (by decide) (fun h27 => ?_) (fun h27 => ?_)
      · skip
        have h128 : ts.length ≤ 128 := (nI_leI (b := 128) (by omega) (by decide)).mp h27
        have hok : (mpOk (mM S 0 0 1 0) x ∧ ts.length ≤ 128) := ⟨Or.inr (b1_of h20), h128⟩
        refine lv_aload_n hx hb dX8_seal_32 rfl (lv_at hl 1 rfl) ?_
        refine lv_iconst (v := 0) hx hb dX8_seal_33 (by decide) ?_
        refine p_X8_outCount Cx hG hO hH hS q_fl_X8_143 dX8_seal_34 (fun H locs hH hS => ?_)
        refine lv_aload_n hx hb dX8_seal_37 rfl (lv_at hl 1 rfl) ?_
        refine lv_aload_n hx hb dX8_seal_38 rfl (lv_at hl 1 rfl) ?_
        refine g_X8_blobs Cx hG hH q_fl_X8_203 dX8_seal_39 ?_
        refine mv_eqi (x' := S.1 0 0 19) (by simp [mM, m3]) ?_
        refine mv_callV (Y := mLM) (C := RX8) (k := 0) (i := 0) (rest := []) Cx hG hH hS (c_X8_tellWord l E A hO (mM (mM S 0 0 1 0) 0 0 3 0) [] nHas.nil (S.1 0 0 19) (by simp)) q_co_X8_tellWord q_ml_X8_166 q_im_X8_tellWord q_se_X8_tellWord q_in_X8 okM_0 rfl rfl hd_X8_tellWord ⟨Nat.le_of_ble_eq_true rfl, Nat.le_of_ble_eq_true rfl⟩ rfl hl.1 rfl (Nat.le_of_ble_eq_true rfl) ⟨Nat.le_of_ble_eq_true rfl, Nat.le_of_ble_eq_true rfl⟩ dX8_seal_42 (fun S42 H locs hP42 hH hS => ?_)
        refine W.eq (g2 := F0 m 45 ls []) rfl ?_
        have hs42 : nSame (fun k j => scM k j ∨ nX 3 k j) (mM S 0 0 1 0) S42 := (nSame.M (by simp [scM, nX, hX, seM])).tr (hP42.2.wk (fun k j h => by simp only [scM, nX, hX, seM] at h ⊢; omega))
        refine lv_iconst (v := 0) hx hb dX8_seal_45 (by decide) ?_
        refine mv_eqi (x' := nI 0) (rfl) ?_
        refine lv_istore_n (lv' := [(3, .int (nI 0)), (2, .int (nI ts.length)), (0, .ref (mAdM E 0 0)), (1, .int (nI i))]) hx hb dX8_seal_46 rfl hl (by decide) rfl (fun ls hl => ?_)
        have lp : ∀ (fu j : Nat) (S1 : mSt) (H : Heap) (locs : List Loc) (ls : Array Slot) , 32 - j < fu → j ≤ 32 → (nHas 3 512 S1 (w4 (S.1 0 0 19) ++ mTk (mpF S x) j) ∧ nSame (fun k j => scM k j ∨ nX 3 k j) (mM S 0 0 1 0) S1) → mHold mLM E S1 H → va_S A s.heap H locs → lv_has ls 4 [(0, .ref (mAdM E 0 0)), (1, .int (nI i)), (2, .int (nI ts.length)), (3, .int (nI j))] → W p l e (headSpec (Cond.code yX8_seal cX8_seal 4 (some .int) :: mv_ws) (mRm 5 139)).room s m ([.ref (mAdM E 0 0), .int x] : List Value).toArray below meth c H locs 0 0 (MQ below (mQ mLM E A (fun S' => ((mpOk (mM S 0 0 1 0) x ∧ ts.length ≤ 128) → nHas 3 512 S' (blobL (S.2.1 13 0) (S.1 0 0 19) (mpF S x) (S.2.1 14 0) ts) ∧ S'.1 0 0 19 = S.1 0 0 19 + 1 ∧ nSame (fun k j => scM k j ∨ nX 3 k j ∨ (k = 0 ∧ j = 19)) (mM S 0 0 1 0) S') ∧ (¬ (mpOk (mM S 0 0 1 0) x ∧ ts.length ≤ 128) → S' = (mM S 0 0 1 0))) (some (.int (if (mpOk (mM S 0 0 1 0) x ∧ ts.length ≤ 128) then nI (101 + ts.length) else -1)))) ([.ref (mAdM E 0 0), .int x] : List Value).toArray s 0 0 A) (F0 m 47 ls []) := by
          intro fu
          induction fu with
          | zero => intro j S1 H locs ls  hn hj hinv hH hS hl; omega
          | succ fu ih =>
            intro j S1 H locs ls  hn hj hinv hH hS hl
            refine lv_iload_n hx hb dX8_seal_47 rfl (lv_at hl 3 rfl) ?_
            refine lv_bipush (v := 32) hx hb dX8_seal_48 (by decide) ?_
            refine lv_icmp_ge (tgt := 82) hx hb dX8_seal_50 (by decide) (fun h50 => ?_) (fun h50 => ?_)
            · skip
              have hje : j = 32 := by have := ge_of (a := 32) (b := j) (by omega) (by omega) h50; omega
              rw [hje] at hinv
              refine lv_iconst (v := 0) hx hb dX8_seal_82 (by decide) ?_
              refine mv_eqi (x' := nI 0) (rfl) ?_
              refine lv_istore_n (lv' := [(3, .int (nI 0)), (0, .ref (mAdM E 0 0)), (1, .int (nI i)), (2, .int (nI ts.length))]) hx hb dX8_seal_83 rfl hl (by decide) rfl (fun ls hl => ?_)
              have lp2 : ∀ (fu u : Nat) (S2 : mSt) (H : Heap) (locs : List Loc) (ls : Array Slot) , 32 - u < fu → u ≤ 32 → (nHas 3 512 S2 (w4 (S.1 0 0 19) ++ mTk (mpF S x) 32 ++ mTk (S.2.1 14 0) u) ∧ nSame (fun k j => scM k j ∨ nX 3 k j) (mM S 0 0 1 0) S2) → mHold mLM E S2 H → va_S A s.heap H locs → lv_has ls 4 [(0, .ref (mAdM E 0 0)), (2, .int (nI ts.length)), (3, .int (nI u))] → W p l e (headSpec (Cond.code yX8_seal cX8_seal 4 (some .int) :: mv_ws) (mRm 5 139)).room s m ([.ref (mAdM E 0 0), .int x] : List Value).toArray below meth c H locs 0 0 (MQ below (mQ mLM E A (fun S' => ((mpOk (mM S 0 0 1 0) x ∧ ts.length ≤ 128) → nHas 3 512 S' (blobL (S.2.1 13 0) (S.1 0 0 19) (mpF S x) (S.2.1 14 0) ts) ∧ S'.1 0 0 19 = S.1 0 0 19 + 1 ∧ nSame (fun k j => scM k j ∨ nX 3 k j ∨ (k = 0 ∧ j = 19)) (mM S 0 0 1 0) S') ∧ (¬ (mpOk (mM S 0 0 1 0) x ∧ ts.length ≤ 128) → S' = (mM S 0 0 1 0))) (some (.int (if (mpOk (mM S 0 0 1 0) x ∧ ts.length ≤ 128) then nI (101 + ts.length) else -1)))) ([.ref (mAdM E 0 0), .int x] : List Value).toArray s 0 0 A) (F0 m 84 ls []) := by
                intro fu
                induction fu with
                | zero => intro u S2 H locs ls  hn2 hu hin2 hH hS hl; omega
                | succ fu ih2 =>
                  intro u S2 H locs ls  hn2 hu hin2 hH hS hl
                  refine lv_iload_n hx hb dX8_seal_84 rfl (lv_at hl 2 rfl) ?_
                  refine lv_bipush (v := 32) hx hb dX8_seal_85 (by decide) ?_
                  refine lv_icmp_ge (tgt := 106) hx hb dX8_seal_87 (by decide) (fun h87 => ?_) (fun h87 => ?_)
                  · skip
                    have hue : u = 32 := by have := ge_of (a := 32) (b := u) (by omega) (by omega) h87; omega
                    rw [hue] at hin2
                    refine lv_aload_n hx hb dX8_seal_106 rfl (lv_at hl 0 rfl) ?_
                    refine lv_iload_n hx hb dX8_seal_107 rfl (lv_at hl 1 rfl) ?_
                    refine mv_callV (Y := mLM) (C := RX8) (k := 0) (i := 0) (rest := []) Cx hG hH hS (c_X8_tell l E A hO S2 _ hin2.1 (nI ts.length) (by simp only [List.length_append, List.length_singleton, List.length_cons, List.length_nil, mTk_len, w4_len]; omega)) q_co_X8_tell q_ml_X8_160 q_im_X8_tell q_se_X8_tell q_in_X8 okM_0 rfl rfl hd_X8_tell ⟨Nat.le_of_ble_eq_true rfl, Nat.le_of_ble_eq_true rfl⟩ rfl hl.1 rfl (Nat.le_of_ble_eq_true rfl) ⟨Nat.le_of_ble_eq_true rfl, Nat.le_of_ble_eq_true rfl⟩ dX8_seal_108 (fun S108 H locs hP108 hH hS => ?_)
                    refine W.eq (g2 := F0 m 111 ls []) rfl ?_
                    refine lv_iconst (v := 0) hx hb dX8_seal_111 (by decide) ?_
                    refine mv_eqi (x' := nI 0) (rfl) ?_
                    refine lv_istore_n (lv' := [(3, .int (nI 0)), (0, .ref (mAdM E 0 0)), (2, .int (nI ts.length))]) hx hb dX8_seal_112 rfl hl (by decide) rfl (fun ls hl => ?_)
                    have lp3 : ∀ (fu v : Nat) (S3 : mSt) (H : Heap) (locs : List Loc) (ls : Array Slot) , ts.length - v < fu → v ≤ ts.length → (nHas 3 512 S3 (w4 (S.1 0 0 19) ++ mTk (mpF S x) 32 ++ mTk (S.2.1 14 0) 32 ++ [(nI ts.length).toInt8] ++ mTk (fun q => ts.getD q 0) v) ∧ nSame (fun k j => scM k j ∨ nX 3 k j) (mM S 0 0 1 0) S3) → mHold mLM E S3 H → va_S A s.heap H locs → lv_has ls 4 [(0, .ref (mAdM E 0 0)), (2, .int (nI ts.length)), (3, .int (nI v))] → W p l e (headSpec (Cond.code yX8_seal cX8_seal 4 (some .int) :: mv_ws) (mRm 5 139)).room s m ([.ref (mAdM E 0 0), .int x] : List Value).toArray below meth c H locs 0 0 (MQ below (mQ mLM E A (fun S' => ((mpOk (mM S 0 0 1 0) x ∧ ts.length ≤ 128) → nHas 3 512 S' (blobL (S.2.1 13 0) (S.1 0 0 19) (mpF S x) (S.2.1 14 0) ts) ∧ S'.1 0 0 19 = S.1 0 0 19 + 1 ∧ nSame (fun k j => scM k j ∨ nX 3 k j ∨ (k = 0 ∧ j = 19)) (mM S 0 0 1 0) S') ∧ (¬ (mpOk (mM S 0 0 1 0) x ∧ ts.length ≤ 128) → S' = (mM S 0 0 1 0))) (some (.int (if (mpOk (mM S 0 0 1 0) x ∧ ts.length ≤ 128) then nI (101 + ts.length) else -1)))) ([.ref (mAdM E 0 0), .int x] : List Value).toArray s 0 0 A) (F0 m 113 ls []) := by
                      intro fu
                      induction fu with
                      | zero => intro v S3 H locs ls  hn3 hv3 hin3 hH hS hl; omega
                      | succ fu ih3 =>
                        intro v S3 H locs ls  hn3 hv3 hin3 hH hS hl
                        refine lv_iload_n hx hb dX8_seal_113 rfl (lv_at hl 2 rfl) ?_
                        refine lv_iload_n hx hb dX8_seal_114 rfl (lv_at hl 1 rfl) ?_
                        refine lv_icmp_ge (tgt := 134) hx hb dX8_seal_115 (by decide) (fun h115 => ?_) (fun h115 => ?_)
                        · skip
                          have hve : v = ts.length := by have := ge_of (a := ts.length) (b := v) (by omega) (by omega) h115; omega
                          rw [hve] at hin3
                          refine lv_aload_n hx hb dX8_seal_134 rfl (lv_at hl 0 rfl) ?_
                          refine lv_aload_n hx hb dX8_seal_135 rfl (lv_at hl 0 rfl) ?_
                          refine g_X8_out Cx hG hH q_fl_X8_13 dX8_seal_136 ?_
                          refine lv_bipush (v := 36) hx hb dX8_seal_139 (by decide) ?_
                          refine mv_eqi (x' := nI 36) (rfl) ?_
                          refine lv_bipush (v := 33) hx hb dX8_seal_141 (by decide) ?_
                          refine lv_iload_n hx hb dX8_seal_143 rfl (lv_at hl 1 rfl) ?_
                          refine lv_iadd hx hb dX8_seal_144 ?_
                          refine mv_eqi (x' := nI (33 + ts.length)) (nI_add 33 _) ?_
                          refine lv_aload_n hx hb dX8_seal_145 rfl (lv_at hl 0 rfl) ?_
                          refine g_X8_blobs Cx hG hH q_fl_X8_203 dX8_seal_146 ?_
                          refine mv_eqi (x' := S.1 0 0 19) ((hin3.2 0 19 (by simp only [scM, nX, hX, seM]; omega)).1.trans (by simp [mM, m3])) ?_
                          refine mv_callV (Y := mLM) (C := RX8) (k := 0) (i := 0) (rest := []) Cx hG hH hS (c_X8_mix l E A hO S3 3 512 isM_3 (Or.inr rfl) (33 + ts.length) (by omega) (S.1 0 0 19)) q_co_X8_mix q_ml_X8_206 q_im_X8_mix q_se_X8_mix q_in_X8 okM_0 rfl rfl hd_X8_mix ⟨Nat.le_of_ble_eq_true rfl, Nat.le_of_ble_eq_true rfl⟩ rfl hl.1 rfl (Nat.le_of_ble_eq_true rfl) ⟨Nat.le_of_ble_eq_true rfl, Nat.le_of_ble_eq_true rfl⟩ dX8_seal_149 (fun S149 H locs hP149 hH hS => ?_)
                          refine W.eq (g2 := F0 m 152 ls []) rfl ?_
                          have hs149 : nSame (fun k j => scM k j ∨ nX 3 k j) (mM S 0 0 1 0) S149 := hin3.2.tr (hP149.2.wk (fun k j h => by simp only [scM, nX, hX, seM] at h ⊢; omega))
                          have hsd : ∀ q, q < 32 → S3.2.1 13 0 q = S.2.1 13 0 q := fun q hq => (hin3.2 13 q (by simp only [scM, nX, hX, seM]; omega)).2.1
                          have hsd2 : ∀ q, q < 32 → S149.2.1 13 0 q = S.2.1 13 0 q := fun q hq => (hs149 13 q (by simp only [scM, nX, hX, seM]; omega)).2.1
                          have hb0 : nHas 3 512 S3 (bl0 (S.1 0 0 19) (mpF S x) (S.2.1 14 0) ts) := by have h := hin3.1; rw [mTk_getD] at h; exact h
                          have hb1 : nHas 3 512 S149 (bl1 (S.2.1 13 0) (S.1 0 0 19) (bl0 (S.1 0 0 19) (mpF S x) (S.2.1 14 0) ts)) := ⟨by rw [bl1_len]; exact (hP149.2 0 3 (by simp only [scM, nX, hX, seM]; omega)).1.trans hb0.1, by rw [bl1_len]; exact hb0.2.1, fun j hj => by rw [bl1_len] at hj; unfold bl1; rw [mTk_get _ hj, hP149.1 j, show 36 + (33 + ts.length) = (bl0 (S.1 0 0 19) (mpF S x) (S.2.1 14 0) ts).length by rw [bl0_len]; omega]; exact covF_congr (fun q hq => congrFun (macL_cg hsd) q) (hb0.2.2 j hj)⟩
                          have hoc : S149.1 0 0 3 = nI (69 + ts.length) := by have h := hb1.1; rwa [bl1_len, bl0_len] at h
                          have hml : mTk (S149.2.1 3 0) (69 + ts.length) = (bl1 (S.2.1 13 0) (S.1 0 0 19) (bl0 (S.1 0 0 19) (mpF S x) (S.2.1 14 0) ts)) := by have h := mTk_list hb1.2.2; rwa [bl1_len, bl0_len] at h
                          refine lv_aload_n hx hb dX8_seal_152 rfl (lv_at hl 0 rfl) ?_
                          refine lv_aload_n hx hb dX8_seal_153 rfl (lv_at hl 0 rfl) ?_
                          refine g_X8_out Cx hG hH q_fl_X8_13 dX8_seal_154 ?_
                          refine lv_aload_n hx hb dX8_seal_157 rfl (lv_at hl 0 rfl) ?_
                          refine g_X8_outCount Cx hG hH q_fl_X8_143 dX8_seal_158 ?_
                          refine mv_eqi (x' := nI (69 + ts.length)) (hoc) ?_
                          refine lv_aload_n hx hb dX8_seal_161 rfl (lv_at hl 0 rfl) ?_
                          refine g_X8_blobs Cx hG hH q_fl_X8_203 dX8_seal_162 ?_
                          refine mv_eqi (x' := S.1 0 0 19) ((hs149 0 19 (by simp only [scM, nX, hX, seM]; omega)).1.trans (by simp [mM, m3])) ?_
                          refine lv_aload_n hx hb dX8_seal_165 rfl (lv_at hl 0 rfl) ?_
                          refine g_X8_out Cx hG hH q_fl_X8_13 dX8_seal_166 ?_
                          refine lv_aload_n hx hb dX8_seal_169 rfl (lv_at hl 0 rfl) ?_
                          refine g_X8_outCount Cx hG hH q_fl_X8_143 dX8_seal_170 ?_
                          refine mv_eqi (x' := nI (69 + ts.length)) (hoc) ?_
                          refine mv_callV (Y := mLM) (C := RX8) (k := 0) (i := 0) (rest := []) Cx hG hH hS (c_X8_sealTo l E A hO S149 3 512 isM_3 (Or.inr rfl) (69 + ts.length) (by omega) (by omega) (S.1 0 0 19) 3 512 isM_3 (by decide) (69 + ts.length) (by omega)) q_co_X8_sealTo q_ml_X8_210 q_im_X8_sealTo q_se_X8_sealTo q_in_X8 okM_0 rfl rfl hd_X8_sealTo ⟨Nat.le_of_ble_eq_true rfl, Nat.le_of_ble_eq_true rfl⟩ rfl hl.1 rfl (Nat.le_of_ble_eq_true rfl) ⟨Nat.le_of_ble_eq_true rfl, Nat.le_of_ble_eq_true rfl⟩ dX8_seal_173 (fun S173 H locs hP173 hH hS => ?_)
                          refine W.eq (g2 := F0 m 176 ls []) rfl ?_
                          refine lv_aload_n hx hb dX8_seal_176 rfl (lv_at hl 0 rfl) ?_
                          refine lv_dup hx hb dX8_seal_177 rfl ?_
                          refine g_X8_outCount Cx hG hH q_fl_X8_143 dX8_seal_178 ?_
                          refine mv_eqi (x' := nI (69 + ts.length)) ((hP173.2 0 3 (by simp only [scM, nX, hX, seM]; omega)).1.trans hoc) ?_
                          refine lv_bipush (v := 32) hx hb dX8_seal_181 (by decide) ?_
                          refine lv_iadd hx hb dX8_seal_183 ?_
                          refine mv_eqi (x' := nI (101 + ts.length)) (by rw [show 101 + ts.length = 69 + ts.length + 32 by omega]; exact nI_add _ 32) ?_
                          refine p_X8_outCount Cx hG hO hH hS q_fl_X8_143 dX8_seal_184 (fun H locs hH hS => ?_)
                          refine lv_aload_n hx hb dX8_seal_187 rfl (lv_at hl 0 rfl) ?_
                          refine lv_dup hx hb dX8_seal_188 rfl ?_
                          refine g_X8_blobs Cx hG hH q_fl_X8_203 dX8_seal_189 ?_
                          refine mv_eqi (x' := S.1 0 0 19) ((show (mM S173 0 0 3 (nI (101 + ts.length))).1 0 0 19 = S173.1 0 0 19 by simp [mM, m3]).trans ((hP173.2 0 19 (by simp only [scM, nX, hX, seM]; omega)).1.trans ((hs149 0 19 (by simp only [scM, nX, hX, seM]; omega)).1.trans (by simp [mM, m3])))) ?_
                          refine lv_iconst (v := 1) hx hb dX8_seal_192 (by decide) ?_
                          refine lv_iadd hx hb dX8_seal_193 ?_
                          refine p_X8_blobs Cx hG hO hH hS q_fl_X8_203 dX8_seal_194 (fun H locs hH hS => ?_)
                          refine lv_aload_n hx hb dX8_seal_197 rfl (lv_at hl 0 rfl) ?_
                          refine g_X8_outCount Cx hG hH q_fl_X8_143 dX8_seal_198 ?_
                          refine mv_eqi (x' := nI (101 + ts.length)) (by simp [mM, m3]) ?_
                          exact mv_reti Cx hr hH hS ((if_pos hok).symm) (⟨fun _ => ⟨nHas.app (S := S149) (xs := (bl1 (S.2.1 13 0) (S.1 0 0 19) (bl0 (S.1 0 0 19) (mpF S x) (S.2.1 14 0) ts))) (f := blMk (S.2.1 13 0) (S.1 0 0 19) (bl1 (S.2.1 13 0) (S.1 0 0 19) (bl0 (S.1 0 0 19) (mpF S x) (S.2.1 14 0) ts))) hb1 (fun j hj => by rw [bl1_len, bl0_len] at hj; exact (hP173.2 3 j (by simp only [scM, nX, hX, seM]; omega)).2.1) (fun q hq => by rw [bl1_len, bl0_len]; exact (hP173.1 q hq).trans (by rw [hml]; unfold blMk; rw [macL_cg (f := S149.2.1 13 0) (g := S.2.1 13 0) hsd2])) (by rw [bl1_len, bl0_len, show 69 + ts.length + 32 = 101 + ts.length by omega]; simp [mM, m3]) (by rw [bl1_len, bl0_len]; omega), by simp [mM, m3], (((hs149.wk (fun k j h => by simp only [scM, nX, hX, seM] at h ⊢; omega)).tr (hP173.2.wk (fun k j h => by simp only [scM, nX, hX, seM] at h ⊢; omega))).tr (nSame.M (by simp [scM, nX, hX, seM]))).tr (nSame.M (by simp [scM, nX, hX, seM]))⟩, fun q => absurd hok q⟩) dX8_seal_201 hlocks
                        · skip
                          have hve : v < ts.length := by have := lt_of (a := ts.length) (b := v) (by omega) (by omega) h115; omega
                          refine lv_aload_n hx hb dX8_seal_118 rfl (lv_at hl 0 rfl) ?_
                          refine lv_aload_n hx hb dX8_seal_119 rfl (lv_at hl 0 rfl) ?_
                          refine g_X8_tape Cx hG hH q_fl_X8_9 dX8_seal_120 ?_
                          refine lv_iload_n hx hb dX8_seal_123 rfl (lv_at hl 2 rfl) ?_
                          refine mv_bal Cx hG hH isM_1 v (rfl) (by omega) dX8_seal_124 ?_
                          refine mv_eqi (x' := (ts.getD v 0).toInt32) (congrArg Int8.toInt32 ((hin3.2 1 v (by simp only [scM, nX, hX, seM]; omega)).2.1.trans (hts.2.2 v (by omega)))) ?_
                          refine mv_callV (Y := mLM) (C := RX8) (k := 0) (i := 0) (rest := []) Cx hG hH hS (c_X8_tell l E A hO S3 _ hin3.1 (ts.getD v 0).toInt32 (by simp only [List.length_append, List.length_singleton, List.length_cons, List.length_nil, mTk_len, w4_len]; omega)) q_co_X8_tell q_ml_X8_160 q_im_X8_tell q_se_X8_tell q_in_X8 okM_0 rfl rfl hd_X8_tell ⟨Nat.le_of_ble_eq_true rfl, Nat.le_of_ble_eq_true rfl⟩ rfl hl.1 rfl (Nat.le_of_ble_eq_true rfl) ⟨Nat.le_of_ble_eq_true rfl, Nat.le_of_ble_eq_true rfl⟩ dX8_seal_125 (fun S125 H locs hP125 hH hS => ?_)
                          refine W.eq (g2 := F0 m 128 ls []) rfl ?_
                          refine lv_iinc (v := nI (v + 1)) (lv' := [(3, .int (nI (v + 1))), (0, .ref (mAdM E 0 0)), (2, .int (nI ts.length))]) hx hb dX8_seal_128 hl (k := 2) rfl (i2_1 v) (by decide) rfl (fun ls hl => ?_)
                          refine lv_goto (tgt := 113) hx hb dX8_seal_131 (by decide) ?_
                          exact ih3 (v + 1) S125 _ _ ls  (by omega) (by omega) (⟨by rw [mTk_succ (fun q => ts.getD q 0), ← List.append_assoc]; have h := hP125.1; rwa [Int8.toInt8_toInt32] at h, hin3.2.tr (hP125.2.wk (fun k j h => by simp only [scM, nX, hX, seM] at h ⊢; omega))⟩) hH hS (lv_sub hl [1, 2, 0] rfl)
                    exact lp3 (ts.length - 0 + 1) 0 S108 _ _ ls  (by omega) (by omega) (⟨by rw [show mTk (fun q => ts.getD q 0) 0 = [] from rfl, List.append_nil]; exact hP108.1, hin2.2.tr (hP108.2.wk (fun k j h => by simp only [scM, nX, hX, seM] at h ⊢; omega))⟩) hH hS (lv_sub hl [1, 2, 0] rfl)
                  · skip
                    have hue : u < 32 := by have := lt_of (a := 32) (b := u) (by omega) (by omega) h87; omega
                    refine lv_aload_n hx hb dX8_seal_90 rfl (lv_at hl 0 rfl) ?_
                    refine lv_aload_n hx hb dX8_seal_91 rfl (lv_at hl 0 rfl) ?_
                    refine g_X8_keyNow Cx hG hH q_fl_X8_38 dX8_seal_92 ?_
                    refine lv_iload_n hx hb dX8_seal_95 rfl (lv_at hl 2 rfl) ?_
                    refine mv_bal Cx hG hH isM_14 u (rfl) (by omega) dX8_seal_96 ?_
                    refine mv_eqi (x' := (S.2.1 14 0 u).toInt32) (congrArg Int8.toInt32 (hin2.2 14 u (by simp only [scM, nX, hX, seM]; omega)).2.1) ?_
                    refine mv_callV (Y := mLM) (C := RX8) (k := 0) (i := 0) (rest := []) Cx hG hH hS (c_X8_tell l E A hO S2 _ hin2.1 (S.2.1 14 0 u).toInt32 (by simp only [List.length_append, List.length_singleton, List.length_cons, List.length_nil, mTk_len, w4_len]; omega)) q_co_X8_tell q_ml_X8_160 q_im_X8_tell q_se_X8_tell q_in_X8 okM_0 rfl rfl hd_X8_tell ⟨Nat.le_of_ble_eq_true rfl, Nat.le_of_ble_eq_true rfl⟩ rfl hl.1 rfl (Nat.le_of_ble_eq_true rfl) ⟨Nat.le_of_ble_eq_true rfl, Nat.le_of_ble_eq_true rfl⟩ dX8_seal_97 (fun S97 H locs hP97 hH hS => ?_)
                    refine W.eq (g2 := F0 m 100 ls []) rfl ?_
                    refine lv_iinc (v := nI (u + 1)) (lv' := [(3, .int (nI (u + 1))), (0, .ref (mAdM E 0 0)), (2, .int (nI ts.length))]) hx hb dX8_seal_100 hl (k := 2) rfl (i2_1 u) (by decide) rfl (fun ls hl => ?_)
                    refine lv_goto (tgt := 84) hx hb dX8_seal_103 (by decide) ?_
                    exact ih2 (u + 1) S97 _ _ ls  (by omega) (by omega) (⟨by rw [mTk_succ (S.2.1 14 0), ← List.append_assoc]; have h := hP97.1; rwa [Int8.toInt8_toInt32] at h, hin2.2.tr (hP97.2.wk (fun k j h => by simp only [scM, nX, hX, seM] at h ⊢; omega))⟩) hH hS (lv_sub hl [1, 2, 0] rfl)
              exact lp2 (32 - 0 + 1) 0 S1 _ _ ls  (by omega) (by omega) (⟨by rw [show mTk (S.2.1 14 0) 0 = [] from rfl, List.append_nil]; exact hinv.1, hinv.2⟩) hH hS (lv_sub hl [1, 3, 0] rfl)
            · skip
              have hje : j < 32 := by have := lt_of (a := 32) (b := j) (by omega) (by omega) h50; omega
              refine lv_aload_n hx hb dX8_seal_53 rfl (lv_at hl 0 rfl) ?_
              refine lv_iload_n hx hb dX8_seal_54 rfl (lv_at hl 1 rfl) ?_
              refine lv_if_ge (tgt := 62) hx hb dX8_seal_55 (by decide) (fun h55 => ?_) (fun h55 => ?_)
              · skip
                refine lv_aload_n hx hb dX8_seal_62 rfl (lv_at hl 0 rfl) ?_
                refine g_X8_digest Cx hG hH q_fl_X8_51 dX8_seal_63 ?_
                refine lv_bipush (v := 32) hx hb dX8_seal_66 (by decide) ?_
                refine lv_iload_n hx hb dX8_seal_68 rfl (lv_at hl 1 rfl) ?_
                refine lv_imul hx hb dX8_seal_69 ?_
                refine mv_eqi (x' := nI (32 * i)) (pk_mul 32 i) ?_
                refine lv_iload_n hx hb dX8_seal_70 rfl (lv_at hl 3 rfl) ?_
                refine lv_iadd hx hb dX8_seal_71 ?_
                refine mv_eqi (x' := nI (32 * i + j)) (nI_add _ _) ?_
                refine mv_bal Cx hG hH isM_23 (32 * i + j) (rfl) (by omega) dX8_seal_72 ?_
                refine mv_eqi (x' := (mpF S x j).toInt32) (congrArg Int8.toInt32 ((hinv.2 23 _ (by simp only [scM, nX, hX, seM]; omega)).2.1.trans (by rw [hxi]; exact (mpF_s hi).symm))) ?_
                refine mv_callV (Y := mLM) (C := RX8) (k := 0) (i := 0) (rest := []) Cx hG hH hS (c_X8_tell l E A hO S1 _ hinv.1 (mpF S x j).toInt32 (by simp only [List.length_append, List.length_singleton, List.length_cons, List.length_nil, mTk_len, w4_len]; omega)) q_co_X8_tell q_ml_X8_160 q_im_X8_tell q_se_X8_tell q_in_X8 okM_0 rfl rfl hd_X8_tell ⟨Nat.le_of_ble_eq_true rfl, Nat.le_of_ble_eq_true rfl⟩ rfl hl.1 rfl (Nat.le_of_ble_eq_true rfl) ⟨Nat.le_of_ble_eq_true rfl, Nat.le_of_ble_eq_true rfl⟩ dX8_seal_73 (fun S73 H locs hP73 hH hS => ?_)
                refine W.eq (g2 := F0 m 76 ls []) rfl ?_
                refine lv_iinc (v := nI (j + 1)) (lv' := [(3, .int (nI (j + 1))), (0, .ref (mAdM E 0 0)), (1, .int (nI i)), (2, .int (nI ts.length))]) hx hb dX8_seal_76 hl (k := 3) rfl (i2_1 j) (by decide) rfl (fun ls hl => ?_)
                refine lv_goto (tgt := 47) hx hb dX8_seal_79 (by decide) ?_
                exact ih (j + 1) S73 _ _ ls  (by omega) (by omega) (⟨by rw [mTk_succ (mpF S x), ← List.append_assoc]; have h := hP73.1; rwa [Int8.toInt8_toInt32] at h, hinv.2.tr (hP73.2.wk (fun k j h => by simp only [scM, nX, hX, seM] at h ⊢; omega))⟩) hH hS (lv_sub hl [1, 2, 3, 0] rfl)
              · skip
                exact absurd (Int32.not_lt.mp (nI_pos (by omega))) h55
        exact lp (32 - 0 + 1) 0 S42 _ _ ls  (by omega) (by omega) (⟨by rw [show mTk (mpF S x) 0 = [] from rfl, List.append_nil]; exact hP42.1, hs42⟩) hH hS (lv_sub hl [2, 3, 1, 0] rfl)
      · skip
        have hok : ¬ (mpOk (mM S 0 0 1 0) x ∧ ts.length ≤ 128) := fun q => h27 ((nI_leI (b := 128) (by omega) (by decide)).mpr q.2)
        refine lv_iconst (v := (-1 : Int32)) hx hb dX8_seal_30 (by decide) ?_
        exact mv_reti Cx hr hH hS ((if_neg hok).symm) (⟨fun q => absurd q hok, fun _ => rfl⟩) dX8_seal_31 hlocks
