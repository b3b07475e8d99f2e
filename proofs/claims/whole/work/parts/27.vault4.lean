/-! ===== the vault's public methods: sessions ===== -/
theorem se_20 {i : Nat} : seX i 20 i := ⟨Or.inr rfl, rfl⟩
theorem se_19 {i : Nat} : seX i 19 i := ⟨Or.inl rfl, rfl⟩
set_option maxHeartbeats 4000000 in
set_option maxRecDepth 100000 in
theorem c_X7_digest (l : Launch) (E : mEv) (A : Nat → Prop) (hO : mOwn mLC E A) (S : mSt) (x : Int32) : Met l yX7_digest (Cond.code yX7_digest cX7_digest 3 (some .int) :: mv_ws) (mRm 3 85) (mPc mLC E A S [.ref (mAdC E 0 0), .int x]) (mQ mLC E A (fun S' => (seO S x = none → S' = S) ∧ ∀ i, seO S x = some i → bHas S' 1 (mTk (S.2.1 20 i) 32) ∧ mSame (bX 1) S S') (some (.int ((seO S x).elim (-1) (fun _ => 32))))) 0 0 A := by
  refine Met.ofW (cc := cX7_digest) (maxL := 3) (ret := (some .int)) (by decide) rfl ?_
  intro p e s m args below meth c s₁ B hml hv
  obtain ⟨rfl, hG, hH⟩ := hv
  have hx := B.exec
  have hb := B.bytes
  have hr := B.returns
  have hlocks := B.notSynchronized
  have Cx : CallFix p m c cX7_digest 3 s ([.ref (mAdC E 0 0), .int x] : List Value).toArray (Cond.code yX7_digest cX7_digest 3 (some .int) :: mv_ws) RX7 := ⟨hx, hb, hml, findClass_of_methodNamed B.named, atoms_spec (ws := Cond.code yX7_digest cX7_digest 3 (some .int) :: mv_ws) B.pre⟩
  have hS : va_S A s.heap s.heap [] := va_S.rf
  have hl := lv_entry ([.ref (mAdC E 0 0), .int x]) (n := 3) (Nat.le_of_ble_eq_true rfl)
  rw [lg_entry_eq]
  generalize (lg_sl ([.ref (mAdC E 0 0), .int x]) ++ List.replicate (3 - (lg_sl ([.ref (mAdC E 0 0), .int x])).length) Slot.unset).toArray = ls at hl ⊢
  have hl : lv_has ls 3 [(0, .ref (mAdC E 0 0)), (1, .int x)] := hl
  refine lv_aload_n hx hb dX7_digest_0 rfl (lv_at hl 0 rfl) ?_
  refine lv_iload_n hx hb dX7_digest_1 rfl (lv_at hl 1 rfl) ?_
  obtain ⟨oq, hse⟩ : ∃ oq, seO S x = oq := ⟨_, rfl⟩
  rcases oq with _ | i
  · skip
    refine mv_callV (Y := mLC) (C := RX7) (k := 0) (i := 0) (rest := []) Cx hG hH hS (X7_openSession_n l E A hO S x hse) q_co_X7_openSession q_ml_X7_138 q_im_X7_openSession q_se_X7_openSession q_in_X7 okC_0 rfl rfl hd_X7_openSession ⟨Nat.le_of_ble_eq_true rfl, Nat.le_of_ble_eq_true rfl⟩ rfl hl.1 rfl (Nat.le_of_ble_eq_true rfl) ⟨Nat.le_of_ble_eq_true rfl, Nat.le_of_ble_eq_true rfl⟩ dX7_digest_2 (fun S2 H locs hP2 hH hS => ?_)
    refine W.eq (g2 := F0 m 5 ls [.null]) rfl ?_
    have hH := mv_S hP2 hH
    refine lv_astore_nN (lv' := [(2, .null), (0, .ref (mAdC E 0 0)), (1, .int x)]) hx hb dX7_digest_5 rfl hl (by decide) rfl (fun ls hl => ?_)
    refine lv_aload_nN hx hb dX7_digest_6 rfl (lv_at hl 0 rfl) ?_
    refine lv_ifnonnullN hx hb dX7_digest_7 ?_
    refine lv_iconst (v := (-1 : Int32)) hx hb dX7_digest_10 (by decide) ?_
    exact mv_reti Cx hr hH hS (by rw [hse]; rfl) (⟨fun _ => rfl, fun i h => by (rw [hse] at h; cases h)⟩) dX7_digest_11 hlocks
  · skip
    obtain ⟨hxi, hi, hop⟩ := seO_some hse
    refine mv_callV (Y := mLC) (C := RX7) (k := 0) (i := 0) (rest := []) Cx hG hH hS (X7_openSession_s l E A hO S x i hse) q_co_X7_openSession q_ml_X7_138 q_im_X7_openSession q_se_X7_openSession q_in_X7 okC_0 rfl rfl hd_X7_openSession ⟨Nat.le_of_ble_eq_true rfl, Nat.le_of_ble_eq_true rfl⟩ rfl hl.1 rfl (Nat.le_of_ble_eq_true rfl) ⟨Nat.le_of_ble_eq_true rfl, Nat.le_of_ble_eq_true rfl⟩ dX7_digest_2 (fun S2 H locs hP2 hH hS => ?_)
    refine W.eq (g2 := F0 m 5 ls [.ref (mAdC E 19 i)]) rfl ?_
    have hH := mv_S hP2 hH
    refine lv_astore_n (lv' := [(2, .ref (mAdC E 19 i)), (0, .ref (mAdC E 0 0)), (1, .int x)]) hx hb dX7_digest_5 rfl hl (by decide) rfl (fun ls hl => ?_)
    refine lv_aload_n hx hb dX7_digest_6 rfl (lv_at hl 0 rfl) ?_
    refine lv_ifnonnull (tgt := 12) hx hb dX7_digest_7 (by decide) ?_
    refine lv_aload_n hx hb dX7_digest_12 rfl (lv_at hl 1 rfl) ?_
    refine lv_aload_n hx hb dX7_digest_13 rfl (lv_at hl 0 rfl) ?_
    refine g_X4_digest Cx hG hH hi q_fl_X7_146 dX7_digest_14 ?_
    refine lv_bipush (v := 32) hx hb dX7_digest_17 (by decide) ?_
    refine mv_callV (Y := mLC) (C := RX7) (k := 0) (i := 0) (rest := []) Cx hG hH hS (c_X7_tell l E A hO S 20 i 32 32 (isC_20 hi) (by decide) (by decide)) q_co_X7_tell q_ml_X7_103 q_im_X7_tell q_se_X7_tell q_in_X7 okC_0 rfl rfl hd_X7_tell ⟨Nat.le_of_ble_eq_true rfl, Nat.le_of_ble_eq_true rfl⟩ rfl hl.1 rfl (Nat.le_of_ble_eq_true rfl) ⟨Nat.le_of_ble_eq_true rfl, Nat.le_of_ble_eq_true rfl⟩ dX7_digest_19 (fun S19 H locs hP19 hH hS => ?_)
    refine W.eq (g2 := F0 m 22 ls [.int (nI 32)]) rfl ?_
    exact mv_reti Cx hr hH hS (by rw [hse]; rfl) (⟨fun h => by (rw [hse] at h; cases h), fun j h => by (rw [hse] at h; cases h; exact hP19)⟩) dX7_digest_22 hlocks

set_option maxHeartbeats 4000000 in
set_option maxRecDepth 100000 in
theorem c_X7_policyAuth (l : Launch) (E : mEv) (A : Nat → Prop) (hO : mOwn mLC E A) (S : mSt) (x : Int32) : Met l yX7_policyAuth (Cond.code yX7_policyAuth cX7_policyAuth 3 (some .int) :: mv_ws) (mRm 3 86) (mPc mLC E A S [.ref (mAdC E 0 0), .int x]) (mQ mLC E A (fun S' => (seO S x = none → S' = S) ∧ ∀ i, seO S x = some i → (∀ j, j < 32 → S'.2.1 20 i j = shaL (mTk (S.2.1 20 i) 32 ++ [(2 : Int32).toInt8]) j) ∧ S'.1 19 i 2 = 1 ∧ (∀ q, ¬ q = 2 → S'.1 19 i q = S.1 19 i q) ∧ mSame (fun k i' => scX k i' ∨ seX i k i') S S') (some (.int ((seO S x).elim (-1) (fun _ => 0))))) 0 0 A := by
  refine Met.ofW (cc := cX7_policyAuth) (maxL := 3) (ret := (some .int)) (by decide) rfl ?_
  intro p e s m args below meth c s₁ B hml hv
  obtain ⟨rfl, hG, hH⟩ := hv
  have hx := B.exec
  have hb := B.bytes
  have hr := B.returns
  have hlocks := B.notSynchronized
  have Cx : CallFix p m c cX7_policyAuth 3 s ([.ref (mAdC E 0 0), .int x] : List Value).toArray (Cond.code yX7_policyAuth cX7_policyAuth 3 (some .int) :: mv_ws) RX7 := ⟨hx, hb, hml, findClass_of_methodNamed B.named, atoms_spec (ws := Cond.code yX7_policyAuth cX7_policyAuth 3 (some .int) :: mv_ws) B.pre⟩
  have hS : va_S A s.heap s.heap [] := va_S.rf
  have hl := lv_entry ([.ref (mAdC E 0 0), .int x]) (n := 3) (Nat.le_of_ble_eq_true rfl)
  rw [lg_entry_eq]
  generalize (lg_sl ([.ref (mAdC E 0 0), .int x]) ++ List.replicate (3 - (lg_sl ([.ref (mAdC E 0 0), .int x])).length) Slot.unset).toArray = ls at hl ⊢
  have hl : lv_has ls 3 [(0, .ref (mAdC E 0 0)), (1, .int x)] := hl
  refine lv_aload_n hx hb dX7_policyAuth_0 rfl (lv_at hl 0 rfl) ?_
  refine lv_iload_n hx hb dX7_policyAuth_1 rfl (lv_at hl 1 rfl) ?_
  obtain ⟨oq, hse⟩ : ∃ oq, seO S x = oq := ⟨_, rfl⟩
  rcases oq with _ | i
  · skip
    refine mv_callV (Y := mLC) (C := RX7) (k := 0) (i := 0) (rest := []) Cx hG hH hS (X7_openSession_n l E A hO S x hse) q_co_X7_openSession q_ml_X7_138 q_im_X7_openSession q_se_X7_openSession q_in_X7 okC_0 rfl rfl hd_X7_openSession ⟨Nat.le_of_ble_eq_true rfl, Nat.le_of_ble_eq_true rfl⟩ rfl hl.1 rfl (Nat.le_of_ble_eq_true rfl) ⟨Nat.le_of_ble_eq_true rfl, Nat.le_of_ble_eq_true rfl⟩ dX7_policyAuth_2 (fun S2 H locs hP2 hH hS => ?_)
    refine W.eq (g2 := F0 m 5 ls [.null]) rfl ?_
    have hH := mv_S hP2 hH
    refine lv_astore_nN (lv' := [(2, .null), (0, .ref (mAdC E 0 0)), (1, .int x)]) hx hb dX7_policyAuth_5 rfl hl (by decide) rfl (fun ls hl => ?_)
    refine lv_aload_nN hx hb dX7_policyAuth_6 rfl (lv_at hl 0 rfl) ?_
    refine lv_ifnonnullN hx hb dX7_policyAuth_7 ?_
    refine lv_iconst (v := (-1 : Int32)) hx hb dX7_policyAuth_10 (by decide) ?_
    exact mv_reti Cx hr hH hS (by rw [hse]; rfl) (⟨fun _ => rfl, fun i h => by (rw [hse] at h; cases h)⟩) dX7_policyAuth_11 hlocks
  · skip
    obtain ⟨hxi, hi, hop⟩ := seO_some hse
    refine mv_callV (Y := mLC) (C := RX7) (k := 0) (i := 0) (rest := []) Cx hG hH hS (X7_openSession_s l E A hO S x i hse) q_co_X7_openSession q_ml_X7_138 q_im_X7_openSession q_se_X7_openSession q_in_X7 okC_0 rfl rfl hd_X7_openSession ⟨Nat.le_of_ble_eq_true rfl, Nat.le_of_ble_eq_true rfl⟩ rfl hl.1 rfl (Nat.le_of_ble_eq_true rfl) ⟨Nat.le_of_ble_eq_true rfl, Nat.le_of_ble_eq_true rfl⟩ dX7_policyAuth_2 (fun S2 H locs hP2 hH hS => ?_)
    refine W.eq (g2 := F0 m 5 ls [.ref (mAdC E 19 i)]) rfl ?_
    have hH := mv_S hP2 hH
    refine lv_astore_n (lv' := [(2, .ref (mAdC E 19 i)), (0, .ref (mAdC E 0 0)), (1, .int x)]) hx hb dX7_policyAuth_5 rfl hl (by decide) rfl (fun ls hl => ?_)
    refine lv_aload_n hx hb dX7_policyAuth_6 rfl (lv_at hl 0 rfl) ?_
    refine lv_ifnonnull (tgt := 12) hx hb dX7_policyAuth_7 (by decide) ?_
    refine lv_aload_n hx hb dX7_policyAuth_12 rfl (lv_at hl 0 rfl) ?_
    refine lv_aload_n hx hb dX7_policyAuth_13 rfl (lv_at hl 1 rfl) ?_
    refine g_X7_hasher Cx hG hH q_fl_X7_10 dX7_policyAuth_14 ?_
    refine lv_iconst (v := 2) hx hb dX7_policyAuth_17 (by decide) ?_
    refine mv_callV (Y := mLC) (C := RX4) (k := 19) (i := i) (rest := []) Cx hG hH hS (c_X4_startStep l E A hO S i hi 2) q_co_X4_startStep q_ml_X7_142 q_im_X4_startStep q_se_X4_startStep q_in_X4 (okC_19 hi) rfl rfl hd_X4_startStep ⟨Nat.le_of_ble_eq_true rfl, Nat.le_of_ble_eq_true rfl⟩ rfl hl.1 rfl (Nat.le_of_ble_eq_true rfl) ⟨Nat.le_of_ble_eq_true rfl, Nat.le_of_ble_eq_true rfl⟩ dX7_policyAuth_18 (fun S18 H locs hP18 hH hS => ?_)
    refine W.eq (g2 := F0 m 21 ls [.ref (mAdC E 2 2)]) rfl ?_
    refine lv_pop hx hb dX7_policyAuth_21 rfl ?_
    refine lv_aload_n hx hb dX7_policyAuth_22 rfl (lv_at hl 1 rfl) ?_
    refine g_X7_hasher Cx hG hH q_fl_X7_10 dX7_policyAuth_23 ?_
    refine lv_aload_n hx hb dX7_policyAuth_26 rfl (lv_at hl 0 rfl) ?_
    refine g_X4_digest Cx hG hH hi q_fl_X7_146 dX7_policyAuth_27 ?_
    refine mv_callV (Y := mLC) (C := RX1) (k := 1) (i := 0) (rest := []) Cx hG hH hS (c_X1_finish l E A hO S18 20 i (isC_20 hi) _ hP18.1 (by rw [List.length_append, mTk_len]; decide)) q_co_X1_finish q_ml_X7_149 q_im_X1_finish q_se_X1_finish q_in_X1 okC_1 rfl rfl hd_X1_finish ⟨Nat.le_of_ble_eq_true rfl, Nat.le_of_ble_eq_true rfl⟩ rfl hl.1 rfl (Nat.le_of_ble_eq_true rfl) ⟨Nat.le_of_ble_eq_true rfl, Nat.le_of_ble_eq_true rfl⟩ dX7_policyAuth_30 (fun S30 H locs hP30 hH hS => ?_)
    refine W.eq (g2 := F0 m 33 ls []) rfl ?_
    refine lv_aload_n hx hb dX7_policyAuth_33 rfl (lv_at hl 0 rfl) ?_
    refine lv_iconst (v := 1) hx hb dX7_policyAuth_34 (by decide) ?_
    refine p_X4_asksAuth Cx hG hO hH hS hi (by decide) q_fl_X7_158 dX7_policyAuth_35 (fun H locs hH hS => ?_)
    refine lv_iconst (v := 0) hx hb dX7_policyAuth_38 (by decide) ?_
    exact mv_reti Cx hr hH hS (by rw [hse]; rfl) (⟨fun h => by (rw [hse] at h; cases h), fun j h => by (rw [hse] at h; cases h; exact ⟨hP30.1, by simp [mM, m3], fun q hq => by (simp only [mM, m3, hq, and_false, if_false]; exact ((hP30.2 19 i (by simp [hsX, bX])).1 q).trans ((hP18.2 19 i (by simp [bX])).1 q)), ((hP18.2.wk (fun _ _ h => Or.inl (sc_bX h))).tr (hP30.2.wk (fun _ _ h => h.elim (fun z => Or.inl (sc_hs z)) (fun z => Or.inr ⟨Or.inr z.1, z.2⟩)))).tr (mSame.M (Or.inr se_19))⟩)⟩) dX7_policyAuth_39 hlocks

set_option maxHeartbeats 4000000 in
set_option maxRecDepth 100000 in
theorem c_X7_policyTime (l : Launch) (E : mEv) (A : Nat → Prop) (hO : mOwn mLC E A) (S : mSt) (x y : Int32) : Met l yX7_policyTime (Cond.code yX7_policyTime cX7_policyTime 4 (some .int) :: mv_ws) (mRm 3 86) (mPc mLC E A S [.ref (mAdC E 0 0), .int x, .int y]) (mQ mLC E A (fun S' => (seO S x = none → S' = S) ∧ ∀ i, seO S x = some i → (∀ j, j < 32 → S'.2.1 20 i j = shaL (mTk (S.2.1 20 i) 32 ++ [(4 : Int32).toInt8] ++ w4 y) j) ∧ S'.1 19 i 6 = 1 ∧ S'.1 19 i 7 = (if S.1 19 i 6 = 0 then y else if y < S.1 19 i 7 then y else S.1 19 i 7) ∧ (∀ q, ¬ q = 6 → ¬ q = 7 → S'.1 19 i q = S.1 19 i q) ∧ mSame (fun k i' => scX k i' ∨ seX i k i') S S') (some (.int ((seO S x).elim (-1) (fun _ => 0))))) 0 0 A := by
  refine Met.ofW (cc := cX7_policyTime) (maxL := 4) (ret := (some .int)) (by decide) rfl ?_
  intro p e s m args below meth c s₁ B hml hv
  obtain ⟨rfl, hG, hH⟩ := hv
  have hx := B.exec
  have hb := B.bytes
  have hr := B.returns
  have hlocks := B.notSynchronized
  have Cx : CallFix p m c cX7_policyTime 4 s ([.ref (mAdC E 0 0), .int x, .int y] : List Value).toArray (Cond.code yX7_policyTime cX7_policyTime 4 (some .int) :: mv_ws) RX7 := ⟨hx, hb, hml, findClass_of_methodNamed B.named, atoms_spec (ws := Cond.code yX7_policyTime cX7_policyTime 4 (some .int) :: mv_ws) B.pre⟩
  have hS : va_S A s.heap s.heap [] := va_S.rf
  have hl := lv_entry ([.ref (mAdC E 0 0), .int x, .int y]) (n := 4) (Nat.le_of_ble_eq_true rfl)
  rw [lg_entry_eq]
  generalize (lg_sl ([.ref (mAdC E 0 0), .int x, .int y]) ++ List.replicate (4 - (lg_sl ([.ref (mAdC E 0 0), .int x, .int y])).length) Slot.unset).toArray = ls at hl ⊢
  have hl : lv_has ls 4 [(0, .ref (mAdC E 0 0)), (1, .int x), (2, .int y)] := hl
  refine lv_aload_n hx hb dX7_policyTime_0 rfl (lv_at hl 0 rfl) ?_
  refine lv_iload_n hx hb dX7_policyTime_1 rfl (lv_at hl 1 rfl) ?_
  obtain ⟨oq, hse⟩ : ∃ oq, seO S x = oq := ⟨_, rfl⟩
  rcases oq with _ | i
  · skip
    refine mv_callV (Y := mLC) (C := RX7) (k := 0) (i := 0) (rest := []) Cx hG hH hS (X7_openSession_n l E A hO S x hse) q_co_X7_openSession q_ml_X7_138 q_im_X7_openSession q_se_X7_openSession q_in_X7 okC_0 rfl rfl hd_X7_openSession ⟨Nat.le_of_ble_eq_true rfl, Nat.le_of_ble_eq_true rfl⟩ rfl hl.1 rfl (Nat.le_of_ble_eq_true rfl) ⟨Nat.le_of_ble_eq_true rfl, Nat.le_of_ble_eq_true rfl⟩ dX7_policyTime_2 (fun S2 H locs hP2 hH hS => ?_)
    refine W.eq (g2 := F0 m 5 ls [.null]) rfl ?_
    have hH := mv_S hP2 hH
    refine lv_astore_nN (lv' := [(3, .null), (0, .ref (mAdC E 0 0)), (1, .int x), (2, .int y)]) hx hb dX7_policyTime_5 rfl hl (by decide) rfl (fun ls hl => ?_)
    refine lv_aload_nN hx hb dX7_policyTime_6 rfl (lv_at hl 0 rfl) ?_
    refine lv_ifnonnullN hx hb dX7_policyTime_7 ?_
    refine lv_iconst (v := (-1 : Int32)) hx hb dX7_policyTime_10 (by decide) ?_
    exact mv_reti Cx hr hH hS (by rw [hse]; rfl) (⟨fun _ => rfl, fun i h => by (rw [hse] at h; cases h)⟩) dX7_policyTime_11 hlocks
  · skip
    obtain ⟨hxi, hi, hop⟩ := seO_some hse
    refine mv_callV (Y := mLC) (C := RX7) (k := 0) (i := 0) (rest := []) Cx hG hH hS (X7_openSession_s l E A hO S x i hse) q_co_X7_openSession q_ml_X7_138 q_im_X7_openSession q_se_X7_openSession q_in_X7 okC_0 rfl rfl hd_X7_openSession ⟨Nat.le_of_ble_eq_true rfl, Nat.le_of_ble_eq_true rfl⟩ rfl hl.1 rfl (Nat.le_of_ble_eq_true rfl) ⟨Nat.le_of_ble_eq_true rfl, Nat.le_of_ble_eq_true rfl⟩ dX7_policyTime_2 (fun S2 H locs hP2 hH hS => ?_)
    refine W.eq (g2 := F0 m 5 ls [.ref (mAdC E 19 i)]) rfl ?_
    have hH := mv_S hP2 hH
    refine lv_astore_n (lv' := [(3, .ref (mAdC E 19 i)), (0, .ref (mAdC E 0 0)), (1, .int x), (2, .int y)]) hx hb dX7_policyTime_5 rfl hl (by decide) rfl (fun ls hl => ?_)
    refine lv_aload_n hx hb dX7_policyTime_6 rfl (lv_at hl 0 rfl) ?_
    refine lv_ifnonnull (tgt := 12) hx hb dX7_policyTime_7 (by decide) ?_
    refine lv_aload_n hx hb dX7_policyTime_12 rfl (lv_at hl 0 rfl) ?_
    refine lv_aload_n hx hb dX7_policyTime_13 rfl (lv_at hl 1 rfl) ?_
    refine g_X7_hasher Cx hG hH q_fl_X7_10 dX7_policyTime_14 ?_
    refine lv_iconst (v := 4) hx hb dX7_policyTime_17 (by decide) ?_
    refine mv_callV (Y := mLC) (C := RX4) (k := 19) (i := i) (rest := []) Cx hG hH hS (c_X4_startStep l E A hO S i hi 4) q_co_X4_startStep q_ml_X7_142 q_im_X4_startStep q_se_X4_startStep q_in_X4 (okC_19 hi) rfl rfl hd_X4_startStep ⟨Nat.le_of_ble_eq_true rfl, Nat.le_of_ble_eq_true rfl⟩ rfl hl.1 rfl (Nat.le_of_ble_eq_true rfl) ⟨Nat.le_of_ble_eq_true rfl, Nat.le_of_ble_eq_true rfl⟩ dX7_policyTime_18 (fun S18 H locs hP18 hH hS => ?_)
    refine W.eq (g2 := F0 m 21 ls [.ref (mAdC E 2 2)]) rfl ?_
    refine lv_iload_n hx hb dX7_policyTime_21 rfl (lv_at hl 3 rfl) ?_
    refine mv_callV (Y := mLC) (C := RX0) (k := 2) (i := 2) (rest := []) Cx hG hH hS (c_X0_putInt l E A hO S18 2 (by decide) _ hP18.1 y (by rw [List.length_append, mTk_len]; decide)) q_co_X0_putInt q_ml_X7_86 q_im_X0_putInt q_se_X0_putInt q_in_X0 (okC_2 (by decide)) rfl rfl hd_X0_putInt ⟨Nat.le_of_ble_eq_true rfl, Nat.le_of_ble_eq_true rfl⟩ rfl hl.1 rfl (Nat.le_of_ble_eq_true rfl) ⟨Nat.le_of_ble_eq_true rfl, Nat.le_of_ble_eq_true rfl⟩ dX7_policyTime_22 (fun S22 H locs hP22 hH hS => ?_)
    refine W.eq (g2 := F0 m 25 ls []) rfl ?_
    refine lv_aload_n hx hb dX7_policyTime_25 rfl (lv_at hl 1 rfl) ?_
    refine g_X7_hasher Cx hG hH q_fl_X7_10 dX7_policyTime_26 ?_
    refine lv_aload_n hx hb dX7_policyTime_29 rfl (lv_at hl 0 rfl) ?_
    refine g_X4_digest Cx hG hH hi q_fl_X7_146 dX7_policyTime_30 ?_
    refine mv_callV (Y := mLC) (C := RX1) (k := 1) (i := 0) (rest := []) Cx hG hH hS (c_X1_finish l E A hO S22 20 i (isC_20 hi) _ hP22.1 (by rw [List.length_append, List.length_append, mTk_len, w4_len]; decide)) q_co_X1_finish q_ml_X7_149 q_im_X1_finish q_se_X1_finish q_in_X1 okC_1 rfl rfl hd_X1_finish ⟨Nat.le_of_ble_eq_true rfl, Nat.le_of_ble_eq_true rfl⟩ rfl hl.1 rfl (Nat.le_of_ble_eq_true rfl) ⟨Nat.le_of_ble_eq_true rfl, Nat.le_of_ble_eq_true rfl⟩ dX7_policyTime_33 (fun S33 H locs hP33 hH hS => ?_)
    refine W.eq (g2 := F0 m 36 ls []) rfl ?_
    refine lv_aload_n hx hb dX7_policyTime_36 rfl (lv_at hl 0 rfl) ?_
    refine lv_iload_n hx hb dX7_policyTime_37 rfl (lv_at hl 3 rfl) ?_
    refine mv_callV (Y := mLC) (C := RX4) (k := 19) (i := i) (rest := []) Cx hG hH hS (c_X4_bindTime l E A hO S33 i hi y) q_co_X4_bindTime q_ml_X7_165 q_im_X4_bindTime q_se_X4_bindTime q_in_X4 (okC_19 hi) rfl rfl hd_X4_bindTime ⟨Nat.le_of_ble_eq_true rfl, Nat.le_of_ble_eq_true rfl⟩ rfl hl.1 rfl (Nat.le_of_ble_eq_true rfl) ⟨Nat.le_of_ble_eq_true rfl, Nat.le_of_ble_eq_true rfl⟩ dX7_policyTime_38 (fun S38 H locs hP38 hH hS => ?_)
    refine W.eq (g2 := F0 m 41 ls []) rfl ?_
    have f33 : ∀ q, S33.1 19 i q = S.1 19 i q := fun q => ((hP33.2 19 i (by simp [hsX, bX])).1 q).trans (((hP22.2 19 i (by simp [bX])).1 q).trans ((hP18.2 19 i (by simp [bX])).1 q))
    have hd38 : ∀ j, j < 32 → S38.2.1 20 i j = shaL (mTk (S.2.1 20 i) 32 ++ [(4 : Int32).toInt8] ++ w4 y) j := fun j hj => by rw [hP38]; exact hP33.1 j hj
    have s38 : mSame (fun k i' => scX k i' ∨ seX i k i') S S38 := by rw [hP38]; exact ((((hP18.2.wk (fun _ _ h => Or.inl (sc_bX h))).tr (hP22.2.wk (fun _ _ h => Or.inl (sc_bX h)))).tr (hP33.2.wk (fun _ _ h => h.elim (fun z => Or.inl (sc_hs z)) (fun z => Or.inr ⟨Or.inr z.1, z.2⟩)))).tr (mSame.M (Or.inr se_19))).tr (mSame.M (Or.inr se_19))
    have h6 : S38.1 19 i 6 = 1 := by rw [hP38]; simp [mM, m3]
    have h7 : S38.1 19 i 7 = (if S.1 19 i 6 = 0 then y else if y < S.1 19 i 7 then y else S.1 19 i 7) := by rw [hP38, f33 6, f33 7]; simp [mM, m3]
    have hq : ∀ q, ¬ q = 6 → ¬ q = 7 → S38.1 19 i q = S.1 19 i q := fun q h1 h2 => by rw [hP38]; simp only [mM, m3, h1, h2, and_false, if_false]; exact f33 q
    refine lv_iconst (v := 0) hx hb dX7_policyTime_41 (by decide) ?_
    exact mv_reti Cx hr hH hS (by rw [hse]; rfl) (⟨fun h => by (rw [hse] at h; cases h), fun j h => by (rw [hse] at h; cases h; exact ⟨hd38, h6, h7, hq, s38⟩)⟩) dX7_policyTime_42 hlocks

set_option maxHeartbeats 4000000 in
set_option maxRecDepth 100000 in
theorem c_X7_policyCode (l : Launch) (E : mEv) (A : Nat → Prop) (hO : mOwn mLC E A) (S : mSt) (x y : Int32) : Met l yX7_policyCode (Cond.code yX7_policyCode cX7_policyCode 4 (some .int) :: mv_ws) (mRm 3 86) (mPc mLC E A S [.ref (mAdC E 0 0), .int x, .int y]) (mQ mLC E A (fun S' => (seO S x = none → S' = S) ∧ ∀ i, seO S x = some i → ((S.1 19 i 3 = 0 ∧ ¬ y < 1 ∧ y ≤ 6) → (∀ j, j < 32 → S'.2.1 20 i j = shaL (mTk (S.2.1 20 i) 32 ++ [(3 : Int32).toInt8] ++ [y.toInt8]) j) ∧ S'.1 19 i 3 = y ∧ (∀ q, ¬ q = 3 → S'.1 19 i q = S.1 19 i q) ∧ mSame (fun k i' => scX k i' ∨ seX i k i') S S') ∧ (¬ (S.1 19 i 3 = 0 ∧ ¬ y < 1 ∧ y ≤ 6) → S' = S)) (some (.int ((seO S x).elim (-1) (fun i => if (S.1 19 i 3 = 0 ∧ ¬ y < 1 ∧ y ≤ 6) then 0 else -1))))) 0 0 A := by
  refine Met.ofW (cc := cX7_policyCode) (maxL := 4) (ret := (some .int)) (by decide) rfl ?_
  intro p e s m args below meth c s₁ B hml hv
  obtain ⟨rfl, hG, hH⟩ := hv
  have hx := B.exec
  have hb := B.bytes
  have hr := B.returns
  have hlocks := B.notSynchronized
  have Cx : CallFix p m c cX7_policyCode 4 s ([.ref (mAdC E 0 0), .int x, .int y] : List Value).toArray (Cond.code yX7_policyCode cX7_policyCode 4 (some .int) :: mv_ws) RX7 := ⟨hx, hb, hml, findClass_of_methodNamed B.named, atoms_spec (ws := Cond.code yX7_policyCode cX7_policyCode 4 (some .int) :: mv_ws) B.pre⟩
  have hS : va_S A s.heap s.heap [] := va_S.rf
  have hl := lv_entry ([.ref (mAdC E 0 0), .int x, .int y]) (n := 4) (Nat.le_of_ble_eq_true rfl)
  rw [lg_entry_eq]
  generalize (lg_sl ([.ref (mAdC E 0 0), .int x, .int y]) ++ List.replicate (4 - (lg_sl ([.ref (mAdC E 0 0), .int x, .int y])).length) Slot.unset).toArray = ls at hl ⊢
  have hl : lv_has ls 4 [(0, .ref (mAdC E 0 0)), (1, .int x), (2, .int y)] := hl
  refine lv_aload_n hx hb dX7_policyCode_0 rfl (lv_at hl 0 rfl) ?_
  refine lv_iload_n hx hb dX7_policyCode_1 rfl (lv_at hl 1 rfl) ?_
  obtain ⟨oq, hse⟩ : ∃ oq, seO S x = oq := ⟨_, rfl⟩
  rcases oq with _ | i
  · skip
    refine mv_callV (Y := mLC) (C := RX7) (k := 0) (i := 0) (rest := []) Cx hG hH hS (X7_openSession_n l E A hO S x hse) q_co_X7_openSession q_ml_X7_138 q_im_X7_openSession q_se_X7_openSession q_in_X7 okC_0 rfl rfl hd_X7_openSession ⟨Nat.le_of_ble_eq_true rfl, Nat.le_of_ble_eq_true rfl⟩ rfl hl.1 rfl (Nat.le_of_ble_eq_true rfl) ⟨Nat.le_of_ble_eq_true rfl, Nat.le_of_ble_eq_true rfl⟩ dX7_policyCode_2 (fun S2 H locs hP2 hH hS => ?_)
    refine W.eq (g2 := F0 m 5 ls [.null]) rfl ?_
    have hH := mv_S hP2 hH
    refine lv_astore_nN (lv' := [(3, .null), (0, .ref (mAdC E 0 0)), (1, .int x), (2, .int y)]) hx hb dX7_policyCode_5 rfl hl (by decide) rfl (fun ls hl => ?_)
    refine lv_aload_nN hx hb dX7_policyCode_6 rfl (lv_at hl 0 rfl) ?_
    refine lv_ifnullN (tgt := 28) hx hb dX7_policyCode_7 (by decide) ?_
    refine lv_iconst (v := (-1 : Int32)) hx hb dX7_policyCode_28 (by decide) ?_
    exact mv_reti Cx hr hH hS (by rw [hse]; rfl) (⟨fun _ => rfl, fun i h => by (rw [hse] at h; cases h)⟩) dX7_policyCode_29 hlocks
  · skip
    obtain ⟨hxi, hi, hop⟩ := seO_some hse
    refine mv_callV (Y := mLC) (C := RX7) (k := 0) (i := 0) (rest := []) Cx hG hH hS (X7_openSession_s l E A hO S x i hse) q_co_X7_openSession q_ml_X7_138 q_im_X7_openSession q_se_X7_openSession q_in_X7 okC_0 rfl rfl hd_X7_openSession ⟨Nat.le_of_ble_eq_true rfl, Nat.le_of_ble_eq_true rfl⟩ rfl hl.1 rfl (Nat.le_of_ble_eq_true rfl) ⟨Nat.le_of_ble_eq_true rfl, Nat.le_of_ble_eq_true rfl⟩ dX7_policyCode_2 (fun S2 H locs hP2 hH hS => ?_)
    refine W.eq (g2 := F0 m 5 ls [.ref (mAdC E 19 i)]) rfl ?_
    have hH := mv_S hP2 hH
    refine lv_astore_n (lv' := [(3, .ref (mAdC E 19 i)), (0, .ref (mAdC E 0 0)), (1, .int x), (2, .int y)]) hx hb dX7_policyCode_5 rfl hl (by decide) rfl (fun ls hl => ?_)
    refine lv_aload_n hx hb dX7_policyCode_6 rfl (lv_at hl 0 rfl) ?_
    refine lv_ifnull hx hb dX7_policyCode_7 ?_
    refine lv_aload_n hx hb dX7_policyCode_10 rfl (lv_at hl 0 rfl) ?_
    refine g_X4_code Cx hG hH hi q_fl_X7_162 dX7_policyCode_11 ?_
    refine lv_if_ne (tgt := 28) hx hb dX7_policyCode_14 (by decide) (fun h14 => ?_) (fun h14 => ?_)
    · skip
      refine lv_iconst (v := (-1 : Int32)) hx hb dX7_policyCode_28 (by decide) ?_
      exact mv_reti Cx hr hH hS (by rw [hse]; exact (if_neg (fun z => h14 z.1)).symm) (⟨fun _ => rfl, fun j h => by (rw [hse] at h; cases h; exact ⟨fun z => absurd z (fun z => h14 z.1), fun _ => rfl⟩)⟩) dX7_policyCode_29 hlocks
    · skip
      refine lv_iload_n hx hb dX7_policyCode_17 rfl (lv_at hl 3 rfl) ?_
      refine lv_iconst (v := 1) hx hb dX7_policyCode_18 (by decide) ?_
      refine lv_icmp_lt (tgt := 28) hx hb dX7_policyCode_19 (by decide) (fun h19 => ?_) (fun h19 => ?_)
      · skip
        refine lv_iconst (v := (-1 : Int32)) hx hb dX7_policyCode_28 (by decide) ?_
        exact mv_reti Cx hr hH hS (by rw [hse]; exact (if_neg (fun z => z.2.1 h19)).symm) (⟨fun _ => rfl, fun j h => by (rw [hse] at h; cases h; exact ⟨fun z => absurd z (fun z => z.2.1 h19), fun _ => rfl⟩)⟩) dX7_policyCode_29 hlocks
      · skip
        refine lv_iload_n hx hb dX7_policyCode_22 rfl (lv_at hl 3 rfl) ?_
        refine lv_bipush (v := 6) hx hb dX7_policyCode_23 (by decide) ?_
        refine lv_icmp_le (tgt := 30) hx hb dX7_policyCode_25 (by decide) (fun h25 => ?_) (fun h25 => ?_)
        · skip
          refine lv_aload_n hx hb dX7_policyCode_30 rfl (lv_at hl 0 rfl) ?_
          refine lv_aload_n hx hb dX7_policyCode_31 rfl (lv_at hl 1 rfl) ?_
          refine g_X7_hasher Cx hG hH q_fl_X7_10 dX7_policyCode_32 ?_
          refine lv_iconst (v := 3) hx hb dX7_policyCode_35 (by decide) ?_
          refine mv_callV (Y := mLC) (C := RX4) (k := 19) (i := i) (rest := []) Cx hG hH hS (c_X4_startStep l E A hO S i hi 3) q_co_X4_startStep q_ml_X7_142 q_im_X4_startStep q_se_X4_startStep q_in_X4 (okC_19 hi) rfl rfl hd_X4_startStep ⟨Nat.le_of_ble_eq_true rfl, Nat.le_of_ble_eq_true rfl⟩ rfl hl.1 rfl (Nat.le_of_ble_eq_true rfl) ⟨Nat.le_of_ble_eq_true rfl, Nat.le_of_ble_eq_true rfl⟩ dX7_policyCode_36 (fun S36 H locs hP36 hH hS => ?_)
          refine W.eq (g2 := F0 m 39 ls [.ref (mAdC E 2 2)]) rfl ?_
          refine lv_iload_n hx hb dX7_policyCode_39 rfl (lv_at hl 3 rfl) ?_
          refine mv_callV (Y := mLC) (C := RX0) (k := 2) (i := 2) (rest := []) Cx hG hH hS (c_X0_put l E A hO S36 2 (by decide) _ hP36.1 y (by rw [List.length_append, mTk_len]; decide)) q_co_X0_put q_ml_X7_122 q_im_X0_put q_se_X0_put q_in_X0 (okC_2 (by decide)) rfl rfl hd_X0_put ⟨Nat.le_of_ble_eq_true rfl, Nat.le_of_ble_eq_true rfl⟩ rfl hl.1 rfl (Nat.le_of_ble_eq_true rfl) ⟨Nat.le_of_ble_eq_true rfl, Nat.le_of_ble_eq_true rfl⟩ dX7_policyCode_40 (fun S40 H locs hP40 hH hS => ?_)
          refine W.eq (g2 := F0 m 43 ls []) rfl ?_
          refine lv_aload_n hx hb dX7_policyCode_43 rfl (lv_at hl 1 rfl) ?_
          refine g_X7_hasher Cx hG hH q_fl_X7_10 dX7_policyCode_44 ?_
          refine lv_aload_n hx hb dX7_policyCode_47 rfl (lv_at hl 0 rfl) ?_
          refine g_X4_digest Cx hG hH hi q_fl_X7_146 dX7_policyCode_48 ?_
          refine mv_callV (Y := mLC) (C := RX1) (k := 1) (i := 0) (rest := []) Cx hG hH hS (c_X1_finish l E A hO S40 20 i (isC_20 hi) _ hP40.1 (by rw [List.length_append, List.length_append, mTk_len]; exact Nat.le_of_ble_eq_true rfl)) q_co_X1_finish q_ml_X7_149 q_im_X1_finish q_se_X1_finish q_in_X1 okC_1 rfl rfl hd_X1_finish ⟨Nat.le_of_ble_eq_true rfl, Nat.le_of_ble_eq_true rfl⟩ rfl hl.1 rfl (Nat.le_of_ble_eq_true rfl) ⟨Nat.le_of_ble_eq_true rfl, Nat.le_of_ble_eq_true rfl⟩ dX7_policyCode_51 (fun S51 H locs hP51 hH hS => ?_)
          refine W.eq (g2 := F0 m 54 ls []) rfl ?_
          refine lv_aload_n hx hb dX7_policyCode_54 rfl (lv_at hl 0 rfl) ?_
          refine lv_iload_n hx hb dX7_policyCode_55 rfl (lv_at hl 3 rfl) ?_
          refine p_X4_code Cx hG hO hH hS hi q_fl_X7_162 dX7_policyCode_56 (fun H locs hH hS => ?_)
          refine lv_iconst (v := 0) hx hb dX7_policyCode_59 (by decide) ?_
          exact mv_reti Cx hr hH hS (by rw [hse]; exact (if_pos ⟨h14, h19, h25⟩).symm) (⟨fun h => by (rw [hse] at h; cases h), fun j h => by (rw [hse] at h; cases h; exact ⟨fun _ => ⟨hP51.1, by simp [mM, m3], fun q hq => by (simp only [mM, m3, hq, and_false, if_false]; exact ((hP51.2 19 i (by simp [hsX, bX])).1 q).trans (((hP40.2 19 i (by simp [bX])).1 q).trans ((hP36.2 19 i (by simp [bX])).1 q))), (((hP36.2.wk (fun _ _ h => Or.inl (sc_bX h))).tr (hP40.2.wk (fun _ _ h => Or.inl (sc_bX h)))).tr (hP51.2.wk (fun _ _ h => h.elim (fun z => Or.inl (sc_hs z)) (fun z => Or.inr ⟨Or.inr z.1, z.2⟩)))).tr (mSame.M (Or.inr se_19))⟩, fun z => absurd ⟨h14, h19, h25⟩ z⟩)⟩) dX7_policyCode_60 hlocks
        · skip
          refine lv_iconst (v := (-1 : Int32)) hx hb dX7_policyCode_28 (by decide) ?_
          exact mv_reti Cx hr hH hS (by rw [hse]; exact (if_neg (fun z => h25 z.2.2)).symm) (⟨fun _ => rfl, fun j h => by (rw [hse] at h; cases h; exact ⟨fun z => absurd z (fun z => h25 z.2.2), fun _ => rfl⟩)⟩) dX7_policyCode_29 hlocks

set_option maxHeartbeats 4000000 in
set_option maxRecDepth 100000 in
theorem c_X7_policyState (l : Launch) (E : mEv) (A : Nat → Prop) (hO : mOwn mLC E A) (S : mSt) (x y : Int32) : Met l yX7_policyState (Cond.code yX7_policyState cX7_policyState 5 (some .int) :: mv_ws) (mRm 4 94) (mPc mLC E A S [.ref (mAdC E 0 0), .int x, .int y]) (mQ mLC E A (fun S' => (seO S x = none → S' = S) ∧ ∀ i, seO S x = some i → (∀ j, j < 32 → S'.2.1 20 i j = shaL (mTk (S.2.1 20 i) 32 ++ [(1 : Int32).toInt8] ++ [y.toInt8] ++ mTk (shaL (regL (S.2.1 16 0) y 8)) 32) j) ∧ (∀ q, S'.1 19 i q = (if S.1 19 i 4 = 0 then (if q = 4 then 1 else if q = 5 then S.1 15 0 2 else S.1 19 i q) else S.1 19 i q)) ∧ mSame (fun k i' => scX k i' ∨ seX i k i') S S') (some (.int ((seO S x).elim (-1) (fun _ => 0))))) 0 0 A := by
  refine Met.ofW (cc := cX7_policyState) (maxL := 5) (ret := (some .int)) (by decide) rfl ?_
  intro p e s m args below meth c s₁ B hml hv
  obtain ⟨rfl, hG, hH⟩ := hv
  have hx := B.exec
  have hb := B.bytes
  have hr := B.returns
  have hlocks := B.notSynchronized
  have Cx : CallFix p m c cX7_policyState 5 s ([.ref (mAdC E 0 0), .int x, .int y] : List Value).toArray (Cond.code yX7_policyState cX7_policyState 5 (some .int) :: mv_ws) RX7 := ⟨hx, hb, hml, findClass_of_methodNamed B.named, atoms_spec (ws := Cond.code yX7_policyState cX7_policyState 5 (some .int) :: mv_ws) B.pre⟩
  have hS : va_S A s.heap s.heap [] := va_S.rf
  have hl := lv_entry ([.ref (mAdC E 0 0), .int x, .int y]) (n := 5) (Nat.le_of_ble_eq_true rfl)
  rw [lg_entry_eq]
  generalize (lg_sl ([.ref (mAdC E 0 0), .int x, .int y]) ++ List.replicate (5 - (lg_sl ([.ref (mAdC E 0 0), .int x, .int y])).length) Slot.unset).toArray = ls at hl ⊢
  have hl : lv_has ls 5 [(0, .ref (mAdC E 0 0)), (1, .int x), (2, .int y)] := hl
  refine lv_aload_n hx hb dX7_policyState_0 rfl (lv_at hl 0 rfl) ?_
  refine lv_iload_n hx hb dX7_policyState_1 rfl (lv_at hl 1 rfl) ?_
  obtain ⟨oq, hse⟩ : ∃ oq, seO S x = oq := ⟨_, rfl⟩
  rcases oq with _ | i
  · skip
    refine mv_callV (Y := mLC) (C := RX7) (k := 0) (i := 0) (rest := []) Cx hG hH hS (X7_openSession_n l E A hO S x hse) q_co_X7_openSession q_ml_X7_138 q_im_X7_openSession q_se_X7_openSession q_in_X7 okC_0 rfl rfl hd_X7_openSession ⟨Nat.le_of_ble_eq_true rfl, Nat.le_of_ble_eq_true rfl⟩ rfl hl.1 rfl (Nat.le_of_ble_eq_true rfl) ⟨Nat.le_of_ble_eq_true rfl, Nat.le_of_ble_eq_true rfl⟩ dX7_policyState_2 (fun S2 H locs hP2 hH hS => ?_)
    refine W.eq (g2 := F0 m 5 ls [.null]) rfl ?_
    have hH := mv_S hP2 hH
    refine lv_astore_nN (lv' := [(3, .null), (0, .ref (mAdC E 0 0)), (1, .int x), (2, .int y)]) hx hb dX7_policyState_5 rfl hl (by decide) rfl (fun ls hl => ?_)
    refine lv_aload_nN hx hb dX7_policyState_6 rfl (lv_at hl 0 rfl) ?_
    refine lv_ifnonnullN hx hb dX7_policyState_7 ?_
    refine lv_iconst (v := (-1 : Int32)) hx hb dX7_policyState_10 (by decide) ?_
    exact mv_reti Cx hr hH hS (by rw [hse]; rfl) (⟨fun _ => rfl, fun i h => by (rw [hse] at h; cases h)⟩) dX7_policyState_11 hlocks
  · skip
    obtain ⟨hxi, hi, hop⟩ := seO_some hse
    refine mv_callV (Y := mLC) (C := RX7) (k := 0) (i := 0) (rest := []) Cx hG hH hS (X7_openSession_s l E A hO S x i hse) q_co_X7_openSession q_ml_X7_138 q_im_X7_openSession q_se_X7_openSession q_in_X7 okC_0 rfl rfl hd_X7_openSession ⟨Nat.le_of_ble_eq_true rfl, Nat.le_of_ble_eq_true rfl⟩ rfl hl.1 rfl (Nat.le_of_ble_eq_true rfl) ⟨Nat.le_of_ble_eq_true rfl, Nat.le_of_ble_eq_true rfl⟩ dX7_policyState_2 (fun S2 H locs hP2 hH hS => ?_)
    refine W.eq (g2 := F0 m 5 ls [.ref (mAdC E 19 i)]) rfl ?_
    have hH := mv_S hP2 hH
    refine lv_astore_n (lv' := [(3, .ref (mAdC E 19 i)), (0, .ref (mAdC E 0 0)), (1, .int x), (2, .int y)]) hx hb dX7_policyState_5 rfl hl (by decide) rfl (fun ls hl => ?_)
    refine lv_aload_n hx hb dX7_policyState_6 rfl (lv_at hl 0 rfl) ?_
    refine lv_ifnonnull (tgt := 12) hx hb dX7_policyState_7 (by decide) ?_
    refine lv_aload_n hx hb dX7_policyState_12 rfl (lv_at hl 1 rfl) ?_
    refine g_X7_registers Cx hG hH q_fl_X7_53 dX7_policyState_13 ?_
    refine lv_iload_n hx hb dX7_policyState_16 rfl (lv_at hl 3 rfl) ?_
    refine lv_aload_n hx hb dX7_policyState_17 rfl (lv_at hl 1 rfl) ?_
    refine g_X7_hasher Cx hG hH q_fl_X7_10 dX7_policyState_18 ?_
    refine lv_aload_n hx hb dX7_policyState_21 rfl (lv_at hl 1 rfl) ?_
    refine g_X7_scratch Cx hG hH q_fl_X7_47 dX7_policyState_22 ?_
    refine mv_callV (Y := mLC) (C := RX2) (k := 15) (i := 0) (rest := []) Cx hG hH hS (c_X2_measure l E A hO S y 14 0 isC_14) q_co_X2_measure q_ml_X7_118 q_im_X2_measure q_se_X2_measure q_in_X2 okC_15 rfl rfl hd_X2_measure ⟨Nat.le_of_ble_eq_true rfl, Nat.le_of_ble_eq_true rfl⟩ rfl hl.1 rfl (Nat.le_of_ble_eq_true rfl) ⟨Nat.le_of_ble_eq_true rfl, Nat.le_of_ble_eq_true rfl⟩ dX7_policyState_25 (fun S25 H locs hP25 hH hS => ?_)
    refine W.eq (g2 := F0 m 28 ls []) rfl ?_
    refine lv_aload_n hx hb dX7_policyState_28 rfl (lv_at hl 0 rfl) ?_
    refine lv_aload_n hx hb dX7_policyState_29 rfl (lv_at hl 1 rfl) ?_
    refine g_X7_hasher Cx hG hH q_fl_X7_10 dX7_policyState_30 ?_
    refine lv_iconst (v := 1) hx hb dX7_policyState_33 (by decide) ?_
    refine mv_callV (Y := mLC) (C := RX4) (k := 19) (i := i) (rest := []) Cx hG hH hS (c_X4_startStep l E A hO S25 i hi 1) q_co_X4_startStep q_ml_X7_142 q_im_X4_startStep q_se_X4_startStep q_in_X4 (okC_19 hi) rfl rfl hd_X4_startStep ⟨Nat.le_of_ble_eq_true rfl, Nat.le_of_ble_eq_true rfl⟩ rfl hl.1 rfl (Nat.le_of_ble_eq_true rfl) ⟨Nat.le_of_ble_eq_true rfl, Nat.le_of_ble_eq_true rfl⟩ dX7_policyState_34 (fun S34 H locs hP34 hH hS => ?_)
    refine W.eq (g2 := F0 m 37 ls [.ref (mAdC E 2 2)]) rfl ?_
    refine lv_astore (lv' := [(4, .ref (mAdC E 2 2)), (3, .ref (mAdC E 19 i)), (0, .ref (mAdC E 0 0)), (1, .int x), (2, .int y)]) hx hb dX7_policyState_37 hl (by decide) rfl (fun ls hl => ?_)
    refine lv_aload hx hb dX7_policyState_39 (lv_at hl 0 rfl) ?_
    refine lv_iload_n hx hb dX7_policyState_41 rfl (lv_at hl 4 rfl) ?_
    refine mv_callV (Y := mLC) (C := RX0) (k := 2) (i := 2) (rest := []) Cx hG hH hS (c_X0_put l E A hO S34 2 (by decide) _ hP34.1 y (by rw [List.length_append, mTk_len]; decide)) q_co_X0_put q_ml_X7_122 q_im_X0_put q_se_X0_put q_in_X0 (okC_2 (by decide)) rfl rfl hd_X0_put ⟨Nat.le_of_ble_eq_true rfl, Nat.le_of_ble_eq_true rfl⟩ rfl hl.1 rfl (Nat.le_of_ble_eq_true rfl) ⟨Nat.le_of_ble_eq_true rfl, Nat.le_of_ble_eq_true rfl⟩ dX7_policyState_42 (fun S42 H locs hP42 hH hS => ?_)
    refine W.eq (g2 := F0 m 45 ls []) rfl ?_
    refine lv_aload hx hb dX7_policyState_45 (lv_at hl 0 rfl) ?_
    refine lv_aload_n hx hb dX7_policyState_47 rfl (lv_at hl 2 rfl) ?_
    refine g_X7_scratch Cx hG hH q_fl_X7_47 dX7_policyState_48 ?_
    refine lv_bipush (v := 32) hx hb dX7_policyState_51 (by decide) ?_
    refine mv_callV (Y := mLC) (C := RX0) (k := 2) (i := 2) (rest := []) Cx hG hH hS (c_X0_putAll l E A hO S42 2 (by decide) _ hP42.1 14 0 32 32 isC_14 (by decide) (by rw [List.length_append, List.length_append, mTk_len]; exact Nat.le_of_ble_eq_true rfl)) q_co_X0_putAll q_ml_X7_96 q_im_X0_putAll q_se_X0_putAll q_in_X0 (okC_2 (by decide)) rfl rfl hd_X0_putAll ⟨Nat.le_of_ble_eq_true rfl, Nat.le_of_ble_eq_true rfl⟩ rfl hl.1 rfl (Nat.le_of_ble_eq_true rfl) ⟨Nat.le_of_ble_eq_true rfl, Nat.le_of_ble_eq_true rfl⟩ dX7_policyState_53 (fun S53 H locs hP53 hH hS => ?_)
    refine W.eq (g2 := F0 m 56 ls []) rfl ?_
    refine lv_aload_n hx hb dX7_policyState_56 rfl (lv_at hl 2 rfl) ?_
    refine g_X7_hasher Cx hG hH q_fl_X7_10 dX7_policyState_57 ?_
    refine lv_aload_n hx hb dX7_policyState_60 rfl (lv_at hl 1 rfl) ?_
    refine g_X4_digest Cx hG hH hi q_fl_X7_146 dX7_policyState_61 ?_
    refine mv_callV (Y := mLC) (C := RX1) (k := 1) (i := 0) (rest := []) Cx hG hH hS (c_X1_finish l E A hO S53 20 i (isC_20 hi) _ hP53.1 (by rw [List.length_append, List.length_append, List.length_append, mTk_len, mTk_len]; exact Nat.le_of_ble_eq_true rfl)) q_co_X1_finish q_ml_X7_149 q_im_X1_finish q_se_X1_finish q_in_X1 okC_1 rfl rfl hd_X1_finish ⟨Nat.le_of_ble_eq_true rfl, Nat.le_of_ble_eq_true rfl⟩ rfl hl.1 rfl (Nat.le_of_ble_eq_true rfl) ⟨Nat.le_of_ble_eq_true rfl, Nat.le_of_ble_eq_true rfl⟩ dX7_policyState_64 (fun S64 H locs hP64 hH hS => ?_)
    refine W.eq (g2 := F0 m 67 ls []) rfl ?_
    have s25 : mSame scX S S25 := hP25.2.wk (fun k i h => h.elim (fun z => z) (fun z => by rw [z.1]; exact sc_14))
    have s64 : mSame (fun k i' => scX k i' ∨ (k = 20 ∧ i' = i)) S S64 := ((((s25.wk (fun _ _ h => Or.inl h)).tr (hP34.2.wk (fun _ _ h => Or.inl (sc_bX h)))).tr (hP42.2.wk (fun _ _ h => Or.inl (sc_bX h)))).tr (hP53.2.wk (fun _ _ h => Or.inl (sc_bX h)))).tr (hP64.2.wk (fun _ _ h => h.elim (fun z => Or.inl (sc_hs z)) Or.inr))
    have f64 : ∀ q, S64.1 19 i q = S.1 19 i q := fun q => (s64 19 i (by simp [scX, hsX, bX])).1 q
    have hd64 : ∀ j, j < 32 → S64.2.1 20 i j = shaL (mTk (S.2.1 20 i) 32 ++ [(1 : Int32).toInt8] ++ [y.toInt8] ++ mTk (shaL (regL (S.2.1 16 0) y 8)) 32) j := fun j hj => (hP64.1 j hj).trans (by rw [mTk_congr (g := S.2.1 20 i) (fun q _ => (s25 20 i (by simp [scX, hsX, bX])).2.1 q), mTk_congr (g := shaL (regL (S.2.1 16 0) y 8)) (fun q hq => ((hP42.2 14 0 (by simp [bX])).2.1 q).trans (((hP34.2 14 0 (by simp [bX])).2.1 q).trans (hP25.1 q hq)))])
    refine lv_aload_n hx hb dX7_policyState_67 rfl (lv_at hl 1 rfl) ?_
    refine lv_aload_n hx hb dX7_policyState_68 rfl (lv_at hl 2 rfl) ?_
    refine g_X7_registers Cx hG hH q_fl_X7_53 dX7_policyState_69 ?_
    refine g_X2_changes Cx hG hH q_fl_X7_152 dX7_policyState_72 ?_
    refine mv_eqi (x' := S.1 15 0 2) ((s64 15 0 (by simp [scX, hsX, bX])).1 2) ?_
    refine mv_callV (Y := mLC) (C := RX4) (k := 19) (i := i) (rest := []) Cx hG hH hS (c_X4_bindRegisters l E A hO S64 i hi (S.1 15 0 2)) q_co_X4_bindRegisters q_ml_X7_155 q_im_X4_bindRegisters q_se_X4_bindRegisters q_in_X4 (okC_19 hi) rfl rfl hd_X4_bindRegisters ⟨Nat.le_of_ble_eq_true rfl, Nat.le_of_ble_eq_true rfl⟩ rfl hl.1 rfl (Nat.le_of_ble_eq_true rfl) ⟨Nat.le_of_ble_eq_true rfl, Nat.le_of_ble_eq_true rfl⟩ dX7_policyState_75 (fun S75 H locs hP75 hH hS => ?_)
    refine W.eq (g2 := F0 m 78 ls []) rfl ?_
    have hd75 : ∀ j, j < 32 → S75.2.1 20 i j = shaL (mTk (S.2.1 20 i) 32 ++ [(1 : Int32).toInt8] ++ [y.toInt8] ++ mTk (shaL (regL (S.2.1 16 0) y 8)) 32) j := fun j hj => by rw [hP75]; split <;> exact hd64 j hj
    have s75 : mSame (fun k i' => scX k i' ∨ seX i k i') S S75 := by
      rw [hP75]
      have q := s64.wk (X' := (fun k i' => scX k i' ∨ seX i k i')) (fun _ _ h => h.elim Or.inl (fun z => Or.inr ⟨Or.inr z.1, z.2⟩))
      split
      · exact (q.tr (mSame.M (Or.inr se_19))).tr (mSame.M (Or.inr se_19))
      · exact q
    have f75 : ∀ q, S75.1 19 i q = (if S.1 19 i 4 = 0 then (if q = 4 then 1 else if q = 5 then S.1 15 0 2 else S.1 19 i q) else S.1 19 i q) := fun q => by
      rw [hP75, f64 4]
      by_cases h4 : S.1 19 i 4 = 0
      · rw [if_pos h4, if_pos h4]
        by_cases e4 : q = 4
        · subst e4; simp [mM, m3]
        · by_cases e5 : q = 5
          · subst e5; simp [mM, m3]
          · simp only [mM, m3, e4, e5, and_false, if_false]; exact f64 q
      · rw [if_neg h4, if_neg h4]; exact f64 q
    refine lv_iconst (v := 0) hx hb dX7_policyState_78 (by decide) ?_
    exact mv_reti Cx hr hH hS (by rw [hse]; rfl) (⟨fun h => by (rw [hse] at h; cases h), fun j h => by (rw [hse] at h; cases h; exact ⟨hd75, f75, s75⟩)⟩) dX7_policyState_79 hlocks

set_option maxHeartbeats 4000000 in
set_option maxRecDepth 100000 in
theorem c_X7_policyOr (l : Launch) (E : mEv) (A : Nat → Prop) (hO : mOwn mLC E A) (S : mSt) (x : Int32) (ts : List Int8) (hts : bHas S 0 ts) : Met l yX7_policyOr (Cond.code yX7_policyOr cX7_policyOr 3 (some .int) :: mv_ws) (mRm 4 93) (mPc mLC E A S [.ref (mAdC E 0 0), .int x]) (mQ mLC E A (fun S' => bHas S' 0 [] ∧ (seO S x = none → mSame (bX 0) S S') ∧ ∀ i, seO S x = some i → ((orOk ts ∧ orB (S.2.1 20 i) (S.2.1 3 0) (ts.length / 32) = true) → (∀ j, j < 32 → S'.2.1 20 i j = shaL (mTk (S.2.1 13 0) 32 ++ [(5 : Int32).toInt8] ++ ts) j) ∧ mSame (fun k i' => scX k i' ∨ (k = 20 ∧ i' = i) ∨ bX 0 k i') S S') ∧ (¬ (orOk ts ∧ orB (S.2.1 20 i) (S.2.1 3 0) (ts.length / 32) = true) → mSame (bX 0) S S')) (some (.int ((seO S x).elim (-1) (fun i => orR S i ts))))) 0 0 A := by
  refine Met.ofW (cc := cX7_policyOr) (maxL := 3) (ret := (some .int)) (by decide) rfl ?_
  intro p e s m args below meth c s₁ B hml hv
  obtain ⟨rfl, hG, hH⟩ := hv
  have hx := B.exec
  have hb := B.bytes
  have hr := B.returns
  have hlocks := B.notSynchronized
  have Cx : CallFix p m c cX7_policyOr 3 s ([.ref (mAdC E 0 0), .int x] : List Value).toArray (Cond.code yX7_policyOr cX7_policyOr 3 (some .int) :: mv_ws) RX7 := ⟨hx, hb, hml, findClass_of_methodNamed B.named, atoms_spec (ws := Cond.code yX7_policyOr cX7_policyOr 3 (some .int) :: mv_ws) B.pre⟩
  have hS : va_S A s.heap s.heap [] := va_S.rf
  have hl := lv_entry ([.ref (mAdC E 0 0), .int x]) (n := 3) (Nat.le_of_ble_eq_true rfl)
  rw [lg_entry_eq]
  generalize (lg_sl ([.ref (mAdC E 0 0), .int x]) ++ List.replicate (3 - (lg_sl ([.ref (mAdC E 0 0), .int x])).length) Slot.unset).toArray = ls at hl ⊢
  have hl : lv_has ls 3 [(0, .ref (mAdC E 0 0)), (1, .int x)] := hl
  refine lv_aload_n hx hb dX7_policyOr_0 rfl (lv_at hl 0 rfl) ?_
  refine lv_aload_n hx hb dX7_policyOr_1 rfl (lv_at hl 0 rfl) ?_
  refine lv_iload_n hx hb dX7_policyOr_2 rfl (lv_at hl 1 rfl) ?_
  obtain ⟨oq, hse⟩ : ∃ oq, seO S x = oq := ⟨_, rfl⟩
  rcases oq with _ | i
  · skip
    refine mv_callV (Y := mLC) (C := RX7) (k := 0) (i := 0) (rest := [.ref (mAdC E 0 0)]) Cx hG hH hS (X7_openSession_n l E A hO S x hse) q_co_X7_openSession q_ml_X7_138 q_im_X7_openSession q_se_X7_openSession q_in_X7 okC_0 rfl rfl hd_X7_openSession ⟨Nat.le_of_ble_eq_true rfl, Nat.le_of_ble_eq_true rfl⟩ rfl hl.1 rfl (Nat.le_of_ble_eq_true rfl) ⟨Nat.le_of_ble_eq_true rfl, Nat.le_of_ble_eq_true rfl⟩ dX7_policyOr_3 (fun S3 H locs hP3 hH hS => ?_)
    refine W.eq (g2 := F0 m 6 ls [.null, .ref (mAdC E 0 0)]) rfl ?_
    have hH := mv_S hP3 hH
    refine mv_callV (Y := mLC) (C := RX7) (k := 0) (i := 0) (rest := []) Cx hG hH hS (X7_chooseBranch_n0 l E A hO S ts hts) q_co_X7_chooseBranch q_ml_X7_168 q_im_X7_chooseBranch q_se_X7_chooseBranch q_in_X7 okC_0 rfl rfl hd_X7_chooseBranch ⟨Nat.le_of_ble_eq_true rfl, Nat.le_of_ble_eq_true rfl⟩ rfl hl.1 rfl (Nat.le_of_ble_eq_true rfl) ⟨Nat.le_of_ble_eq_true rfl, Nat.le_of_ble_eq_true rfl⟩ dX7_policyOr_6 (fun S6 H locs hP6 hH hS => ?_)
    refine W.eq (g2 := F0 m 9 ls [.int (-1 : Int32)]) rfl ?_
    refine lv_istore_n (lv' := [(2, .int (-1 : Int32)), (0, .ref (mAdC E 0 0)), (1, .int x)]) hx hb dX7_policyOr_9 rfl hl (by decide) rfl (fun ls hl => ?_)
    refine lv_aload_n hx hb dX7_policyOr_10 rfl (lv_at hl 1 rfl) ?_
    refine g_X7_tape Cx hG hH q_fl_X7_30 dX7_policyOr_11 ?_
    refine lv_iconst (v := 0) hx hb dX7_policyOr_14 (by decide) ?_
    refine p_X0_size Cx hG hO hH hS (by decide) q_fl_X7_89 dX7_policyOr_15 (fun H locs hH hS => ?_)
    refine lv_iload_n hx hb dX7_policyOr_18 rfl (lv_at hl 0 rfl) ?_
    exact mv_reti Cx hr hH hS (by rw [hse]; rfl) (⟨bHas.nil, fun _ => by (rw [hP6]; exact mSame.M ⟨Or.inl rfl, rfl⟩), fun i h => by (rw [hse] at h; cases h)⟩) dX7_policyOr_19 hlocks
  · skip
    obtain ⟨hxi, hi, hop⟩ := seO_some hse
    refine mv_callV (Y := mLC) (C := RX7) (k := 0) (i := 0) (rest := [.ref (mAdC E 0 0)]) Cx hG hH hS (X7_openSession_s l E A hO S x i hse) q_co_X7_openSession q_ml_X7_138 q_im_X7_openSession q_se_X7_openSession q_in_X7 okC_0 rfl rfl hd_X7_openSession ⟨Nat.le_of_ble_eq_true rfl, Nat.le_of_ble_eq_true rfl⟩ rfl hl.1 rfl (Nat.le_of_ble_eq_true rfl) ⟨Nat.le_of_ble_eq_true rfl, Nat.le_of_ble_eq_true rfl⟩ dX7_policyOr_3 (fun S3 H locs hP3 hH hS => ?_)
    refine W.eq (g2 := F0 m 6 ls [.ref (mAdC E 19 i), .ref (mAdC E 0 0)]) rfl ?_
    have hH := mv_S hP3 hH
    refine mv_callV (Y := mLC) (C := RX7) (k := 0) (i := 0) (rest := []) Cx hG hH hS (c_X7_chooseBranch l E A hO S i hi ts hts) q_co_X7_chooseBranch q_ml_X7_168 q_im_X7_chooseBranch q_se_X7_chooseBranch q_in_X7 okC_0 rfl rfl hd_X7_chooseBranch ⟨Nat.le_of_ble_eq_true rfl, Nat.le_of_ble_eq_true rfl⟩ rfl hl.1 rfl (Nat.le_of_ble_eq_true rfl) ⟨Nat.le_of_ble_eq_true rfl, Nat.le_of_ble_eq_true rfl⟩ dX7_policyOr_6 (fun S6 H locs hP6 hH hS => ?_)
    refine W.eq (g2 := F0 m 9 ls [.int (orR S i ts)]) rfl ?_
    refine lv_istore_n (lv' := [(2, .int (orR S i ts)), (0, .ref (mAdC E 0 0)), (1, .int x)]) hx hb dX7_policyOr_9 rfl hl (by decide) rfl (fun ls hl => ?_)
    refine lv_aload_n hx hb dX7_policyOr_10 rfl (lv_at hl 1 rfl) ?_
    refine g_X7_tape Cx hG hH q_fl_X7_30 dX7_policyOr_11 ?_
    refine lv_iconst (v := 0) hx hb dX7_policyOr_14 (by decide) ?_
    refine p_X0_size Cx hG hO hH hS (by decide) q_fl_X7_89 dX7_policyOr_15 (fun H locs hH hS => ?_)
    refine lv_iload_n hx hb dX7_policyOr_18 rfl (lv_at hl 0 rfl) ?_
    exact mv_reti Cx hr hH hS (by rw [hse]; rfl) (⟨bHas.nil, fun h => by (rw [hse] at h; cases h), fun j h => by (rw [hse] at h; cases h; exact ⟨fun z => ⟨(hP6.1 z).1, ((hP6.1 z).2.wk (fun _ _ h => h.elim Or.inl (fun y => Or.inr (Or.inl y)))).tr (mSame.M (Or.inr (Or.inr ⟨Or.inl rfl, rfl⟩)))⟩, fun z => by (rw [hP6.2 z]; exact mSame.M ⟨Or.inl rfl, rfl⟩)⟩)⟩) dX7_policyOr_19 hlocks
