/-! ===== the vault's private methods, further ===== -/
theorem poO_some {S : mSt} {x : Int32} {k i : Nat} (h : poO S x = some (k, i)) : (x = -1 ∧ k = 13 ∧ i = 0) ∨ (¬ x = -1 ∧ k = 20 ∧ seO S x = some i) := by
  unfold poO at h
  split at h
  · cases h
    exact Or.inl ⟨by assumption, rfl, rfl⟩
  · cases hs : seO S x with
    | none => rw [hs] at h; cases h
    | some j =>
      rw [hs] at h
      cases h
      exact Or.inr ⟨by assumption, rfl, rfl⟩
theorem poO_isB {S : mSt} {x : Int32} {k i : Nat} (h : poO S x = some (k, i)) : mIsB mLC k i 32 := by
  rcases poO_some h with ⟨-, rfl, rfl⟩ | ⟨-, rfl, h2⟩
  · exact isC_13
  · exact isC_20 (seO_some h2).2.1
theorem poO_ne {S : mSt} {x : Int32} {k i : Nat} (h : poO S x = some (k, i)) : k = 13 ∨ k = 20 := by
  rcases poO_some h with ⟨-, h, -⟩ | ⟨-, h, -⟩
  · exact Or.inl h
  · exact Or.inr h
def acP (S : mSt) (i : Nat) (x co : Int32) : Int32 × mSt := if S.1 26 i 3 = 0 then askP S (4 + i) x co else (-3, S)
def orB (d f : Nat → Int8) (n : Nat) : Bool := (List.range n).any (fun b => mEq d f (32 * b))
theorem orB_succ (d f : Nat → Int8) (n : Nat) : orB d f (n + 1) = (orB d f n || mEq d f (32 * n)) := by
  simp [orB, List.range_succ, List.any_append]
abbrev orOk (ts : List Int8) : Prop := ts.length % 32 = 0 ∧ 2 ≤ ts.length / 32 ∧ ts.length / 32 ≤ 8
def orR (S : mSt) (i : Nat) (ts : List Int8) : Int32 := if ts.length % 32 = 0 ∧ 2 ≤ ts.length / 32 ∧ ts.length / 32 ≤ 8 then (if orB (S.2.1 20 i) (S.2.1 3 0) (ts.length / 32) = true then 0 else -7) else -1
def ffO (S : mSt) : Option Nat := if S.1 22 0 3 = 0 then some 0 else if S.1 22 1 3 = 0 then some 1 else if S.1 22 2 3 = 0 then some 2 else if S.1 22 3 3 = 0 then some 3 else none
theorem ffO_of {S : mSt} {j : Nat} (hj : j < 4) (h : ∀ q, q < j → ¬ S.1 22 q 3 = 0) (h0 : S.1 22 j 3 = 0) : ffO S = some j := by
  unfold ffO
  rcases (show j = 0 ∨ j = 1 ∨ j = 2 ∨ j = 3 by omega) with rfl | rfl | rfl | rfl
  · rw [if_pos h0]
  · rw [if_neg (h 0 (by omega)), if_pos h0]
  · rw [if_neg (h 0 (by omega)), if_neg (h 1 (by omega)), if_pos h0]
  · rw [if_neg (h 0 (by omega)), if_neg (h 1 (by omega)), if_neg (h 2 (by omega)), if_pos h0]
theorem ffO_none {S : mSt} (h : ∀ q, q < 4 → ¬ S.1 22 q 3 = 0) : ffO S = none := by
  unfold ffO
  rw [if_neg (h 0 (by omega)), if_neg (h 1 (by omega)), if_neg (h 2 (by omega)), if_neg (h 3 (by omega))]
def obX (i : Nat) : Nat → Nat → Prop := fun k i' => ((k = 22 ∨ k = 23 ∨ k = 24) ∧ i' = i) ∨ bX (3 + i) k i'
theorem nI_ne0' {a : Nat} (ha : a < 2 ^ 31) (h : ¬ nI a = 0) : ¬ a = 0 := fun q => h (by rw [q]; exact nI_0)
theorem nI_eq0 {a : Nat} (ha : a < 2 ^ 31) (h : nI a = 0) : a = 0 := by
  rw [← nI_0] at h
  exact (nI_eq ha (by decide)).mp h
set_option maxHeartbeats 4000000 in
set_option maxRecDepth 100000 in
theorem c_X7_valueOf (l : Launch) (E : mEv) (A : Nat → Prop) (hO : mOwn mLC E A) (S : mSt) (x kd : Int32) : Met l yX7_valueOf (Cond.code yX7_valueOf cX7_valueOf 4 (some (.object "MeasuredVault$Value")) :: mv_ws) (mRm 1 21) (mPc mLC E A S [.ref (mAdC E 0 0), .int x, .int kd]) (mQ mLC E A (fun S' => S' = S) (some (va_rf ((voO S x kd).map (mAdC E 26))))) 0 0 A := by
  refine Met.ofW (cc := cX7_valueOf) (maxL := 4) (ret := (some (.object "MeasuredVault$Value"))) (by decide) rfl ?_
  intro p e s m args below meth c s₁ B hml hv
  obtain ⟨rfl, hG, hH⟩ := hv
  have hx := B.exec
  have hb := B.bytes
  have hr := B.returns
  have hlocks := B.notSynchronized
  have Cx : CallFix p m c cX7_valueOf 4 s ([.ref (mAdC E 0 0), .int x, .int kd] : List Value).toArray (Cond.code yX7_valueOf cX7_valueOf 4 (some (.object "MeasuredVault$Value")) :: mv_ws) RX7 := ⟨hx, hb, hml, findClass_of_methodNamed B.named, atoms_spec (ws := Cond.code yX7_valueOf cX7_valueOf 4 (some (.object "MeasuredVault$Value")) :: mv_ws) B.pre⟩
  have hS : va_S A s.heap s.heap [] := va_S.rf
  have hl := lv_entry ([.ref (mAdC E 0 0), .int x, .int kd]) (n := 4) (Nat.le_of_ble_eq_true rfl)
  rw [lg_entry_eq]
  generalize (lg_sl ([.ref (mAdC E 0 0), .int x, .int kd]) ++ List.replicate (4 - (lg_sl ([.ref (mAdC E 0 0), .int x, .int kd])).length) Slot.unset).toArray = ls at hl ⊢
  have hl : lv_has ls 4 [(0, .ref (mAdC E 0 0)), (1, .int x), (2, .int kd)] := hl
  refine lv_aload_n hx hb dX7_valueOf_0 rfl (lv_at hl 0 rfl) ?_
  refine lv_iload_n hx hb dX7_valueOf_1 rfl (lv_at hl 1 rfl) ?_
  rcases hva : vaO S x with _ | i
  · skip
    refine mv_callV (Y := mLC) (C := RX7) (k := 0) (i := 0) (rest := []) Cx hG hH hS (X7_valueAt_n l E A hO S x hva) q_co_X7_valueAt q_ml_X7_223 q_im_X7_valueAt q_se_X7_valueAt q_in_X7 okC_0 rfl rfl hd_X7_valueAt ⟨Nat.le_of_ble_eq_true rfl, Nat.le_of_ble_eq_true rfl⟩ rfl hl.1 rfl (Nat.le_of_ble_eq_true rfl) ⟨Nat.le_of_ble_eq_true rfl, Nat.le_of_ble_eq_true rfl⟩ dX7_valueOf_2 (fun S2 H locs hP2 hH hS => ?_)
    refine W.eq (g2 := F0 m 5 ls [.null]) rfl ?_
    have hH := mv_S hP2 hH
    refine lv_astore_nN (lv' := [(3, .null), (0, .ref (mAdC E 0 0)), (1, .int x), (2, .int kd)]) hx hb dX7_valueOf_5 rfl hl (by decide) rfl (fun ls hl => ?_)
    refine lv_aload_nN hx hb dX7_valueOf_6 rfl (lv_at hl 0 rfl) ?_
    refine lv_ifnullN (tgt := 22) hx hb dX7_valueOf_7 (by decide) ?_
    refine lv_null hx hb dX7_valueOf_22 ?_
    exact mv_reta Cx hr (Or.inl ⟨_, rfl⟩) hH hS (Or.inl rfl) (by rw [voO, hva]; rfl) (rfl) dX7_valueOf_23 hlocks
  · skip
    obtain ⟨hxi, hi, hop⟩ := vaO_some hva
    refine mv_callV (Y := mLC) (C := RX7) (k := 0) (i := 0) (rest := []) Cx hG hH hS (X7_valueAt_s l E A hO S x i hva) q_co_X7_valueAt q_ml_X7_223 q_im_X7_valueAt q_se_X7_valueAt q_in_X7 okC_0 rfl rfl hd_X7_valueAt ⟨Nat.le_of_ble_eq_true rfl, Nat.le_of_ble_eq_true rfl⟩ rfl hl.1 rfl (Nat.le_of_ble_eq_true rfl) ⟨Nat.le_of_ble_eq_true rfl, Nat.le_of_ble_eq_true rfl⟩ dX7_valueOf_2 (fun S2 H locs hP2 hH hS => ?_)
    refine W.eq (g2 := F0 m 5 ls [.ref (mAdC E 26 i)]) rfl ?_
    have hH := mv_S hP2 hH
    refine lv_astore_n (lv' := [(3, .ref (mAdC E 26 i)), (0, .ref (mAdC E 0 0)), (1, .int x), (2, .int kd)]) hx hb dX7_valueOf_5 rfl hl (by decide) rfl (fun ls hl => ?_)
    refine lv_aload_n hx hb dX7_valueOf_6 rfl (lv_at hl 0 rfl) ?_
    refine lv_ifnull hx hb dX7_valueOf_7 ?_
    refine lv_aload_n hx hb dX7_valueOf_10 rfl (lv_at hl 0 rfl) ?_
    refine g_X6_kind Cx hG hH hi q_fl_X7_302 dX7_valueOf_11 ?_
    refine lv_iload_n hx hb dX7_valueOf_14 rfl (lv_at hl 3 rfl) ?_
    refine lv_icmp_ne (tgt := 22) hx hb dX7_valueOf_15 (by decide) (fun h15 => ?_) (fun h15 => ?_)
    · skip
      refine lv_null hx hb dX7_valueOf_22 ?_
      exact mv_reta Cx hr (Or.inl ⟨_, rfl⟩) hH hS (Or.inl rfl) (by rw [voO, hva]; show _ = va_rf (Option.map _ (if S.1 26 i 1 = kd then some i else none)); rw [if_neg h15]; rfl) (rfl) dX7_valueOf_23 hlocks
    · skip
      refine lv_aload_n hx hb dX7_valueOf_18 rfl (lv_at hl 0 rfl) ?_
      refine lv_goto (tgt := 23) hx hb dX7_valueOf_19 (by decide) ?_
      exact mv_reta Cx hr (Or.inl ⟨_, rfl⟩) hH hS (Or.inr ⟨_, rfl⟩) (by rw [voO, hva]; show _ = va_rf (Option.map _ (if S.1 26 i 1 = kd then some i else none)); rw [if_pos h15]; rfl) (rfl) dX7_valueOf_23 hlocks

theorem X7_valueOf_n (l : Launch) (E : mEv) (A : Nat → Prop) (hO : mOwn mLC E A) (S : mSt) (x kd : Int32) (h : voO S x kd = none) : Met l yX7_valueOf (Cond.code yX7_valueOf cX7_valueOf 4 (some (.object "MeasuredVault$Value")) :: mv_ws) (mRm 1 21) (mPc mLC E A S [.ref (mAdC E 0 0), .int x, .int kd]) (mQ mLC E A (fun S' => S' = S) (some .null)) 0 0 A := by
  have q := c_X7_valueOf l E A hO S x kd
  rw [h] at q
  exact q
theorem X7_valueOf_s (l : Launch) (E : mEv) (A : Nat → Prop) (hO : mOwn mLC E A) (S : mSt) (x kd : Int32) (i : Nat) (h : voO S x kd = some i) : Met l yX7_valueOf (Cond.code yX7_valueOf cX7_valueOf 4 (some (.object "MeasuredVault$Value")) :: mv_ws) (mRm 1 21) (mPc mLC E A S [.ref (mAdC E 0 0), .int x, .int kd]) (mQ mLC E A (fun S' => S' = S) (some (.ref (mAdC E 26 i)))) 0 0 A := by
  have q := c_X7_valueOf l E A hO S x kd
  rw [h] at q
  exact q

set_option maxHeartbeats 4000000 in
set_option maxRecDepth 100000 in
theorem c_X7_policyFrom (l : Launch) (E : mEv) (A : Nat → Prop) (hO : mOwn mLC E A) (S : mSt) (x : Int32) : Met l yX7_policyFrom (Cond.code yX7_policyFrom cX7_policyFrom 3 (some (.array .byte)) :: mv_ws) (mRm 1 21) (mPc mLC E A S [.ref (mAdC E 0 0), .int x]) (mQ mLC E A (fun S' => S' = S) (some (va_rf ((poO S x).map (fun q => mAdC E q.1 q.2))))) 0 0 A := by
  refine Met.ofW (cc := cX7_policyFrom) (maxL := 3) (ret := (some (.array .byte))) (by decide) rfl ?_
  intro p e s m args below meth c s₁ B hml hv
  obtain ⟨rfl, hG, hH⟩ := hv
  have hx := B.exec
  have hb := B.bytes
  have hr := B.returns
  have hlocks := B.notSynchronized
  have Cx : CallFix p m c cX7_policyFrom 3 s ([.ref (mAdC E 0 0), .int x] : List Value).toArray (Cond.code yX7_policyFrom cX7_policyFrom 3 (some (.array .byte)) :: mv_ws) RX7 := ⟨hx, hb, hml, findClass_of_methodNamed B.named, atoms_spec (ws := Cond.code yX7_policyFrom cX7_policyFrom 3 (some (.array .byte)) :: mv_ws) B.pre⟩
  have hS : va_S A s.heap s.heap [] := va_S.rf
  have hl := lv_entry ([.ref (mAdC E 0 0), .int x]) (n := 3) (Nat.le_of_ble_eq_true rfl)
  rw [lg_entry_eq]
  generalize (lg_sl ([.ref (mAdC E 0 0), .int x]) ++ List.replicate (3 - (lg_sl ([.ref (mAdC E 0 0), .int x])).length) Slot.unset).toArray = ls at hl ⊢
  have hl : lv_has ls 3 [(0, .ref (mAdC E 0 0)), (1, .int x)] := hl
  refine lv_iload_n hx hb dX7_policyFrom_0 rfl (lv_at hl 1 rfl) ?_
  refine lv_iconst (v := (-1 : Int32)) hx hb dX7_policyFrom_1 (by decide) ?_
  refine lv_icmp_ne (tgt := 10) hx hb dX7_policyFrom_2 (by decide) (fun h2 => ?_) (fun h2 => ?_)
  · skip
    refine lv_aload_n hx hb dX7_policyFrom_10 rfl (lv_at hl 0 rfl) ?_
    refine lv_iload_n hx hb dX7_policyFrom_11 rfl (lv_at hl 1 rfl) ?_
    rcases hse : seO S x with _ | i
    · skip
      refine mv_callV (Y := mLC) (C := RX7) (k := 0) (i := 0) (rest := []) Cx hG hH hS (X7_openSession_n l E A hO S x hse) q_co_X7_openSession q_ml_X7_138 q_im_X7_openSession q_se_X7_openSession q_in_X7 okC_0 rfl rfl hd_X7_openSession ⟨Nat.le_of_ble_eq_true rfl, Nat.le_of_ble_eq_true rfl⟩ rfl hl.1 rfl (Nat.le_of_ble_eq_true rfl) ⟨Nat.le_of_ble_eq_true rfl, Nat.le_of_ble_eq_true rfl⟩ dX7_policyFrom_12 (fun S12 H locs hP12 hH hS => ?_)
      refine W.eq (g2 := F0 m 15 ls [.null]) rfl ?_
      have hH := mv_S hP12 hH
      refine lv_astore_nN (lv' := [(2, .null), (0, .ref (mAdC E 0 0)), (1, .int x)]) hx hb dX7_policyFrom_15 rfl hl (by decide) rfl (fun ls hl => ?_)
      refine lv_aload_nN hx hb dX7_policyFrom_16 rfl (lv_at hl 0 rfl) ?_
      refine lv_ifnonnullN hx hb dX7_policyFrom_17 ?_
      refine lv_null hx hb dX7_policyFrom_20 ?_
      refine lv_goto (tgt := 28) hx hb dX7_policyFrom_21 (by decide) ?_
      exact mv_reta Cx hr (Or.inr ⟨_, rfl⟩) hH hS (Or.inl rfl) (by rw [poO, if_neg h2, hse]; rfl) (rfl) dX7_policyFrom_28 hlocks
    · skip
      obtain ⟨hxi, hi, hop⟩ := seO_some hse
      refine mv_callV (Y := mLC) (C := RX7) (k := 0) (i := 0) (rest := []) Cx hG hH hS (X7_openSession_s l E A hO S x i hse) q_co_X7_openSession q_ml_X7_138 q_im_X7_openSession q_se_X7_openSession q_in_X7 okC_0 rfl rfl hd_X7_openSession ⟨Nat.le_of_ble_eq_true rfl, Nat.le_of_ble_eq_true rfl⟩ rfl hl.1 rfl (Nat.le_of_ble_eq_true rfl) ⟨Nat.le_of_ble_eq_true rfl, Nat.le_of_ble_eq_true rfl⟩ dX7_policyFrom_12 (fun S12 H locs hP12 hH hS => ?_)
      refine W.eq (g2 := F0 m 15 ls [.ref (mAdC E 19 i)]) rfl ?_
      have hH := mv_S hP12 hH
      refine lv_astore_n (lv' := [(2, .ref (mAdC E 19 i)), (0, .ref (mAdC E 0 0)), (1, .int x)]) hx hb dX7_policyFrom_15 rfl hl (by decide) rfl (fun ls hl => ?_)
      refine lv_aload_n hx hb dX7_policyFrom_16 rfl (lv_at hl 0 rfl) ?_
      refine lv_ifnonnull (tgt := 24) hx hb dX7_policyFrom_17 (by decide) ?_
      refine lv_aload_n hx hb dX7_policyFrom_24 rfl (lv_at hl 0 rfl) ?_
      refine g_X4_digest Cx hG hH hi q_fl_X7_146 dX7_policyFrom_25 ?_
      exact mv_reta Cx hr (Or.inr ⟨_, rfl⟩) hH hS (Or.inr ⟨_, rfl⟩) (by rw [poO, if_neg h2, hse]; rfl) (rfl) dX7_policyFrom_28 hlocks
  · skip
    refine lv_aload_n hx hb dX7_policyFrom_5 rfl (lv_at hl 0 rfl) ?_
    refine g_X7_noPolicy Cx hG hH q_fl_X7_44 dX7_policyFrom_6 ?_
    exact mv_reta Cx hr (Or.inr ⟨_, rfl⟩) hH hS (Or.inr ⟨_, rfl⟩) (by rw [poO, if_pos h2]; rfl) (rfl) dX7_policyFrom_9 hlocks

theorem X7_policyFrom_n (l : Launch) (E : mEv) (A : Nat → Prop) (hO : mOwn mLC E A) (S : mSt) (x : Int32) (h : poO S x = none) : Met l yX7_policyFrom (Cond.code yX7_policyFrom cX7_policyFrom 3 (some (.array .byte)) :: mv_ws) (mRm 1 21) (mPc mLC E A S [.ref (mAdC E 0 0), .int x]) (mQ mLC E A (fun S' => S' = S) (some .null)) 0 0 A := by
  have q := c_X7_policyFrom l E A hO S x
  rw [h] at q
  exact q
theorem X7_policyFrom_s (l : Launch) (E : mEv) (A : Nat → Prop) (hO : mOwn mLC E A) (S : mSt) (x : Int32) (k i : Nat) (h : poO S x = some (k, i)) : Met l yX7_policyFrom (Cond.code yX7_policyFrom cX7_policyFrom 3 (some (.array .byte)) :: mv_ws) (mRm 1 21) (mPc mLC E A S [.ref (mAdC E 0 0), .int x]) (mQ mLC E A (fun S' => S' = S) (some (.ref (mAdC E k i)))) 0 0 A := by
  have q := c_X7_policyFrom l E A hO S x
  rw [h] at q
  exact q

set_option maxHeartbeats 4000000 in
set_option maxRecDepth 100000 in
theorem c_X7_askToChange (l : Launch) (E : mEv) (A : Nat → Prop) (hO : mOwn mLC E A) (S : mSt) (i : Nat) (hi : i < 8) (x co : Int32) : Met l yX7_askToChange (Cond.code yX7_askToChange cX7_askToChange 4 (some .int) :: mv_ws) (mRm 4 90) (mPc mLC E A S [.ref (mAdC E 0 0), .ref (mAdC E 26 i), .int x, .int co]) (mQ mLC E A (fun S' => S' = (acP S i x co).2) (some (.int (acP S i x co).1))) 0 0 A := by
  refine Met.ofW (cc := cX7_askToChange) (maxL := 4) (ret := (some .int)) (by decide) rfl ?_
  intro p e s m args below meth c s₁ B hml hv
  obtain ⟨rfl, hG, hH⟩ := hv
  have hx := B.exec
  have hb := B.bytes
  have hr := B.returns
  have hlocks := B.notSynchronized
  have Cx : CallFix p m c cX7_askToChange 4 s ([.ref (mAdC E 0 0), .ref (mAdC E 26 i), .int x, .int co] : List Value).toArray (Cond.code yX7_askToChange cX7_askToChange 4 (some .int) :: mv_ws) RX7 := ⟨hx, hb, hml, findClass_of_methodNamed B.named, atoms_spec (ws := Cond.code yX7_askToChange cX7_askToChange 4 (some .int) :: mv_ws) B.pre⟩
  have hS : va_S A s.heap s.heap [] := va_S.rf
  have hl := lv_entry ([.ref (mAdC E 0 0), .ref (mAdC E 26 i), .int x, .int co]) (n := 4) (Nat.le_of_ble_eq_true rfl)
  rw [lg_entry_eq]
  generalize (lg_sl ([.ref (mAdC E 0 0), .ref (mAdC E 26 i), .int x, .int co]) ++ List.replicate (4 - (lg_sl ([.ref (mAdC E 0 0), .ref (mAdC E 26 i), .int x, .int co])).length) Slot.unset).toArray = ls at hl ⊢
  have hl : lv_has ls 4 [(0, .ref (mAdC E 0 0)), (1, .ref (mAdC E 26 i)), (2, .int x), (3, .int co)] := hl
  refine lv_aload_n hx hb dX7_askToChange_0 rfl (lv_at hl 1 rfl) ?_
  refine g_X6_isShut Cx hG hH hi q_fl_X7_263 dX7_askToChange_1 ?_
  refine lv_if_eq (tgt := 10) hx hb dX7_askToChange_4 (by decide) (fun h4 => ?_) (fun h4 => ?_)
  · skip
    refine lv_aload_n hx hb dX7_askToChange_10 rfl (lv_at hl 0 rfl) ?_
    refine lv_aload_n hx hb dX7_askToChange_11 rfl (lv_at hl 1 rfl) ?_
    refine g_X6_thing Cx hG hH hi q_fl_X7_206 dX7_askToChange_12 ?_
    refine lv_iload_n hx hb dX7_askToChange_15 rfl (lv_at hl 2 rfl) ?_
    refine lv_iload_n hx hb dX7_askToChange_16 rfl (lv_at hl 3 rfl) ?_
    refine mv_callV (Y := mLC) (C := RX7) (k := 0) (i := 0) (rest := []) Cx hG hH hS (c_X7_ask l E A hO S (4 + i) (by omega) x co) q_co_X7_ask q_ml_X7_192 q_im_X7_ask q_se_X7_ask q_in_X7 okC_0 rfl rfl hd_X7_ask ⟨Nat.le_of_ble_eq_true rfl, Nat.le_of_ble_eq_true rfl⟩ rfl hl.1 rfl (Nat.le_of_ble_eq_true rfl) ⟨Nat.le_of_ble_eq_true rfl, Nat.le_of_ble_eq_true rfl⟩ dX7_askToChange_17 (fun S17 H locs hP17 hH hS => ?_)
    refine W.eq (g2 := F0 m 20 ls [.int ((askP S (4 + i) x co).1)]) rfl ?_
    exact mv_reti Cx hr hH hS (by rw [acP, if_pos h4]) (by rw [acP, if_pos h4]; exact hP17) dX7_askToChange_20 hlocks
  · skip
    refine lv_bipush (v := (-3 : Int32)) hx hb dX7_askToChange_7 (by decide) ?_
    exact mv_reti Cx hr hH hS (by rw [acP, if_neg h4]) (by rw [acP, if_neg h4]) dX7_askToChange_9 hlocks

set_option maxHeartbeats 4000000 in
set_option maxRecDepth 100000 in
theorem c_X7_freeObjects (l : Launch) (E : mEv) (A : Nat → Prop) (hO : mOwn mLC E A) (S : mSt)  : Met l yX7_freeObjects (Cond.code yX7_freeObjects cX7_freeObjects 2 none :: mv_ws) (mRm 0 0) (mPc mLC E A S [.ref (mAdC E 0 0)]) (mQ mLC E A (fun S' => (∀ q, q < 4 → S'.1 22 q 3 = 0) ∧ mSame (fun k i => k = 22 ∧ i < 4) S S') none) 0 0 A := by
  refine Met.ofW (cc := cX7_freeObjects) (maxL := 2) (ret := none) (by decide) rfl ?_
  intro p e s m args below meth c s₁ B hml hv
  obtain ⟨rfl, hG, hH⟩ := hv
  have hx := B.exec
  have hb := B.bytes
  have hr := B.returns
  have hlocks := B.notSynchronized
  have Cx : CallFix p m c cX7_freeObjects 2 s ([.ref (mAdC E 0 0)] : List Value).toArray (Cond.code yX7_freeObjects cX7_freeObjects 2 none :: mv_ws) RX7 := ⟨hx, hb, hml, findClass_of_methodNamed B.named, atoms_spec (ws := Cond.code yX7_freeObjects cX7_freeObjects 2 none :: mv_ws) B.pre⟩
  have hS : va_S A s.heap s.heap [] := va_S.rf
  have hl := lv_entry ([.ref (mAdC E 0 0)]) (n := 2) (Nat.le_of_ble_eq_true rfl)
  rw [lg_entry_eq]
  generalize (lg_sl ([.ref (mAdC E 0 0)]) ++ List.replicate (2 - (lg_sl ([.ref (mAdC E 0 0)])).length) Slot.unset).toArray = ls at hl ⊢
  have hl : lv_has ls 2 [(0, .ref (mAdC E 0 0))] := hl
  refine lv_iconst (v := 0) hx hb dX7_freeObjects_0 (by decide) ?_
  refine mv_eqi (x' := nI 0) (rfl) ?_
  refine lv_istore_n (lv' := [(1, .int (nI 0)), (0, .ref (mAdC E 0 0))]) hx hb dX7_freeObjects_1 rfl hl (by decide) rfl (fun ls hl => ?_)
  have lp : ∀ (fu j : Nat) (S1 : mSt) (H : Heap) (locs : List Loc) (ls : Array Slot) , 4 - j < fu → j ≤ 4 → ((∀ q, q < j → S1.1 22 q 3 = 0) ∧ mSame (fun k i => k = 22 ∧ i < 4) S S1) → mHold mLC E S1 H → va_S A s.heap H locs → lv_has ls 2 [(0, .ref (mAdC E 0 0)), (1, .int (nI j))] → W p l e (headSpec (Cond.code yX7_freeObjects cX7_freeObjects 2 none :: mv_ws) (mRm 0 0)).room s m ([.ref (mAdC E 0 0)] : List Value).toArray below meth c H locs 0 0 (MQ below (mQ mLC E A (fun S' => (∀ q, q < 4 → S'.1 22 q 3 = 0) ∧ mSame (fun k i => k = 22 ∧ i < 4) S S') none) ([.ref (mAdC E 0 0)] : List Value).toArray s 0 0 A) (F0 m 2 ls []) := by
    intro fu
    induction fu with
    | zero => intro j S1 H locs ls  hn hj hinv hH hS hl; omega
    | succ fu ih =>
      intro j S1 H locs ls  hn hj hinv hH hS hl
      refine lv_iload_n hx hb dX7_freeObjects_2 rfl (lv_at hl 1 rfl) ?_
      refine lv_iconst (v := 4) hx hb dX7_freeObjects_3 (by decide) ?_
      refine lv_icmp_ge (tgt := 23) hx hb dX7_freeObjects_4 (by decide) (fun h4 => ?_) (fun h4 => ?_)
      · skip
        have hj4 : j = 4 := by have := ge_of (a := 4) (by decide) (by omega) h4; omega
        exact mv_retv Cx hr hH hS (by rw [hj4] at hinv; exact hinv) dX7_freeObjects_23 hlocks
      · skip
        have hj4 : j < 4 := lt_of (a := 4) (by decide) (by omega) h4
        refine lv_aload_n hx hb dX7_freeObjects_7 rfl (lv_at hl 0 rfl) ?_
        refine g_X7_objects Cx hG hH q_fl_X7_66 dX7_freeObjects_8 ?_
        refine lv_iload_n hx hb dX7_freeObjects_11 rfl (lv_at hl 1 rfl) ?_
        refine al_21 Cx hG hH j (rfl) (hj4) dX7_freeObjects_12 ?_
        refine lv_iconst (v := 0) hx hb dX7_freeObjects_13 (by decide) ?_
        refine p_X5_present Cx hG hO hH hS (Nat.lt_of_lt_of_le hj4 (by decide)) (Or.inl rfl) q_fl_X7_199 dX7_freeObjects_14 (fun H locs hH hS => ?_)
        refine lv_iinc (v := nI (j + 1)) (lv' := [(1, .int (nI (j + 1))), (0, .ref (mAdC E 0 0))]) hx hb dX7_freeObjects_17 hl (k := 1) rfl (i2_1 j) (by decide) rfl (fun ls hl => ?_)
        refine lv_goto (tgt := 2) hx hb dX7_freeObjects_20 (by decide) ?_
        exact ih (j + 1) (mM S1 22 j 3 0) _ _ ls  (by omega) (by omega) (⟨fun q hq => by by_cases e : q = j; (subst e; simp [mM, m3]); (simp only [mM, m3, e, false_and, and_false, if_false]; exact hinv.1 q (by omega)), hinv.2.tr (mSame.M ⟨rfl, hj4⟩)⟩) hH hS (lv_sub hl [1, 0] rfl)
  exact lp (4 - 0 + 1) 0 S _ _ ls  (by omega) (by omega) (⟨fun q h => absurd h (Nat.not_lt_zero _), mSame.rf⟩) hH hS (lv_sub hl [1, 0] rfl)

set_option maxHeartbeats 4000000 in
set_option maxRecDepth 100000 in
theorem c_X7_objectsHeld (l : Launch) (E : mEv) (A : Nat → Prop) (hO : mOwn mLC E A) (S : mSt)  : Met l yX7_objectsHeld (Cond.code yX7_objectsHeld cX7_objectsHeld 3 (some .int) :: mv_ws) (mRm 0 0) (mPc mLC E A S [.ref (mAdC E 0 0)]) (mQ mLC E A (fun S' => S' = S) (some (.int (cntN (fun q => S.1 22 q 3) 4)))) 0 0 A := by
  refine Met.ofW (cc := cX7_objectsHeld) (maxL := 3) (ret := (some .int)) (by decide) rfl ?_
  intro p e s m args below meth c s₁ B hml hv
  obtain ⟨rfl, hG, hH⟩ := hv
  have hx := B.exec
  have hb := B.bytes
  have hr := B.returns
  have hlocks := B.notSynchronized
  have Cx : CallFix p m c cX7_objectsHeld 3 s ([.ref (mAdC E 0 0)] : List Value).toArray (Cond.code yX7_objectsHeld cX7_objectsHeld 3 (some .int) :: mv_ws) RX7 := ⟨hx, hb, hml, findClass_of_methodNamed B.named, atoms_spec (ws := Cond.code yX7_objectsHeld cX7_objectsHeld 3 (some .int) :: mv_ws) B.pre⟩
  have hS : va_S A s.heap s.heap [] := va_S.rf
  have hl := lv_entry ([.ref (mAdC E 0 0)]) (n := 3) (Nat.le_of_ble_eq_true rfl)
  rw [lg_entry_eq]
  generalize (lg_sl ([.ref (mAdC E 0 0)]) ++ List.replicate (3 - (lg_sl ([.ref (mAdC E 0 0)])).length) Slot.unset).toArray = ls at hl ⊢
  have hl : lv_has ls 3 [(0, .ref (mAdC E 0 0))] := hl
  refine lv_iconst (v := 0) hx hb dX7_objectsHeld_0 (by decide) ?_
  refine mv_eqi (x' := cntN (fun q => S.1 22 q 3) 0) (rfl) ?_
  refine lv_istore_n (lv' := [(1, .int (cntN (fun q => S.1 22 q 3) 0)), (0, .ref (mAdC E 0 0))]) hx hb dX7_objectsHeld_1 rfl hl (by decide) rfl (fun ls hl => ?_)
  refine lv_iconst (v := 0) hx hb dX7_objectsHeld_2 (by decide) ?_
  refine mv_eqi (x' := nI 0) (rfl) ?_
  refine lv_istore_n (lv' := [(2, .int (nI 0)), (1, .int (cntN (fun q => S.1 22 q 3) 0)), (0, .ref (mAdC E 0 0))]) hx hb dX7_objectsHeld_3 rfl hl (by decide) rfl (fun ls hl => ?_)
  have lp : ∀ (fu j : Nat) (S1 : mSt) (H : Heap) (locs : List Loc) (ls : Array Slot) , 4 - j < fu → j ≤ 4 → (S1 = S) → mHold mLC E S1 H → va_S A s.heap H locs → lv_has ls 3 [(0, .ref (mAdC E 0 0)), (1, .int (cntN (fun q => S.1 22 q 3) j)), (2, .int (nI j))] → W p l e (headSpec (Cond.code yX7_objectsHeld cX7_objectsHeld 3 (some .int) :: mv_ws) (mRm 0 0)).room s m ([.ref (mAdC E 0 0)] : List Value).toArray below meth c H locs 0 0 (MQ below (mQ mLC E A (fun S' => S' = S) (some (.int (cntN (fun q => S.1 22 q 3) 4)))) ([.ref (mAdC E 0 0)] : List Value).toArray s 0 0 A) (F0 m 4 ls []) := by
    intro fu
    induction fu with
    | zero => intro j S1 H locs ls  hn hj hinv hH hS hl; omega
    | succ fu ih =>
      intro j S1 H locs ls  hn hj hinv hH hS hl
      have hH := mv_S hinv hH
      refine lv_iload_n hx hb dX7_objectsHeld_4 rfl (lv_at hl 2 rfl) ?_
      refine lv_iconst (v := 4) hx hb dX7_objectsHeld_5 (by decide) ?_
      refine lv_icmp_ge (tgt := 35) hx hb dX7_objectsHeld_6 (by decide) (fun h6 => ?_) (fun h6 => ?_)
      · skip
        have hjn : j = 4 := by have := ge_of (a := 4) (by decide) (by omega) h6; omega
        refine lv_iload_n hx hb dX7_objectsHeld_35 rfl (lv_at hl 1 rfl) ?_
        exact mv_reti Cx hr hH hS (by rw [hjn]) (rfl) dX7_objectsHeld_36 hlocks
      · skip
        have hjn : j < 4 := lt_of (a := 4) (by decide) (by omega) h6
        refine lv_iload_n hx hb dX7_objectsHeld_9 rfl (lv_at hl 1 rfl) ?_
        refine lv_aload_n hx hb dX7_objectsHeld_10 rfl (lv_at hl 0 rfl) ?_
        refine g_X7_objects Cx hG hH q_fl_X7_66 dX7_objectsHeld_11 ?_
        refine lv_iload_n hx hb dX7_objectsHeld_14 rfl (lv_at hl 2 rfl) ?_
        refine al_21 Cx hG hH j (rfl) (hjn) dX7_objectsHeld_15 ?_
        refine g_X5_present Cx hG hH (Nat.lt_of_lt_of_le hjn (by decide)) q_fl_X7_199 dX7_objectsHeld_16 ?_
        refine lv_if_eq (tgt := 26) hx hb dX7_objectsHeld_19 (by decide) (fun h19 => ?_) (fun h19 => ?_)
        · skip
          refine lv_iconst (v := 0) hx hb dX7_objectsHeld_26 (by decide) ?_
          refine lv_iadd hx hb dX7_objectsHeld_27 ?_
          refine mv_eqi (x' := cntN (fun q => S.1 22 q 3) (j + 1)) (by show _ = cntN (fun q => S.1 22 q 3) j + (if S.1 22 j 3 = 0 then 0 else 1); rw [if_pos h19]) ?_
          refine lv_istore_n (lv' := [(1, .int (cntN (fun q => S.1 22 q 3) (j + 1))), (0, .ref (mAdC E 0 0)), (2, .int (nI j))]) hx hb dX7_objectsHeld_28 rfl hl (by decide) rfl (fun ls hl => ?_)
          refine lv_iinc (v := nI (j + 1)) (lv' := [(2, .int (nI (j + 1))), (1, .int (cntN (fun q => S.1 22 q 3) (j + 1))), (0, .ref (mAdC E 0 0))]) hx hb dX7_objectsHeld_29 hl (k := 2) rfl (i2_1 j) (by decide) rfl (fun ls hl => ?_)
          refine lv_goto (tgt := 4) hx hb dX7_objectsHeld_32 (by decide) ?_
          exact ih (j + 1) S _ _ ls  (by omega) (by omega) (rfl) hH hS (lv_sub hl [2, 1, 0] rfl)
        · skip
          refine lv_iconst (v := 1) hx hb dX7_objectsHeld_22 (by decide) ?_
          refine lv_goto (tgt := 27) hx hb dX7_objectsHeld_23 (by decide) ?_
          refine lv_iadd hx hb dX7_objectsHeld_27 ?_
          refine mv_eqi (x' := cntN (fun q => S.1 22 q 3) (j + 1)) (by show _ = cntN (fun q => S.1 22 q 3) j + (if S.1 22 j 3 = 0 then 0 else 1); rw [if_neg h19]) ?_
          refine lv_istore_n (lv' := [(1, .int (cntN (fun q => S.1 22 q 3) (j + 1))), (0, .ref (mAdC E 0 0)), (2, .int (nI j))]) hx hb dX7_objectsHeld_28 rfl hl (by decide) rfl (fun ls hl => ?_)
          refine lv_iinc (v := nI (j + 1)) (lv' := [(2, .int (nI (j + 1))), (1, .int (cntN (fun q => S.1 22 q 3) (j + 1))), (0, .ref (mAdC E 0 0))]) hx hb dX7_objectsHeld_29 hl (k := 2) rfl (i2_1 j) (by decide) rfl (fun ls hl => ?_)
          refine lv_goto (tgt := 4) hx hb dX7_objectsHeld_32 (by decide) ?_
          exact ih (j + 1) S _ _ ls  (by omega) (by omega) (rfl) hH hS (lv_sub hl [2, 1, 0] rfl)
  exact lp (4 - 0 + 1) 0 S _ _ ls  (by omega) (by omega) (rfl) hH hS (lv_sub hl [2, 1, 0] rfl)

set_option maxHeartbeats 4000000 in
set_option maxRecDepth 100000 in
theorem c_X7_sessionsOpen (l : Launch) (E : mEv) (A : Nat → Prop) (hO : mOwn mLC E A) (S : mSt)  : Met l yX7_sessionsOpen (Cond.code yX7_sessionsOpen cX7_sessionsOpen 3 (some .int) :: mv_ws) (mRm 0 0) (mPc mLC E A S [.ref (mAdC E 0 0)]) (mQ mLC E A (fun S' => S' = S) (some (.int (cntN (fun q => S.1 19 q 1) 4)))) 0 0 A := by
  refine Met.ofW (cc := cX7_sessionsOpen) (maxL := 3) (ret := (some .int)) (by decide) rfl ?_
  intro p e s m args below meth c s₁ B hml hv
  obtain ⟨rfl, hG, hH⟩ := hv
  have hx := B.exec
  have hb := B.bytes
  have hr := B.returns
  have hlocks := B.notSynchronized
  have Cx : CallFix p m c cX7_sessionsOpen 3 s ([.ref (mAdC E 0 0)] : List Value).toArray (Cond.code yX7_sessionsOpen cX7_sessionsOpen 3 (some .int) :: mv_ws) RX7 := ⟨hx, hb, hml, findClass_of_methodNamed B.named, atoms_spec (ws := Cond.code yX7_sessionsOpen cX7_sessionsOpen 3 (some .int) :: mv_ws) B.pre⟩
  have hS : va_S A s.heap s.heap [] := va_S.rf
  have hl := lv_entry ([.ref (mAdC E 0 0)]) (n := 3) (Nat.le_of_ble_eq_true rfl)
  rw [lg_entry_eq]
  generalize (lg_sl ([.ref (mAdC E 0 0)]) ++ List.replicate (3 - (lg_sl ([.ref (mAdC E 0 0)])).length) Slot.unset).toArray = ls at hl ⊢
  have hl : lv_has ls 3 [(0, .ref (mAdC E 0 0))] := hl
  refine lv_iconst (v := 0) hx hb dX7_sessionsOpen_0 (by decide) ?_
  refine mv_eqi (x' := cntN (fun q => S.1 19 q 1) 0) (rfl) ?_
  refine lv_istore_n (lv' := [(1, .int (cntN (fun q => S.1 19 q 1) 0)), (0, .ref (mAdC E 0 0))]) hx hb dX7_sessionsOpen_1 rfl hl (by decide) rfl (fun ls hl => ?_)
  refine lv_iconst (v := 0) hx hb dX7_sessionsOpen_2 (by decide) ?_
  refine mv_eqi (x' := nI 0) (rfl) ?_
  refine lv_istore_n (lv' := [(2, .int (nI 0)), (1, .int (cntN (fun q => S.1 19 q 1) 0)), (0, .ref (mAdC E 0 0))]) hx hb dX7_sessionsOpen_3 rfl hl (by decide) rfl (fun ls hl => ?_)
  have lp : ∀ (fu j : Nat) (S1 : mSt) (H : Heap) (locs : List Loc) (ls : Array Slot) , 4 - j < fu → j ≤ 4 → (S1 = S) → mHold mLC E S1 H → va_S A s.heap H locs → lv_has ls 3 [(0, .ref (mAdC E 0 0)), (1, .int (cntN (fun q => S.1 19 q 1) j)), (2, .int (nI j))] → W p l e (headSpec (Cond.code yX7_sessionsOpen cX7_sessionsOpen 3 (some .int) :: mv_ws) (mRm 0 0)).room s m ([.ref (mAdC E 0 0)] : List Value).toArray below meth c H locs 0 0 (MQ below (mQ mLC E A (fun S' => S' = S) (some (.int (cntN (fun q => S.1 19 q 1) 4)))) ([.ref (mAdC E 0 0)] : List Value).toArray s 0 0 A) (F0 m 4 ls []) := by
    intro fu
    induction fu with
    | zero => intro j S1 H locs ls  hn hj hinv hH hS hl; omega
    | succ fu ih =>
      intro j S1 H locs ls  hn hj hinv hH hS hl
      have hH := mv_S hinv hH
      refine lv_iload_n hx hb dX7_sessionsOpen_4 rfl (lv_at hl 2 rfl) ?_
      refine lv_iconst (v := 4) hx hb dX7_sessionsOpen_5 (by decide) ?_
      refine lv_icmp_ge (tgt := 35) hx hb dX7_sessionsOpen_6 (by decide) (fun h6 => ?_) (fun h6 => ?_)
      · skip
        have hjn : j = 4 := by have := ge_of (a := 4) (by decide) (by omega) h6; omega
        refine lv_iload_n hx hb dX7_sessionsOpen_35 rfl (lv_at hl 1 rfl) ?_
        exact mv_reti Cx hr hH hS (by rw [hjn]) (rfl) dX7_sessionsOpen_36 hlocks
      · skip
        have hjn : j < 4 := lt_of (a := 4) (by decide) (by omega) h6
        refine lv_iload_n hx hb dX7_sessionsOpen_9 rfl (lv_at hl 1 rfl) ?_
        refine lv_aload_n hx hb dX7_sessionsOpen_10 rfl (lv_at hl 0 rfl) ?_
        refine g_X7_sessions Cx hG hH q_fl_X7_59 dX7_sessionsOpen_11 ?_
        refine lv_iload_n hx hb dX7_sessionsOpen_14 rfl (lv_at hl 2 rfl) ?_
        refine al_18 Cx hG hH j (rfl) (hjn) dX7_sessionsOpen_15 ?_
        refine g_X4_isOpen Cx hG hH (Nat.lt_of_lt_of_le hjn (by decide)) q_fl_X7_284 dX7_sessionsOpen_16 ?_
        refine lv_if_eq (tgt := 26) hx hb dX7_sessionsOpen_19 (by decide) (fun h19 => ?_) (fun h19 => ?_)
        · skip
          refine lv_iconst (v := 0) hx hb dX7_sessionsOpen_26 (by decide) ?_
          refine lv_iadd hx hb dX7_sessionsOpen_27 ?_
          refine mv_eqi (x' := cntN (fun q => S.1 19 q 1) (j + 1)) (by show _ = cntN (fun q => S.1 19 q 1) j + (if S.1 19 j 1 = 0 then 0 else 1); rw [if_pos h19]) ?_
          refine lv_istore_n (lv' := [(1, .int (cntN (fun q => S.1 19 q 1) (j + 1))), (0, .ref (mAdC E 0 0)), (2, .int (nI j))]) hx hb dX7_sessionsOpen_28 rfl hl (by decide) rfl (fun ls hl => ?_)
          refine lv_iinc (v := nI (j + 1)) (lv' := [(2, .int (nI (j + 1))), (1, .int (cntN (fun q => S.1 19 q 1) (j + 1))), (0, .ref (mAdC E 0 0))]) hx hb dX7_sessionsOpen_29 hl (k := 2) rfl (i2_1 j) (by decide) rfl (fun ls hl => ?_)
          refine lv_goto (tgt := 4) hx hb dX7_sessionsOpen_32 (by decide) ?_
          exact ih (j + 1) S _ _ ls  (by omega) (by omega) (rfl) hH hS (lv_sub hl [2, 1, 0] rfl)
        · skip
          refine lv_iconst (v := 1) hx hb dX7_sessionsOpen_22 (by decide) ?_
          refine lv_goto (tgt := 27) hx hb dX7_sessionsOpen_23 (by decide) ?_
          refine lv_iadd hx hb dX7_sessionsOpen_27 ?_
          refine mv_eqi (x' := cntN (fun q => S.1 19 q 1) (j + 1)) (by show _ = cntN (fun q => S.1 19 q 1) j + (if S.1 19 j 1 = 0 then 0 else 1); rw [if_neg h19]) ?_
          refine lv_istore_n (lv' := [(1, .int (cntN (fun q => S.1 19 q 1) (j + 1))), (0, .ref (mAdC E 0 0)), (2, .int (nI j))]) hx hb dX7_sessionsOpen_28 rfl hl (by decide) rfl (fun ls hl => ?_)
          refine lv_iinc (v := nI (j + 1)) (lv' := [(2, .int (nI (j + 1))), (1, .int (cntN (fun q => S.1 19 q 1) (j + 1))), (0, .ref (mAdC E 0 0))]) hx hb dX7_sessionsOpen_29 hl (k := 2) rfl (i2_1 j) (by decide) rfl (fun ls hl => ?_)
          refine lv_goto (tgt := 4) hx hb dX7_sessionsOpen_32 (by decide) ?_
          exact ih (j + 1) S _ _ ls  (by omega) (by omega) (rfl) hH hS (lv_sub hl [2, 1, 0] rfl)
  exact lp (4 - 0 + 1) 0 S _ _ ls  (by omega) (by omega) (rfl) hH hS (lv_sub hl [2, 1, 0] rfl)

set_option maxHeartbeats 4000000 in
set_option maxRecDepth 100000 in
theorem c_X7_valuesDefined (l : Launch) (E : mEv) (A : Nat → Prop) (hO : mOwn mLC E A) (S : mSt)  : Met l yX7_valuesDefined (Cond.code yX7_valuesDefined cX7_valuesDefined 3 (some .int) :: mv_ws) (mRm 0 0) (mPc mLC E A S [.ref (mAdC E 0 0)]) (mQ mLC E A (fun S' => S' = S) (some (.int (cntN (fun q => S.1 22 (4 + q) 3) 8)))) 0 0 A := by
  refine Met.ofW (cc := cX7_valuesDefined) (maxL := 3) (ret := (some .int)) (by decide) rfl ?_
  intro p e s m args below meth c s₁ B hml hv
  obtain ⟨rfl, hG, hH⟩ := hv
  have hx := B.exec
  have hb := B.bytes
  have hr := B.returns
  have hlocks := B.notSynchronized
  have Cx : CallFix p m c cX7_valuesDefined 3 s ([.ref (mAdC E 0 0)] : List Value).toArray (Cond.code yX7_valuesDefined cX7_valuesDefined 3 (some .int) :: mv_ws) RX7 := ⟨hx, hb, hml, findClass_of_methodNamed B.named, atoms_spec (ws := Cond.code yX7_valuesDefined cX7_valuesDefined 3 (some .int) :: mv_ws) B.pre⟩
  have hS : va_S A s.heap s.heap [] := va_S.rf
  have hl := lv_entry ([.ref (mAdC E 0 0)]) (n := 3) (Nat.le_of_ble_eq_true rfl)
  rw [lg_entry_eq]
  generalize (lg_sl ([.ref (mAdC E 0 0)]) ++ List.replicate (3 - (lg_sl ([.ref (mAdC E 0 0)])).length) Slot.unset).toArray = ls at hl ⊢
  have hl : lv_has ls 3 [(0, .ref (mAdC E 0 0))] := hl
  refine lv_iconst (v := 0) hx hb dX7_valuesDefined_0 (by decide) ?_
  refine mv_eqi (x' := cntN (fun q => S.1 22 (4 + q) 3) 0) (rfl) ?_
  refine lv_istore_n (lv' := [(1, .int (cntN (fun q => S.1 22 (4 + q) 3) 0)), (0, .ref (mAdC E 0 0))]) hx hb dX7_valuesDefined_1 rfl hl (by decide) rfl (fun ls hl => ?_)
  refine lv_iconst (v := 0) hx hb dX7_valuesDefined_2 (by decide) ?_
  refine mv_eqi (x' := nI 0) (rfl) ?_
  refine lv_istore_n (lv' := [(2, .int (nI 0)), (1, .int (cntN (fun q => S.1 22 (4 + q) 3) 0)), (0, .ref (mAdC E 0 0))]) hx hb dX7_valuesDefined_3 rfl hl (by decide) rfl (fun ls hl => ?_)
  have lp : ∀ (fu j : Nat) (S1 : mSt) (H : Heap) (locs : List Loc) (ls : Array Slot) , 8 - j < fu → j ≤ 8 → (S1 = S) → mHold mLC E S1 H → va_S A s.heap H locs → lv_has ls 3 [(0, .ref (mAdC E 0 0)), (1, .int (cntN (fun q => S.1 22 (4 + q) 3) j)), (2, .int (nI j))] → W p l e (headSpec (Cond.code yX7_valuesDefined cX7_valuesDefined 3 (some .int) :: mv_ws) (mRm 0 0)).room s m ([.ref (mAdC E 0 0)] : List Value).toArray below meth c H locs 0 0 (MQ below (mQ mLC E A (fun S' => S' = S) (some (.int (cntN (fun q => S.1 22 (4 + q) 3) 8)))) ([.ref (mAdC E 0 0)] : List Value).toArray s 0 0 A) (F0 m 4 ls []) := by
    intro fu
    induction fu with
    | zero => intro j S1 H locs ls  hn hj hinv hH hS hl; omega
    | succ fu ih =>
      intro j S1 H locs ls  hn hj hinv hH hS hl
      have hH := mv_S hinv hH
      refine lv_iload_n hx hb dX7_valuesDefined_4 rfl (lv_at hl 2 rfl) ?_
      refine lv_bipush (v := 8) hx hb dX7_valuesDefined_5 (by decide) ?_
      refine lv_icmp_ge (tgt := 39) hx hb dX7_valuesDefined_7 (by decide) (fun h7 => ?_) (fun h7 => ?_)
      · skip
        have hjn : j = 8 := by have := ge_of (a := 8) (by decide) (by omega) h7; omega
        refine lv_iload_n hx hb dX7_valuesDefined_39 rfl (lv_at hl 1 rfl) ?_
        exact mv_reti Cx hr hH hS (by rw [hjn]) (rfl) dX7_valuesDefined_40 hlocks
      · skip
        have hjn : j < 8 := lt_of (a := 8) (by decide) (by omega) h7
        refine lv_iload_n hx hb dX7_valuesDefined_10 rfl (lv_at hl 1 rfl) ?_
        refine lv_aload_n hx hb dX7_valuesDefined_11 rfl (lv_at hl 0 rfl) ?_
        refine g_X7_values Cx hG hH q_fl_X7_73 dX7_valuesDefined_12 ?_
        refine lv_iload_n hx hb dX7_valuesDefined_15 rfl (lv_at hl 2 rfl) ?_
        refine al_25 Cx hG hH j (rfl) (hjn) dX7_valuesDefined_16 ?_
        refine g_X6_thing Cx hG hH (Nat.lt_of_lt_of_le hjn (by decide)) q_fl_X7_206 dX7_valuesDefined_17 ?_
        refine g_X5_present Cx hG hH (by have := hjn; omega) q_fl_X7_199 dX7_valuesDefined_20 ?_
        refine lv_if_eq (tgt := 30) hx hb dX7_valuesDefined_23 (by decide) (fun h23 => ?_) (fun h23 => ?_)
        · skip
          refine lv_iconst (v := 0) hx hb dX7_valuesDefined_30 (by decide) ?_
          refine lv_iadd hx hb dX7_valuesDefined_31 ?_
          refine mv_eqi (x' := cntN (fun q => S.1 22 (4 + q) 3) (j + 1)) (by show _ = cntN (fun q => S.1 22 (4 + q) 3) j + (if S.1 22 (4 + j) 3 = 0 then 0 else 1); rw [if_pos h23]) ?_
          refine lv_istore_n (lv' := [(1, .int (cntN (fun q => S.1 22 (4 + q) 3) (j + 1))), (0, .ref (mAdC E 0 0)), (2, .int (nI j))]) hx hb dX7_valuesDefined_32 rfl hl (by decide) rfl (fun ls hl => ?_)
          refine lv_iinc (v := nI (j + 1)) (lv' := [(2, .int (nI (j + 1))), (1, .int (cntN (fun q => S.1 22 (4 + q) 3) (j + 1))), (0, .ref (mAdC E 0 0))]) hx hb dX7_valuesDefined_33 hl (k := 2) rfl (i2_1 j) (by decide) rfl (fun ls hl => ?_)
          refine lv_goto (tgt := 4) hx hb dX7_valuesDefined_36 (by decide) ?_
          exact ih (j + 1) S _ _ ls  (by omega) (by omega) (rfl) hH hS (lv_sub hl [2, 1, 0] rfl)
        · skip
          refine lv_iconst (v := 1) hx hb dX7_valuesDefined_26 (by decide) ?_
          refine lv_goto (tgt := 31) hx hb dX7_valuesDefined_27 (by decide) ?_
          refine lv_iadd hx hb dX7_valuesDefined_31 ?_
          refine mv_eqi (x' := cntN (fun q => S.1 22 (4 + q) 3) (j + 1)) (by show _ = cntN (fun q => S.1 22 (4 + q) 3) j + (if S.1 22 (4 + j) 3 = 0 then 0 else 1); rw [if_neg h23]) ?_
          refine lv_istore_n (lv' := [(1, .int (cntN (fun q => S.1 22 (4 + q) 3) (j + 1))), (0, .ref (mAdC E 0 0)), (2, .int (nI j))]) hx hb dX7_valuesDefined_32 rfl hl (by decide) rfl (fun ls hl => ?_)
          refine lv_iinc (v := nI (j + 1)) (lv' := [(2, .int (nI (j + 1))), (1, .int (cntN (fun q => S.1 22 (4 + q) 3) (j + 1))), (0, .ref (mAdC E 0 0))]) hx hb dX7_valuesDefined_33 hl (k := 2) rfl (i2_1 j) (by decide) rfl (fun ls hl => ?_)
          refine lv_goto (tgt := 4) hx hb dX7_valuesDefined_36 (by decide) ?_
          exact ih (j + 1) S _ _ ls  (by omega) (by omega) (rfl) hH hS (lv_sub hl [2, 1, 0] rfl)
  exact lp (8 - 0 + 1) 0 S _ _ ls  (by omega) (by omega) (rfl) hH hS (lv_sub hl [2, 1, 0] rfl)

set_option maxHeartbeats 4000000 in
set_option maxRecDepth 100000 in
theorem X7_chooseBranch_n0 (l : Launch) (E : mEv) (A : Nat → Prop) (hO : mOwn mLC E A) (S : mSt) (ts : List Int8) (hts : bHas S 0 ts) : Met l yX7_chooseBranch (Cond.code yX7_chooseBranch cX7_chooseBranch 5 (some .int) :: mv_ws) (mRm 3 69) (mPc mLC E A S [.ref (mAdC E 0 0), .null]) (mQ mLC E A (fun S' => S' = S) (some (.int (-1)))) 0 0 A := by
  refine Met.ofW (cc := cX7_chooseBranch) (maxL := 5) (ret := (some .int)) (by decide) rfl ?_
  intro p e s m args below meth c s₁ B hml hv
  obtain ⟨rfl, hG, hH⟩ := hv
  have hx := B.exec
  have hb := B.bytes
  have hr := B.returns
  have hlocks := B.notSynchronized
  have Cx : CallFix p m c cX7_chooseBranch 5 s ([.ref (mAdC E 0 0), .null] : List Value).toArray (Cond.code yX7_chooseBranch cX7_chooseBranch 5 (some .int) :: mv_ws) RX7 := ⟨hx, hb, hml, findClass_of_methodNamed B.named, atoms_spec (ws := Cond.code yX7_chooseBranch cX7_chooseBranch 5 (some .int) :: mv_ws) B.pre⟩
  have hS : va_S A s.heap s.heap [] := va_S.rf
  have hlen := hts.2.1
  rw [mLn_0] at hlen
  have hl := lv_entry ([.ref (mAdC E 0 0), .null]) (n := 5) (Nat.le_of_ble_eq_true rfl)
  rw [lg_entry_eq]
  generalize (lg_sl ([.ref (mAdC E 0 0), .null]) ++ List.replicate (5 - (lg_sl ([.ref (mAdC E 0 0), .null])).length) Slot.unset).toArray = ls at hl ⊢
  have hl : lv_has ls 5 [(0, .ref (mAdC E 0 0)), (1, .null)] := hl
  refine lv_aload_n hx hb dX7_chooseBranch_0 rfl (lv_at hl 0 rfl) ?_
  refine g_X7_tape Cx hG hH q_fl_X7_30 dX7_chooseBranch_1 ?_
  refine g_X0_size Cx hG hH (by decide) q_fl_X7_89 dX7_chooseBranch_4 ?_
  refine mv_eqi (x' := nI ts.length) (hts.1) ?_
  refine lv_bipush (v := 32) hx hb dX7_chooseBranch_7 (by decide) ?_
  refine lv_idiv hx hb dX7_chooseBranch_9 (by decide) ?_
  refine mv_eqi (x' := nI (ts.length / 32)) (pk_div (a := ts.length) (d := 32) (by omega) (by decide) (by decide)) ?_
  refine lv_istore_n (lv' := [(2, .int (nI (ts.length / 32))), (0, .ref (mAdC E 0 0)), (1, .null)]) hx hb dX7_chooseBranch_10 rfl hl (by decide) rfl (fun ls hl => ?_)
  refine lv_aload_nN hx hb dX7_chooseBranch_11 rfl (lv_at hl 2 rfl) ?_
  refine lv_ifnullN (tgt := 39) hx hb dX7_chooseBranch_12 (by decide) ?_
  refine lv_iconst (v := (-1 : Int32)) hx hb dX7_chooseBranch_39 (by decide) ?_
  exact mv_reti Cx hr hH hS (rfl) (rfl) dX7_chooseBranch_40 hlocks

set_option maxHeartbeats 4000000 in
set_option maxRecDepth 100000 in
theorem c_X7_chooseBranch (l : Launch) (E : mEv) (A : Nat → Prop) (hO : mOwn mLC E A) (S : mSt) (i : Nat) (hi : i < 4) (ts : List Int8) (hts : bHas S 0 ts) : Met l yX7_chooseBranch (Cond.code yX7_chooseBranch cX7_chooseBranch 5 (some .int) :: mv_ws) (mRm 3 69) (mPc mLC E A S [.ref (mAdC E 0 0), .ref (mAdC E 19 i)]) (mQ mLC E A (fun S' => ((orOk ts ∧ orB (S.2.1 20 i) (S.2.1 3 0) (ts.length / 32) = true) → (∀ j, j < 32 → S'.2.1 20 i j = shaL (mTk (S.2.1 13 0) 32 ++ [(5 : Int32).toInt8] ++ ts) j) ∧ mSame (fun k i' => scX k i' ∨ (k = 20 ∧ i' = i)) S S') ∧ (¬ (orOk ts ∧ orB (S.2.1 20 i) (S.2.1 3 0) (ts.length / 32) = true) → S' = S)) (some (.int (orR S i ts)))) 0 0 A := by
  refine Met.ofW (cc := cX7_chooseBranch) (maxL := 5) (ret := (some .int)) (by decide) rfl ?_
  intro p e s m args below meth c s₁ B hml hv
  obtain ⟨rfl, hG, hH⟩ := hv
  have hx := B.exec
  have hb := B.bytes
  have hr := B.returns
  have hlocks := B.notSynchronized
  have Cx : CallFix p m c cX7_chooseBranch 5 s ([.ref (mAdC E 0 0), .ref (mAdC E 19 i)] : List Value).toArray (Cond.code yX7_chooseBranch cX7_chooseBranch 5 (some .int) :: mv_ws) RX7 := ⟨hx, hb, hml, findClass_of_methodNamed B.named, atoms_spec (ws := Cond.code yX7_chooseBranch cX7_chooseBranch 5 (some .int) :: mv_ws) B.pre⟩
  have hS : va_S A s.heap s.heap [] := va_S.rf
  have hlen := hts.2.1
  rw [mLn_0] at hlen
  have hl := lv_entry ([.ref (mAdC E 0 0), .ref (mAdC E 19 i)]) (n := 5) (Nat.le_of_ble_eq_true rfl)
  rw [lg_entry_eq]
  generalize (lg_sl ([.ref (mAdC E 0 0), .ref (mAdC E 19 i)]) ++ List.replicate (5 - (lg_sl ([.ref (mAdC E 0 0), .ref (mAdC E 19 i)])).length) Slot.unset).toArray = ls at hl ⊢
  have hl : lv_has ls 5 [(0, .ref (mAdC E 0 0)), (1, .ref (mAdC E 19 i))] := hl
  refine lv_aload_n hx hb dX7_chooseBranch_0 rfl (lv_at hl 0 rfl) ?_
  refine g_X7_tape Cx hG hH q_fl_X7_30 dX7_chooseBranch_1 ?_
  refine g_X0_size Cx hG hH (by decide) q_fl_X7_89 dX7_chooseBranch_4 ?_
  refine mv_eqi (x' := nI ts.length) (hts.1) ?_
  refine lv_bipush (v := 32) hx hb dX7_chooseBranch_7 (by decide) ?_
  refine lv_idiv hx hb dX7_chooseBranch_9 (by decide) ?_
  refine mv_eqi (x' := nI (ts.length / 32)) (pk_div (a := ts.length) (d := 32) (by omega) (by decide) (by decide)) ?_
  refine lv_istore_n (lv' := [(2, .int (nI (ts.length / 32))), (0, .ref (mAdC E 0 0)), (1, .ref (mAdC E 19 i))]) hx hb dX7_chooseBranch_10 rfl hl (by decide) rfl (fun ls hl => ?_)
  refine lv_aload_n hx hb dX7_chooseBranch_11 rfl (lv_at hl 2 rfl) ?_
  refine lv_ifnull hx hb dX7_chooseBranch_12 ?_
  refine lv_aload_n hx hb dX7_chooseBranch_15 rfl (lv_at hl 1 rfl) ?_
  refine g_X7_tape Cx hG hH q_fl_X7_30 dX7_chooseBranch_16 ?_
  refine g_X0_size Cx hG hH (by decide) q_fl_X7_89 dX7_chooseBranch_19 ?_
  refine mv_eqi (x' := nI ts.length) (hts.1) ?_
  refine lv_bipush (v := 32) hx hb dX7_chooseBranch_22 (by decide) ?_
  refine lv_irem hx hb dX7_chooseBranch_24 (by decide) ?_
  refine mv_eqi (x' := nI (ts.length % 32)) (pk_rem (a := ts.length) (d := 32) (by omega) (by decide) (by decide)) ?_
  refine lv_if_ne (tgt := 39) hx hb dX7_chooseBranch_25 (by decide) (fun h25 => ?_) (fun h25 => ?_)
  · skip
    have hno : ¬ orOk ts := fun z => nI_ne0' (by omega) h25 z.1
    refine lv_iconst (v := (-1 : Int32)) hx hb dX7_chooseBranch_39 (by decide) ?_
    exact mv_reti Cx hr hH hS ((if_neg hno).symm) (⟨fun z => absurd z.1 hno, fun _ => rfl⟩) dX7_chooseBranch_40 hlocks
  · skip
    have hm0 : ts.length % 32 = 0 := nI_eq0 (by omega) h25
    refine lv_iload_n hx hb dX7_chooseBranch_28 rfl (lv_at hl 0 rfl) ?_
    refine lv_iconst (v := 2) hx hb dX7_chooseBranch_29 (by decide) ?_
    refine mv_eqi (x' := nI 2) (rfl) ?_
    refine lv_icmp_lt (tgt := 39) hx hb dX7_chooseBranch_30 (by decide) (fun h30 => ?_) (fun h30 => ?_)
    · skip
      have hno : ¬ orOk ts := fun z => by have := (nI_ltI (by omega) (by decide)).mp h30; have := z.2.1; omega
      refine lv_iconst (v := (-1 : Int32)) hx hb dX7_chooseBranch_39 (by decide) ?_
      exact mv_reti Cx hr hH hS ((if_neg hno).symm) (⟨fun z => absurd z.1 hno, fun _ => rfl⟩) dX7_chooseBranch_40 hlocks
    · skip
      have hb2 : 2 ≤ (ts.length / 32) := Nat.not_lt.mp (fun q => h30 ((nI_ltI (by omega) (by decide)).mpr q))
      refine lv_iload_n hx hb dX7_chooseBranch_33 rfl (lv_at hl 0 rfl) ?_
      refine lv_bipush (v := 8) hx hb dX7_chooseBranch_34 (by decide) ?_
      refine mv_eqi (x' := nI 8) (rfl) ?_
      refine lv_icmp_le (tgt := 41) hx hb dX7_chooseBranch_36 (by decide) (fun h36 => ?_) (fun h36 => ?_)
      · skip
        have hok : orOk ts := ⟨hm0, hb2, (nI_leI (by omega) (by decide)).mp h36⟩
        refine lv_iconst (v := 0) hx hb dX7_chooseBranch_41 (by decide) ?_
        refine mv_eqi (x' := if orB (S.2.1 20 i) (S.2.1 3 0) 0 = true then 1 else 0) (rfl) ?_
        refine lv_istore_n (lv' := [(3, .int (if orB (S.2.1 20 i) (S.2.1 3 0) 0 = true then 1 else 0)), (2, .int (nI (ts.length / 32))), (0, .ref (mAdC E 0 0)), (1, .ref (mAdC E 19 i))]) hx hb dX7_chooseBranch_42 rfl hl (by decide) rfl (fun ls hl => ?_)
        refine lv_iconst (v := 0) hx hb dX7_chooseBranch_43 (by decide) ?_
        refine mv_eqi (x' := nI 0) (rfl) ?_
        refine lv_istore (lv' := [(4, .int (nI 0)), (3, .int (if orB (S.2.1 20 i) (S.2.1 3 0) 0 = true then 1 else 0)), (2, .int (nI (ts.length / 32))), (0, .ref (mAdC E 0 0)), (1, .ref (mAdC E 19 i))]) hx hb dX7_chooseBranch_44 hl (by decide) rfl (fun ls hl => ?_)
        have lp : ∀ (fu j : Nat) (S1 : mSt) (H : Heap) (locs : List Loc) (ls : Array Slot) , (ts.length / 32) - j < fu → j ≤ (ts.length / 32) → (S1 = S) → mHold mLC E S1 H → va_S A s.heap H locs → lv_has ls 5 [(0, .ref (mAdC E 0 0)), (1, .ref (mAdC E 19 i)), (2, .int (nI (ts.length / 32))), (3, .int (if orB (S.2.1 20 i) (S.2.1 3 0) j = true then 1 else 0)), (4, .int (nI j))] → W p l e (headSpec (Cond.code yX7_chooseBranch cX7_chooseBranch 5 (some .int) :: mv_ws) (mRm 3 69)).room s m ([.ref (mAdC E 0 0), .ref (mAdC E 19 i)] : List Value).toArray below meth c H locs 0 0 (MQ below (mQ mLC E A (fun S' => ((orOk ts ∧ orB (S.2.1 20 i) (S.2.1 3 0) (ts.length / 32) = true) → (∀ j, j < 32 → S'.2.1 20 i j = shaL (mTk (S.2.1 13 0) 32 ++ [(5 : Int32).toInt8] ++ ts) j) ∧ mSame (fun k i' => scX k i' ∨ (k = 20 ∧ i' = i)) S S') ∧ (¬ (orOk ts ∧ orB (S.2.1 20 i) (S.2.1 3 0) (ts.length / 32) = true) → S' = S)) (some (.int (orR S i ts)))) ([.ref (mAdC E 0 0), .ref (mAdC E 19 i)] : List Value).toArray s 0 0 A) (F0 m 46 ls []) := by
          intro fu
          induction fu with
          | zero => intro j S1 H locs ls  hn hj hinv hH hS hl; omega
          | succ fu ih =>
            intro j S1 H locs ls  hn hj hinv hH hS hl
            have hH := mv_S hinv hH
            refine lv_iload hx hb dX7_chooseBranch_46 (lv_at hl 4 rfl) ?_
            refine lv_iload_n hx hb dX7_chooseBranch_48 rfl (lv_at hl 2 rfl) ?_
            refine lv_icmp_ge (tgt := 90) hx hb dX7_chooseBranch_49 (by decide) (fun h49 => ?_) (fun h49 => ?_)
            · skip
              have hjn : j = (ts.length / 32) := by have := ge_of (a := (ts.length / 32)) (by omega) (by omega) h49; omega
              refine lv_iload_n hx hb dX7_chooseBranch_90 rfl (lv_at hl 3 rfl) ?_
              refine lv_if_ne (tgt := 97) hx hb dX7_chooseBranch_91 (by decide) (fun h91 => ?_) (fun h91 => ?_)
              · skip
                have hB : orB (S.2.1 20 i) (S.2.1 3 0) (ts.length / 32) = true := by rw [hjn] at h91; exact b1_of h91
                refine lv_aload_n hx hb dX7_chooseBranch_97 rfl (lv_at hl 0 rfl) ?_
                refine g_X7_hasher Cx hG hH q_fl_X7_10 dX7_chooseBranch_98 ?_
                refine mv_callV (Y := mLC) (C := RX1) (k := 1) (i := 0) (rest := []) Cx hG hH hS (c_X1_begin l E A hO S) q_co_X1_begin q_ml_X7_299 q_im_X1_begin q_se_X1_begin q_in_X1 okC_1 rfl rfl hd_X1_begin ⟨Nat.le_of_ble_eq_true rfl, Nat.le_of_ble_eq_true rfl⟩ rfl hl.1 rfl (Nat.le_of_ble_eq_true rfl) ⟨Nat.le_of_ble_eq_true rfl, Nat.le_of_ble_eq_true rfl⟩ dX7_chooseBranch_101 (fun S101 H locs hP101 hH hS => ?_)
                refine W.eq (g2 := F0 m 104 ls [.ref (mAdC E 2 2)]) rfl ?_
                refine lv_astore (lv' := [(4, .ref (mAdC E 2 2)), (0, .ref (mAdC E 0 0)), (1, .ref (mAdC E 19 i)), (2, .int (nI (ts.length / 32))), (3, .int (if orB (S.2.1 20 i) (S.2.1 3 0) j = true then 1 else 0))]) hx hb dX7_chooseBranch_104 hl (by decide) rfl (fun ls hl => ?_)
                refine lv_aload hx hb dX7_chooseBranch_106 (lv_at hl 0 rfl) ?_
                refine lv_aload_n hx hb dX7_chooseBranch_108 rfl (lv_at hl 1 rfl) ?_
                refine g_X7_noPolicy Cx hG hH q_fl_X7_44 dX7_chooseBranch_109 ?_
                refine lv_bipush (v := 32) hx hb dX7_chooseBranch_112 (by decide) ?_
                refine mv_callV (Y := mLC) (C := RX0) (k := 2) (i := 2) (rest := []) Cx hG hH hS (c_X0_putAll l E A hO S101 2 (by decide) _ hP101.1 13 0 32 32 isC_13 (by decide) (by decide)) q_co_X0_putAll q_ml_X7_96 q_im_X0_putAll q_se_X0_putAll q_in_X0 (okC_2 (by decide)) rfl rfl hd_X0_putAll ⟨Nat.le_of_ble_eq_true rfl, Nat.le_of_ble_eq_true rfl⟩ rfl hl.1 rfl (Nat.le_of_ble_eq_true rfl) ⟨Nat.le_of_ble_eq_true rfl, Nat.le_of_ble_eq_true rfl⟩ dX7_chooseBranch_114 (fun S114 H locs hP114 hH hS => ?_)
                refine W.eq (g2 := F0 m 117 ls []) rfl ?_
                refine lv_aload hx hb dX7_chooseBranch_117 (lv_at hl 0 rfl) ?_
                refine lv_iconst (v := 5) hx hb dX7_chooseBranch_119 (by decide) ?_
                refine mv_callV (Y := mLC) (C := RX0) (k := 2) (i := 2) (rest := []) Cx hG hH hS (c_X0_put l E A hO S114 2 (by decide) _ hP114.1 5 (by rw [List.nil_append, mTk_len]; decide)) q_co_X0_put q_ml_X7_122 q_im_X0_put q_se_X0_put q_in_X0 (okC_2 (by decide)) rfl rfl hd_X0_put ⟨Nat.le_of_ble_eq_true rfl, Nat.le_of_ble_eq_true rfl⟩ rfl hl.1 rfl (Nat.le_of_ble_eq_true rfl) ⟨Nat.le_of_ble_eq_true rfl, Nat.le_of_ble_eq_true rfl⟩ dX7_chooseBranch_120 (fun S120 H locs hP120 hH hS => ?_)
                refine W.eq (g2 := F0 m 123 ls []) rfl ?_
                have s120 : mSame (bX 2) S S120 := (hP101.2.tr hP114.2).tr hP120.2
                have hts120 : bHas S120 0 ts := hts.keep s120 (by simp [bX]) (by simp [bX])
                refine lv_aload hx hb dX7_chooseBranch_123 (lv_at hl 0 rfl) ?_
                refine lv_aload_n hx hb dX7_chooseBranch_125 rfl (lv_at hl 1 rfl) ?_
                refine g_X7_tape Cx hG hH q_fl_X7_30 dX7_chooseBranch_126 ?_
                refine g_X0_held Cx hG hH (by decide) q_fl_X7_93 dX7_chooseBranch_129 ?_
                refine lv_aload_n hx hb dX7_chooseBranch_132 rfl (lv_at hl 1 rfl) ?_
                refine g_X7_tape Cx hG hH q_fl_X7_30 dX7_chooseBranch_133 ?_
                refine g_X0_size Cx hG hH (by decide) q_fl_X7_89 dX7_chooseBranch_136 ?_
                refine mv_eqi (x' := nI ts.length) (hts120.1) ?_
                refine mv_callV (Y := mLC) (C := RX0) (k := 2) (i := 2) (rest := []) Cx hG hH hS (c_X0_putAll l E A hO S120 2 (by decide) _ hP120.1 3 0 (mLn 0) ts.length (isC_3 (by decide)) hts.2.1 (by rw [List.nil_append, List.length_append, mTk_len, List.length_singleton, mLn_2]; omega)) q_co_X0_putAll q_ml_X7_96 q_im_X0_putAll q_se_X0_putAll q_in_X0 (okC_2 (by decide)) rfl rfl hd_X0_putAll ⟨Nat.le_of_ble_eq_true rfl, Nat.le_of_ble_eq_true rfl⟩ rfl hl.1 rfl (Nat.le_of_ble_eq_true rfl) ⟨Nat.le_of_ble_eq_true rfl, Nat.le_of_ble_eq_true rfl⟩ dX7_chooseBranch_139 (fun S139 H locs hP139 hH hS => ?_)
                refine W.eq (g2 := F0 m 142 ls []) rfl ?_
                refine lv_aload_n hx hb dX7_chooseBranch_142 rfl (lv_at hl 1 rfl) ?_
                refine g_X7_hasher Cx hG hH q_fl_X7_10 dX7_chooseBranch_143 ?_
                refine lv_aload_n hx hb dX7_chooseBranch_146 rfl (lv_at hl 2 rfl) ?_
                refine g_X4_digest Cx hG hH hi q_fl_X7_146 dX7_chooseBranch_147 ?_
                refine mv_callV (Y := mLC) (C := RX1) (k := 1) (i := 0) (rest := []) Cx hG hH hS (c_X1_finish l E A hO S139 20 i (isC_20 hi) _ hP139.1 (by rw [List.nil_append, List.length_append, List.length_append, mTk_len, mTk_len, List.length_singleton]; omega)) q_co_X1_finish q_ml_X7_149 q_im_X1_finish q_se_X1_finish q_in_X1 okC_1 rfl rfl hd_X1_finish ⟨Nat.le_of_ble_eq_true rfl, Nat.le_of_ble_eq_true rfl⟩ rfl hl.1 rfl (Nat.le_of_ble_eq_true rfl) ⟨Nat.le_of_ble_eq_true rfl, Nat.le_of_ble_eq_true rfl⟩ dX7_chooseBranch_150 (fun S150 H locs hP150 hH hS => ?_)
                refine W.eq (g2 := F0 m 153 ls []) rfl ?_
                refine lv_iconst (v := 0) hx hb dX7_chooseBranch_153 (by decide) ?_
                exact mv_reti Cx hr hH hS (by rw [orR, if_pos hok, if_pos hB]) (⟨fun _ => ⟨fun j hj => (hP150.1 j hj).trans (by rw [List.nil_append, mTk_has hts120, mTk_congr (g := S.2.1 13 0) (fun j _ => (hP101.2 13 0 (by simp [bX])).2.1 j)]), ((s120.wk (fun _ _ h => Or.inl (sc_bX h))).tr (hP139.2.wk (fun _ _ h => Or.inl (sc_bX h)))).tr (hP150.2.wk (fun _ _ h => h.elim (fun z => Or.inl (sc_hs z)) Or.inr))⟩, fun z => absurd ⟨hok, hB⟩ z⟩) dX7_chooseBranch_154 hlocks
              · skip
                have hB : ¬ orB (S.2.1 20 i) (S.2.1 3 0) (ts.length / 32) = true := by rw [hjn] at h91; exact b0_of h91
                refine lv_bipush (v := (-7 : Int32)) hx hb dX7_chooseBranch_94 (by decide) ?_
                exact mv_reti Cx hr hH hS (by rw [orR, if_pos hok, if_neg hB]) (⟨fun z => absurd z.2 hB, fun _ => rfl⟩) dX7_chooseBranch_96 hlocks
            · skip
              have hjn : j < (ts.length / 32) := lt_of (a := (ts.length / 32)) (by omega) (by omega) h49
              refine lv_iload_n hx hb dX7_chooseBranch_52 rfl (lv_at hl 3 rfl) ?_
              refine lv_if_ne (tgt := 78) hx hb dX7_chooseBranch_53 (by decide) (fun h53 => ?_) (fun h53 => ?_)
              · skip
                refine lv_iconst (v := 1) hx hb dX7_chooseBranch_78 (by decide) ?_
                refine mv_eqi (x' := if orB (S.2.1 20 i) (S.2.1 3 0) (j + 1) = true then 1 else 0) ((if_pos (by rw [orB_succ, b1_of h53, Bool.true_or])).symm) ?_
                refine lv_goto (tgt := 83) hx hb dX7_chooseBranch_79 (by decide) ?_
                refine lv_istore_n (lv' := [(3, .int (if orB (S.2.1 20 i) (S.2.1 3 0) (j + 1) = true then 1 else 0)), (0, .ref (mAdC E 0 0)), (1, .ref (mAdC E 19 i)), (2, .int (nI (ts.length / 32))), (4, .int (nI j))]) hx hb dX7_chooseBranch_83 rfl hl (by decide) rfl (fun ls hl => ?_)
                refine lv_iinc (v := nI (j + 1)) (lv' := [(4, .int (nI (j + 1))), (3, .int (if orB (S.2.1 20 i) (S.2.1 3 0) (j + 1) = true then 1 else 0)), (0, .ref (mAdC E 0 0)), (1, .ref (mAdC E 19 i)), (2, .int (nI (ts.length / 32)))]) hx hb dX7_chooseBranch_84 hl (k := 4) rfl (i2_1 j) (by decide) rfl (fun ls hl => ?_)
                refine lv_goto (tgt := 46) hx hb dX7_chooseBranch_87 (by decide) ?_
                exact ih (j + 1) S _ _ ls  (by omega) (by omega) (rfl) hH hS (lv_sub hl [2, 3, 4, 1, 0] rfl)
              · skip
                refine lv_aload_n hx hb dX7_chooseBranch_56 rfl (lv_at hl 1 rfl) ?_
                refine g_X4_digest Cx hG hH hi q_fl_X7_146 dX7_chooseBranch_57 ?_
                refine lv_aload_n hx hb dX7_chooseBranch_60 rfl (lv_at hl 0 rfl) ?_
                refine g_X7_tape Cx hG hH q_fl_X7_30 dX7_chooseBranch_61 ?_
                refine g_X0_held Cx hG hH (by decide) q_fl_X7_93 dX7_chooseBranch_64 ?_
                refine lv_iload hx hb dX7_chooseBranch_67 (lv_at hl 4 rfl) ?_
                refine lv_bipush (v := 32) hx hb dX7_chooseBranch_69 (by decide) ?_
                refine lv_imul hx hb dX7_chooseBranch_71 ?_
                refine mv_eqi (x' := nI (32 * j)) (by rw [show (32 : Int32) = nI 32 from rfl, pk_mul, Nat.mul_comm]) ?_
                refine mv_callS (Y := mLC) (rest := []) Cx hG hH hS (c_X7_sameBytes l E A hO S 20 i (isC_20 hi) 3 0 (mLn 0) (isC_3 (by decide)) (32 * j) (by rw [mLn_0]; omega)) q_co_X7_sameBytes q_ml_X7_305 q_st_X7_sameBytes q_in_X7 hd_X7_sameBytes ⟨Nat.le_of_ble_eq_true rfl, Nat.le_of_ble_eq_true rfl⟩ rfl hl.1 rfl (Nat.le_of_ble_eq_true rfl) ⟨Nat.le_of_ble_eq_true rfl, Nat.le_of_ble_eq_true rfl⟩ dX7_chooseBranch_72 (fun S72 H locs hP72 hH hS => ?_)
                refine W.eq (g2 := F0 m 75 ls [.int (if mEq (S.2.1 20 i) (S.2.1 3 0) (32 * j) = true then 1 else 0)]) rfl ?_
                have hH := mv_S hP72 hH
                refine lv_if_eq (tgt := 82) hx hb dX7_chooseBranch_75 (by decide) (fun h75 => ?_) (fun h75 => ?_)
                · skip
                  refine lv_iconst (v := 0) hx hb dX7_chooseBranch_82 (by decide) ?_
                  refine mv_eqi (x' := if orB (S.2.1 20 i) (S.2.1 3 0) (j + 1) = true then 1 else 0) ((if_neg (by rw [orB_succ, Bool.eq_false_iff.mpr (b0_of h53), Bool.eq_false_iff.mpr (b0_of h75)]; decide)).symm) ?_
                  refine lv_istore_n (lv' := [(3, .int (if orB (S.2.1 20 i) (S.2.1 3 0) (j + 1) = true then 1 else 0)), (0, .ref (mAdC E 0 0)), (1, .ref (mAdC E 19 i)), (2, .int (nI (ts.length / 32))), (4, .int (nI j))]) hx hb dX7_chooseBranch_83 rfl hl (by decide) rfl (fun ls hl => ?_)
                  refine lv_iinc (v := nI (j + 1)) (lv' := [(4, .int (nI (j + 1))), (3, .int (if orB (S.2.1 20 i) (S.2.1 3 0) (j + 1) = true then 1 else 0)), (0, .ref (mAdC E 0 0)), (1, .ref (mAdC E 19 i)), (2, .int (nI (ts.length / 32)))]) hx hb dX7_chooseBranch_84 hl (k := 4) rfl (i2_1 j) (by decide) rfl (fun ls hl => ?_)
                  refine lv_goto (tgt := 46) hx hb dX7_chooseBranch_87 (by decide) ?_
                  exact ih (j + 1) S _ _ ls  (by omega) (by omega) (rfl) hH hS (lv_sub hl [2, 3, 4, 1, 0] rfl)
                · skip
                  refine lv_iconst (v := 1) hx hb dX7_chooseBranch_78 (by decide) ?_
                  refine mv_eqi (x' := if orB (S.2.1 20 i) (S.2.1 3 0) (j + 1) = true then 1 else 0) ((if_pos (by rw [orB_succ, b1_of h75, Bool.or_true])).symm) ?_
                  refine lv_goto (tgt := 83) hx hb dX7_chooseBranch_79 (by decide) ?_
                  refine lv_istore_n (lv' := [(3, .int (if orB (S.2.1 20 i) (S.2.1 3 0) (j + 1) = true then 1 else 0)), (0, .ref (mAdC E 0 0)), (1, .ref (mAdC E 19 i)), (2, .int (nI (ts.length / 32))), (4, .int (nI j))]) hx hb dX7_chooseBranch_83 rfl hl (by decide) rfl (fun ls hl => ?_)
                  refine lv_iinc (v := nI (j + 1)) (lv' := [(4, .int (nI (j + 1))), (3, .int (if orB (S.2.1 20 i) (S.2.1 3 0) (j + 1) = true then 1 else 0)), (0, .ref (mAdC E 0 0)), (1, .ref (mAdC E 19 i)), (2, .int (nI (ts.length / 32)))]) hx hb dX7_chooseBranch_84 hl (k := 4) rfl (i2_1 j) (by decide) rfl (fun ls hl => ?_)
                  refine lv_goto (tgt := 46) hx hb dX7_chooseBranch_87 (by decide) ?_
                  exact ih (j + 1) S _ _ ls  (by omega) (by omega) (rfl) hH hS (lv_sub hl [2, 3, 4, 1, 0] rfl)
        exact lp ((ts.length / 32) - 0 + 1) 0 S _ _ ls  (by omega) (by omega) (rfl) hH hS (lv_sub hl [3, 4, 2, 1, 0] rfl)
      · skip
        have hno : ¬ orOk ts := fun z => h36 ((nI_leI (by omega) (by decide)).mpr z.2.2)
        refine lv_iconst (v := (-1 : Int32)) hx hb dX7_chooseBranch_39 (by decide) ?_
        exact mv_reti Cx hr hH hS ((if_neg hno).symm) (⟨fun z => absurd z.1 hno, fun _ => rfl⟩) dX7_chooseBranch_40 hlocks

set_option maxHeartbeats 4000000 in
set_option maxRecDepth 100000 in
theorem c_X7_keepUnwrapped (l : Launch) (E : mEv) (A : Nat → Prop) (hO : mOwn mLC E A) (S : mSt) (us : List Int8) (hus : bHas S 0 us) (hge : 101 ≤ us.length) (hle : us.length ≤ 229) : Met l yX7_keepUnwrapped (Cond.code yX7_keepUnwrapped cX7_keepUnwrapped 3 (some .int) :: mv_ws) (mRm 1 30) (mPc mLC E A S [.ref (mAdC E 0 0)]) (mQ mLC E A (fun S' => (ffO S = none → S' = S) ∧ ∀ i, ffO S = some i → S'.1 22 i 3 = 1 ∧ (∀ q, q < 32 → S'.2.1 24 i q = us.getD (4 + q) 0) ∧ (∀ q, q < 32 → S'.2.1 23 i q = us.getD (36 + q) 0) ∧ bHas S' (3 + i) (mTk (fun q => us.getD (69 + q) 0) (us.length - 101)) ∧ mSame (obX i) S S') (some (.int ((ffO S).elim (-3) nI)))) 0 0 A := by
  refine Met.ofW (cc := cX7_keepUnwrapped) (maxL := 3) (ret := (some .int)) (by decide) rfl ?_
  intro p e s m args below meth c s₁ B hml hv
  obtain ⟨rfl, hG, hH⟩ := hv
  have hx := B.exec
  have hb := B.bytes
  have hr := B.returns
  have hlocks := B.notSynchronized
  have Cx : CallFix p m c cX7_keepUnwrapped 3 s ([.ref (mAdC E 0 0)] : List Value).toArray (Cond.code yX7_keepUnwrapped cX7_keepUnwrapped 3 (some .int) :: mv_ws) RX7 := ⟨hx, hb, hml, findClass_of_methodNamed B.named, atoms_spec (ws := Cond.code yX7_keepUnwrapped cX7_keepUnwrapped 3 (some .int) :: mv_ws) B.pre⟩
  have hS : va_S A s.heap s.heap [] := va_S.rf
  have hl := lv_entry ([.ref (mAdC E 0 0)]) (n := 3) (Nat.le_of_ble_eq_true rfl)
  rw [lg_entry_eq]
  generalize (lg_sl ([.ref (mAdC E 0 0)]) ++ List.replicate (3 - (lg_sl ([.ref (mAdC E 0 0)])).length) Slot.unset).toArray = ls at hl ⊢
  have hl : lv_has ls 3 [(0, .ref (mAdC E 0 0))] := hl
  refine lv_iconst (v := 0) hx hb dX7_keepUnwrapped_0 (by decide) ?_
  refine mv_eqi (x' := nI 0) (rfl) ?_
  refine lv_istore_n (lv' := [(1, .int (nI 0)), (0, .ref (mAdC E 0 0))]) hx hb dX7_keepUnwrapped_1 rfl hl (by decide) rfl (fun ls hl => ?_)
  have lp : ∀ (fu j : Nat) (S1 : mSt) (H : Heap) (locs : List Loc) (ls : Array Slot) , 4 - j < fu → j ≤ 4 → (S1 = S ∧ ∀ q, q < j → ¬ S.1 22 q 3 = 0) → mHold mLC E S1 H → va_S A s.heap H locs → lv_has ls 3 [(0, .ref (mAdC E 0 0)), (1, .int (nI j))] → W p l e (headSpec (Cond.code yX7_keepUnwrapped cX7_keepUnwrapped 3 (some .int) :: mv_ws) (mRm 1 30)).room s m ([.ref (mAdC E 0 0)] : List Value).toArray below meth c H locs 0 0 (MQ below (mQ mLC E A (fun S' => (ffO S = none → S' = S) ∧ ∀ i, ffO S = some i → S'.1 22 i 3 = 1 ∧ (∀ q, q < 32 → S'.2.1 24 i q = us.getD (4 + q) 0) ∧ (∀ q, q < 32 → S'.2.1 23 i q = us.getD (36 + q) 0) ∧ bHas S' (3 + i) (mTk (fun q => us.getD (69 + q) 0) (us.length - 101)) ∧ mSame (obX i) S S') (some (.int ((ffO S).elim (-3) nI)))) ([.ref (mAdC E 0 0)] : List Value).toArray s 0 0 A) (F0 m 2 ls []) := by
    intro fu
    induction fu with
    | zero => intro j S1 H locs ls  hn hj hinv hH hS hl; omega
    | succ fu ih =>
      intro j S1 H locs ls  hn hj hinv hH hS hl
      have hH := mv_S hinv.1 hH
      refine lv_iload_n hx hb dX7_keepUnwrapped_2 rfl (lv_at hl 1 rfl) ?_
      refine lv_iconst (v := 4) hx hb dX7_keepUnwrapped_3 (by decide) ?_
      refine lv_icmp_ge (tgt := 120) hx hb dX7_keepUnwrapped_4 (by decide) (fun h4 => ?_) (fun h4 => ?_)
      · skip
        have hj4 : j = 4 := by have := ge_of (a := 4) (by decide) (by omega) h4; omega
        refine lv_bipush (v := (-3 : Int32)) hx hb dX7_keepUnwrapped_120 (by decide) ?_
        exact mv_reti Cx hr hH hS (by rw [ffO_none (fun q hq => hinv.2 q (by omega))]; rfl) (⟨fun _ => rfl, fun i hi => by (rw [ffO_none (fun q hq => hinv.2 q (by omega))] at hi; cases hi)⟩) dX7_keepUnwrapped_122 hlocks
      · skip
        have hj4 : j < 4 := lt_of (a := 4) (by decide) (by omega) h4
        refine lv_aload_n hx hb dX7_keepUnwrapped_7 rfl (lv_at hl 0 rfl) ?_
        refine g_X7_objects Cx hG hH q_fl_X7_66 dX7_keepUnwrapped_8 ?_
        refine lv_iload_n hx hb dX7_keepUnwrapped_11 rfl (lv_at hl 1 rfl) ?_
        refine al_21 Cx hG hH j (rfl) (hj4) dX7_keepUnwrapped_12 ?_
        refine g_X5_present Cx hG hH (Nat.lt_of_lt_of_le hj4 (by decide)) q_fl_X7_199 dX7_keepUnwrapped_13 ?_
        refine lv_if_ne (tgt := 114) hx hb dX7_keepUnwrapped_16 (by decide) (fun h16 => ?_) (fun h16 => ?_)
        · skip
          refine lv_iinc (v := nI (j + 1)) (lv' := [(1, .int (nI (j + 1))), (0, .ref (mAdC E 0 0))]) hx hb dX7_keepUnwrapped_114 hl (k := 1) rfl (i2_1 j) (by decide) rfl (fun ls hl => ?_)
          refine lv_goto (tgt := 2) hx hb dX7_keepUnwrapped_117 (by decide) ?_
          exact ih (j + 1) S _ _ ls  (by omega) (by omega) (⟨rfl, fun q hq => by by_cases e : q = j; (subst e; exact h16); (exact hinv.2 q (by omega))⟩) hH hS (lv_sub hl [1, 0] rfl)
        · skip
          have hff : ffO S = some j := ffO_of hj4 hinv.2 h16
          refine lv_aload_n hx hb dX7_keepUnwrapped_19 rfl (lv_at hl 0 rfl) ?_
          refine g_X7_objects Cx hG hH q_fl_X7_66 dX7_keepUnwrapped_20 ?_
          refine lv_iload_n hx hb dX7_keepUnwrapped_23 rfl (lv_at hl 1 rfl) ?_
          refine al_21 Cx hG hH j (rfl) (hj4) dX7_keepUnwrapped_24 ?_
          refine lv_astore_n (lv' := [(2, .ref (mAdC E 22 j)), (0, .ref (mAdC E 0 0)), (1, .int (nI j))]) hx hb dX7_keepUnwrapped_25 rfl hl (by decide) rfl (fun ls hl => ?_)
          refine lv_aload_n hx hb dX7_keepUnwrapped_26 rfl (lv_at hl 0 rfl) ?_
          refine lv_iconst (v := 1) hx hb dX7_keepUnwrapped_27 (by decide) ?_
          refine p_X5_present Cx hG hO hH hS (Nat.lt_of_lt_of_le hj4 (by decide)) (Or.inr rfl) q_fl_X7_199 dX7_keepUnwrapped_28 (fun H locs hH hS => ?_)
          refine lv_aload_n hx hb dX7_keepUnwrapped_31 rfl (lv_at hl 1 rfl) ?_
          refine g_X7_tape Cx hG hH q_fl_X7_30 dX7_keepUnwrapped_32 ?_
          refine g_X0_held Cx hG hH (by decide) q_fl_X7_93 dX7_keepUnwrapped_35 ?_
          refine lv_iconst (v := 4) hx hb dX7_keepUnwrapped_38 (by decide) ?_
          refine lv_aload_n hx hb dX7_keepUnwrapped_39 rfl (lv_at hl 0 rfl) ?_
          refine g_X5_policy Cx hG hH (Nat.lt_of_lt_of_le hj4 (by decide)) q_fl_X7_220 dX7_keepUnwrapped_40 ?_
          refine lv_iconst (v := 0) hx hb dX7_keepUnwrapped_43 (by decide) ?_
          refine lv_bipush (v := 32) hx hb dX7_keepUnwrapped_44 (by decide) ?_
          refine mv_cpb Cx hG hO hH hS (isC_3 (by decide)) (isC_24 (Nat.lt_of_lt_of_le hj4 (by decide))) 4 0 32 (rfl) (rfl) (rfl) (by decide) (by decide) q_ml_X7_309 hl.1 (Nat.le_of_ble_eq_true rfl) (by decide) dX7_keepUnwrapped_46 (fun H locs hH hS => ?_)
          refine lv_aload_n hx hb dX7_keepUnwrapped_49 rfl (lv_at hl 1 rfl) ?_
          refine g_X7_tape Cx hG hH q_fl_X7_30 dX7_keepUnwrapped_50 ?_
          refine g_X0_held Cx hG hH (by decide) q_fl_X7_93 dX7_keepUnwrapped_53 ?_
          refine lv_bipush (v := 36) hx hb dX7_keepUnwrapped_56 (by decide) ?_
          refine lv_aload_n hx hb dX7_keepUnwrapped_58 rfl (lv_at hl 0 rfl) ?_
          refine g_X5_auth Cx hG hH (Nat.lt_of_lt_of_le hj4 (by decide)) q_fl_X7_217 dX7_keepUnwrapped_59 ?_
          refine lv_iconst (v := 0) hx hb dX7_keepUnwrapped_62 (by decide) ?_
          refine lv_bipush (v := 32) hx hb dX7_keepUnwrapped_63 (by decide) ?_
          refine mv_cpb Cx hG hO hH hS (isC_3 (by decide)) (isC_23 (Nat.lt_of_lt_of_le hj4 (by decide))) 36 0 32 (rfl) (rfl) (rfl) (by decide) (by decide) q_ml_X7_309 hl.1 (Nat.le_of_ble_eq_true rfl) (by decide) dX7_keepUnwrapped_65 (fun H locs hH hS => ?_)
          refine lv_aload_n hx hb dX7_keepUnwrapped_68 rfl (lv_at hl 0 rfl) ?_
          refine g_X5_data Cx hG hH (Nat.lt_of_lt_of_le hj4 (by decide)) q_fl_X7_196 dX7_keepUnwrapped_69 ?_
          refine lv_aload_n hx hb dX7_keepUnwrapped_72 rfl (lv_at hl 1 rfl) ?_
          refine g_X7_tape Cx hG hH q_fl_X7_30 dX7_keepUnwrapped_73 ?_
          refine g_X0_size Cx hG hH (by decide) q_fl_X7_89 dX7_keepUnwrapped_76 ?_
          refine mv_eqi (x' := nI us.length) (by simpa [mM, mAB, m3] using hus.1) ?_
          refine lv_bipush (v := 101) hx hb dX7_keepUnwrapped_79 (by decide) ?_
          refine lv_isub hx hb dX7_keepUnwrapped_81 ?_
          refine mv_eqi (x' := nI (us.length - 101)) (pk_sub (a := us.length) (b := 101) (by omega)) ?_
          refine p_X0_size Cx hG hO hH hS (by have := hj4; omega) q_fl_X7_89 dX7_keepUnwrapped_82 (fun H locs hH hS => ?_)
          refine lv_aload_n hx hb dX7_keepUnwrapped_85 rfl (lv_at hl 1 rfl) ?_
          refine g_X7_tape Cx hG hH q_fl_X7_30 dX7_keepUnwrapped_86 ?_
          refine g_X0_held Cx hG hH (by decide) q_fl_X7_93 dX7_keepUnwrapped_89 ?_
          refine lv_bipush (v := 69) hx hb dX7_keepUnwrapped_92 (by decide) ?_
          refine lv_aload_n hx hb dX7_keepUnwrapped_94 rfl (lv_at hl 0 rfl) ?_
          refine g_X5_data Cx hG hH (Nat.lt_of_lt_of_le hj4 (by decide)) q_fl_X7_196 dX7_keepUnwrapped_95 ?_
          refine g_X0_held Cx hG hH (by have := hj4; omega) q_fl_X7_93 dX7_keepUnwrapped_98 ?_
          refine lv_iconst (v := 0) hx hb dX7_keepUnwrapped_101 (by decide) ?_
          refine lv_aload_n hx hb dX7_keepUnwrapped_102 rfl (lv_at hl 0 rfl) ?_
          refine g_X5_data Cx hG hH (Nat.lt_of_lt_of_le hj4 (by decide)) q_fl_X7_196 dX7_keepUnwrapped_103 ?_
          refine g_X0_size Cx hG hH (by have := hj4; omega) q_fl_X7_89 dX7_keepUnwrapped_106 ?_
          refine mv_eqi (x' := nI (us.length - 101)) (by simp [mM, m3]) ?_
          refine mv_cpb Cx hG hO hH hS (isC_3 (by decide)) (isC_3 (by have := hj4; omega)) 69 0 (us.length - 101) (rfl) (rfl) (rfl) (by rw [mLn_0]; omega) (by rw [mLn_o hj4]; omega) q_ml_X7_309 hl.1 (Nat.le_of_ble_eq_true rfl) (by decide) dX7_keepUnwrapped_109 (fun H locs hH hS => ?_)
          refine lv_iload_n hx hb dX7_keepUnwrapped_112 rfl (lv_at hl 2 rfl) ?_
          exact mv_reti Cx hr hH hS (by rw [hff]; rfl) (⟨fun z => by (rw [hff] at z; cases z), fun i hi => by
                      rw [hff] at hi; cases hi
                      refine ⟨by simp [mM, mAB, m3], fun q hq => ?_, fun q hq => ?_, bHas.of (by simp [mM, mAB, m3]) (by rw [mLn_o hj4]; omega) (fun q hq => ?_), ((((mSame.M (Or.inl ⟨Or.inl rfl, rfl⟩)).tr (mSame.AB (Or.inl ⟨Or.inr (Or.inr rfl), rfl⟩))).tr (mSame.AB (Or.inl ⟨Or.inr (Or.inl rfl), rfl⟩))).tr (mSame.M (Or.inr ⟨Or.inl rfl, rfl⟩))).tr (mSame.AB (Or.inr ⟨Or.inr rfl, rfl⟩))⟩
                      · rw [← hus.2.2 (4 + q) (by omega)]; simp [mM, mAB, mA, va_cpy, hq]
                      · rw [← hus.2.2 (36 + q) (by omega)]; simp [mM, mAB, mA, va_cpy, hq]
                      · rw [← hus.2.2 (69 + q) (by omega)]; simp [mM, mAB, mA, va_cpy, hq]⟩) dX7_keepUnwrapped_113 hlocks
  exact lp (4 - 0 + 1) 0 S _ _ ls  (by omega) (by omega) (⟨rfl, fun q h => absurd h (Nat.not_lt_zero _)⟩) hH hS (lv_sub hl [1, 0] rfl)
