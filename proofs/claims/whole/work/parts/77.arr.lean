/-! ===== arrays of references, place by place ===== -/
theorem arrV_cg (c : ClassId) (n : Nat) (f g : Nat → Value) (h : ∀ j, j < n → f j = g j) : arrV c n f = arrV c n g := by
  unfold arrV
  congr 1
  first
  | (apply Array.ext (by simp); intro i h1 h2; simp at h1 ⊢; exact h i h1)
  | (apply Array.ext (by simp); intro i h1 h2; simp at h1 ⊢; exact h i (by simpa using h1))
section CGT
variable {p : Program} {l : Launch} {e : Env} {R : Room} {s : State} {m : MethodId} {args : Array Value} {below : List Frame} {meth : Method} {c : Code} {H : Heap} {locs : List Loc} {cells slots : Nat} {Q : State → Prop}
variable {cc : ByteArray} {pc nL : Nat} {ls : Array Slot} {rest : List Value} {A : Nat → Prop} {E : mEv} {cd : Cond} {own : String}
theorem cx_get (Cx : CallFix p m c cc nL s args (cd :: mv_ws) own) (hK : cK E s) {C : String} {T : u_T} {N ci index a : Nat} (hin : ∀ w ∈ u_ws C T N, w ∈ mv_ws) {fs : List Value} (h0 : cAt E a (.inr (ci, fs)) H) (hc : vwCl[ci]? = some (C, T, N)) (k : Nat) (hk : k < N) (ql : Cond.fieldLink own index (T k).1 (T k).2.1 (T k).2.2.1 ∈ mv_ws) {v : Value} (hv : fs[k]? = some v) (hdg : decode cc pc = .ok (.getfield index, 3))
    (kk : W p l e R s m args below meth c H locs cells slots Q (F0 m (pc + 3) ls (v :: rest))) : W p l e R s m args below meth c H locs cells slots Q (F0 m pc ls (.ref a :: rest)) := by
  have hts : ∀ w ∈ mv_ws, w.before args s = true := fun w h => Cx.2.2.2.2 _ (List.mem_cons_of_mem _ h)
  have hP : va_P E.1 vwCl [(a, .inr (ci, fs))] H := by
    intro k q hk
    obtain rfl : (a, .inr (ci, fs)) = q := by
      have hz : k < 1 := (List.getElem?_eq_some_iff.mp hk).1
      rw [show k = 0 by omega] at hk
      exact Option.some.inj hk
    exact h0
  exact va_get Cx.1 Cx.2.1 (Ts := mv_ws) hts hin Cx.2.2.2.1 hK hP 0 rfl hc k hk (hts _ ql) (fun _ h => h) hv hdg kk
end CGT
theorem mG.narrow {E : mEv} {A A' : Nat → Prop} {U : State} (h : mG E A U) (hA : ∀ q, A' q → A q) : mG E A' U := ⟨h.1, h.2.1, h.2.2.1.narrow hA, h.2.2.2.1.narrow hA, h.2.2.2.2.1.narrow hA, h.2.2.2.2.2.narrow hA⟩
theorem mPC_inj : ∀ q ∈ mPC, ∀ r ∈ mPC, mOff q.1 q.2 = mOff r.1 r.2 → q = r := by decide +kernel
theorem mPC_lt : ∀ q ∈ mPC, mOff q.1 q.2 < 101 := by decide +kernel
theorem mPC_10 : ∀ q ∈ mPC, 1 ≤ mOff q.1 q.2 → mOff q.1 q.2 ≤ 10 → q ∈ mPP := by decide +kernel
theorem mPC_0 : ∀ q ∈ mPC, mOff q.1 q.2 = 0 → q = (0, 0) := by decide +kernel
def aC (E : mEv) : Nat → Prop := fun q => E.2.2 ≤ q ∧ q < E.2.2 + 101
theorem ownC (E : mEv) : mOwn mLC E (aC E) := own_of (fun q => mOff q.1 q.2) mGoodC (fun _ => rfl) (by decide +kernel) (fun q hq => by
  have h := mPC_lt q hq
  exact ⟨by omega, by omega⟩)
/-- the cells up to a place, but one -/
def cF (E : mEv) (S : mSt) (J X : Nat) (H : Heap) : Prop := ∀ q, q ∈ mPC → 1 ≤ mOff q.1 q.2 → mOff q.1 q.2 ≤ J → ¬ mOff q.1 q.2 = X → cAt E (mAdC E q.1 q.2) (mWC E S q.1 q.2) H
theorem cF.new {E : mEv} {S : mSt} {J X z : Nat} {H H1 : Heap} (h : cF E S J X H) (hz : H.size = z) (ho : ∀ q, q < z → H1[q]? = H[q]?) : cF E S J X H1 := fun q a b c d => (h q a b c d).kept (ho _ (Nat.lt_of_lt_of_eq (h q a b c d).lt hz))
theorem cF.put {E : mEv} {S : mSt} {J X a : Nat} {H H1 : Heap} (h : cF E S J X H) (ha : a = 0 ∨ a = X ∨ J < a) (ho : ∀ q, q ≠ E.2.2 + a → H1[q]? = H[q]?) : cF E S J X H1 := fun q a' b c d => (h q a' b c d).kept (ho _ (by unfold mAdC; omega))
theorem cF.call {E : mEv} {S : mSt} {J X a z : Nat} {H H1 : Heap} (h : cF E S J X H) (ha : J < a) (hz : E.2.2 + J < z) (ho : ∀ q, q < z → ¬ cA (E.2.2 + a) z q → H1[q]? = H[q]?) : cF E S J X H1 := fun q a' b c d => (h q a' b c d).kept (ho _ (by unfold mAdC; omega) (by unfold mAdC cA; omega))
theorem cF.add {E : mEv} {S : mSt} {J X k i : Nat} {H : Heap} (h : cF E S J X H) (hm : (k, i) ∈ mPC) (hJ : mOff k i = J + 1) (hc : cAt E (mAdC E k i) (mWC E S k i) H) : cF E S (J + 1) X H := fun q a b c d => by
  rcases Nat.lt_or_ge (mOff q.1 q.2) (J + 1) with g | g
  · exact h q a b (by omega) d
  · obtain rfl : q = (k, i) := mPC_inj q a (k, i) hm (by show _ = mOff k i; omega)
    exact hc
theorem cF.skip {E : mEv} {S : mSt} {J X : Nat} {H : Heap} (h : cF E S J 0 H) (hX : X = J + 1) : cF E S (J + 1) X H := fun q a b c d => h q a b (by omega) (by omega)
theorem cF.fill {E : mEv} {S : mSt} {J X k i : Nat} {H : Heap} (h : cF E S J X H) (hm : (k, i) ∈ mPC) (hX : mOff k i = X) (hc : cAt E (mAdC E k i) (mWC E S k i) H) : cF E S J 0 H := fun q a b c d => by
  by_cases g : mOff q.1 q.2 = X
  · obtain rfl : q = (k, i) := mPC_inj q a (k, i) hm (by show _ = mOff k i; omega)
    exact hc
  · exact h q a b c g
theorem cF.all {E : mEv} {S : mSt} {H : Heap} (h : cF E S 100 0 H) (h0 : cAt E (mAdC E 0 0) (mWC E S 0 0) H) : mHold mLC E S H := mHold_of (fun q hq => by
  by_cases g : mOff q.1 q.2 = 0
  · obtain rfl := mPC_0 q hq g
    exact h0
  · exact h q hq (by omega) (by have := mPC_lt q hq; omega) g)
