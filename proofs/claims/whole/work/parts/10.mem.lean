/-! ===== memory as numbers: ints and booleans, bytes, longs, each by kind, number of the object, place ===== -/
abbrev mSt : Type := (Nat → Nat → Nat → Int32) × (Nat → Nat → Nat → Int8) × (Nat → Nat → Nat → Int64)
/-- classes and slots, array classes, where the block of cells begins -/
abbrev mEv : Type := va_G × (Nat → ClassId) × Nat
def m3 {α : Type} (f : Nat → Nat → Nat → α) (k i j : Nat) (v : α) : Nat → Nat → Nat → α := fun k' i' j' => if k' = k ∧ i' = i ∧ j' = j then v else f k' i' j'
def mA {α : Type} (f : Nat → Nat → Nat → α) (k i : Nat) (g : Nat → α) : Nat → Nat → Nat → α := fun k' i' j' => if k' = k ∧ i' = i then g j' else f k' i' j'
def mM (S : mSt) (k i j : Nat) (v : Int32) : mSt := (m3 S.1 k i j v, S.2.1, S.2.2)
def mB (S : mSt) (k i j : Nat) (v : Int8) : mSt := (S.1, m3 S.2.1 k i j v, S.2.2)
def mJ (S : mSt) (k i j : Nat) (v : Int64) : mSt := (S.1, S.2.1, m3 S.2.2 k i j v)
def mAM (S : mSt) (k i : Nat) (g : Nat → Int32) : mSt := (mA S.1 k i g, S.2.1, S.2.2)
def mAB (S : mSt) (k i : Nat) (g : Nat → Int8) : mSt := (S.1, mA S.2.1 k i g, S.2.2)
/-- a layout: its cells by kind and number; their addresses; what each holds -/
abbrev mLY : Type := List (Nat × Nat) × (mEv → Nat → Nat → Nat) × (mEv → mSt → Nat → Nat → va_E)
def mWl (Y : mLY) (E : mEv) (S : mSt) : va_W := Y.1.map (fun q => (Y.2.1 E q.1 q.2, Y.2.2 E S q.1 q.2))
def mHold (Y : mLY) (E : mEv) (S : mSt) (H : Heap) : Prop := va_P E.1 vwCl (mWl Y E S) H
/-- what a cell holds is told by the numbers of that cell alone; no cell stands twice in the list -/
theorem mNd {l : List (Nat × Nat)} (h : l.Nodup) (a b : Nat) (q : Nat × Nat) (ha : l[a]? = some q) (hb : l[b]? = some q) : a = b := by
  have hp := List.pairwise_iff_getElem.mp h
  obtain ⟨la, ea⟩ := List.getElem?_eq_some_iff.mp ha
  obtain ⟨lb, eb⟩ := List.getElem?_eq_some_iff.mp hb
  rcases Nat.lt_trichotomy a b with g | g | g
  · exact absurd (ea.trans eb.symm) (hp a b la lb g)
  · exact g
  · exact absurd (eb.trans ea.symm) (hp b a lb la g)
def mGood (Y : mLY) : Prop := Y.1.Nodup ∧ ∀ (E : mEv) (S S' : mSt) (k i : Nat), (∀ j, S'.1 k i j = S.1 k i j) → (∀ j, S'.2.1 k i j = S.2.1 k i j) → (∀ j, S'.2.2 k i j = S.2.2 k i j) → Y.2.2 E S' k i = Y.2.2 E S k i
/-- the cells are apart, and may be written -/
def mOwn (Y : mLY) (E : mEv) (A : Nat → Prop) : Prop := mGood Y ∧ ∀ S : mSt, va_D A (mWl Y E S)
def mTys (E : mEv) : List (ClassId × FieldType) := [(E.2.1 0, .byte), (E.2.1 1, .int), (E.2.1 2, .long), (E.2.1 3, .boolean), (E.2.1 4, .object RX4), (E.2.1 5, .object RX5), (E.2.1 6, .object RX6)]
def mKL : List Int32 := [1116352408, 1899447441, -1245643825, -373957723, 961987163, 1508970993, -1841331548, -1424204075, -670586216, 310598401, 607225278, 1426881987, 1925078388, -2132889090, -1680079193, -1046744716, -459576895, -272742522, 264347078, 604807628, 770255983, 1249150122, 1555081692, 1996064986, -1740746414, -1473132947, -1341970488, -1084653625, -958395405, -710438585, 113926993, 338241895, 666307205, 773529912, 1294757372, 1396182291, 1695183700, 1986661051, -2117940946, -1838011259, -1564481375, -1474664885, -1035236496, -949202525, -778901479, -694614492, -200395387, 275423344, 430227734, 506948616, 659060556, 883997877, 958139571, 1322822218, 1537002063, 1747873779, 1955562222, 2024104815, -2067236844, -1933114872, -1866530822, -1538233109, -1090935817, -965641998]
def mIL : List Int32 := [1779033703, -1150833019, 1013904242, -1521486534, 1359893119, -1694144372, 528734635, 1541459225]
def mK (j : Nat) : Int32 := mKL.getD j 0
def mI (j : Nat) : Int32 := mIL.getD j 0
/-- a static array of ints that nobody writes -/
def mSa (C n : String) (N : Nat) (f : Nat → Int32) (A : Nat → Prop) (U : State) (H : Heap) : Prop := ∃ t : Nat, va_Z C n "[I" (.ref t) A U H ∧ va_T .int t N (fun j => .int (f j)) A U H
theorem mSa.moved {C n : String} {N : Nat} {f : Nat → Int32} {A : Nat → Prop} {u U : State} {H : Heap} (hvm : u.vm.Alike U.vm) (h : mSa C n N f A u H) : mSa C n N f A U H := by
  obtain ⟨t, h1, h2⟩ := h
  exact ⟨t, h1.moved hvm, h2.moved hvm⟩
theorem mSa.kept {C n : String} {N : Nat} {f : Nat → Int32} {A : Nat → Prop} {U : State} {H H1 : Heap} (h : mSa C n N f A U H) (hq : ∀ a : Nat, a < H.size → ¬ A a → H1[a]? = H[a]?) : mSa C n N f A U H1 := by
  obtain ⟨t, h1, h2⟩ := h
  exact ⟨t, h1.kept hq, h2.kept hq⟩
theorem mSa.narrow {C n : String} {N : Nat} {f : Nat → Int32} {A B : Nat → Prop} {U : State} {H : Heap} (h : mSa C n N f A U H) (hAB : ∀ q, B q → A q) : mSa C n N f B U H := by
  obtain ⟨t, h1, h2⟩ := h
  exact ⟨t, h1.narrow hAB, h2.narrow hAB⟩
def mSs (A : Nat → Prop) (U : State) (H : Heap) : Prop := mSa RX1 "START" 8 mI A U H ∧ mSa RX1 "ROUND" 64 mK A U H ∧ mSa RX8 "BEGIN" 8 mI A U H ∧ mSa RX8 "ROUND" 64 mK A U H
/-- what every method is told of the machine's tables and of the static arrays -/
def mG (E : mEv) (A : Nat → Prop) (U : State) : Prop := va_K E.1 vwCl (mTys E) U ∧ va_Nw (.methodLinkNest RX3 80 yX7_sameBytes RX7) U ∧ mSs A U U.heap
theorem mG.go {E : mEv} {A : Nat → Prop} {s U : State} {H : Heap} {locs : List Loc} (h : mG E A s) (hS : va_S A s.heap H locs) (hU : U.heap = H) (hW : s.WarmedH U.vm) : mG E A U := by
  obtain ⟨h1, h2, a1, a2, a3, a4⟩ := h
  have hq : ∀ a : Nat, a < s.heap.size → ¬ A a → U.heap[a]? = s.heap[a]? := fun a q1 q2 => by rw [hU]; exact hS.2.1 a q1 q2
  exact ⟨h1.moved hW.alike, h2.warmM hW, (a1.kept hq).moved hW.alike, (a2.kept hq).moved hW.alike, (a3.kept hq).moved hW.alike, (a4.kept hq).moved hW.alike⟩
theorem mG.blind {E : mEv} {A : Nat → Prop} {U : State} (h : mG E A U) (g : JFrame) (mk : MethodId) (a : Array Value) : mG E A (U.calling g mk a) := by
  obtain ⟨h1, h2, a1, a2, a3, a4⟩ := h
  have hv : U.vm.Alike (U.calling g mk a).vm := Vm.Alike.refl U.vm
  exact ⟨h1.moved hv, h2.same rfl rfl, a1.moved hv, a2.moved hv, a3.moved hv, a4.moved hv⟩
/-- a method's start and end -/
def mPc (Y : mLY) (E : mEv) (A : Nat → Prop) (S : mSt) (av : List Value) : Array Value → State → Prop := va_Pc av (fun U => mG E A U ∧ mHold Y E S U.heap)
def mQ (Y : mLY) (E : mEv) (A : Nat → Prop) (P : mSt → Prop) (v : Option Value) : Array Value → State → Outcome → State → Prop := fun _ st oc t => (oc = .returned v ∧ ∃ S : mSt, P S ∧ mHold Y E S t.heap) ∧ va_F A st t
abbrev mRm (d q : Nat) : Room := { frames := d, cells := 0, slots := 0, locals := q }
theorem mPc.blind {Y : mLY} {E : mEv} {A : Nat → Prop} {S : mSt} {av : List Value} : FrameBlind (mPc Y E A S av) := fun a _ g mk h => ⟨h.1, h.2.1.blind g mk a, h.2.2⟩
theorem mWl_at {Y : mLY} {E : mEv} {S : mSt} {q0 k i : Nat} (h : Y.1[q0]? = some (k, i)) : (mWl Y E S)[q0]? = some (Y.2.1 E k i, Y.2.2 E S k i) := by
  simp [mWl, h]
theorem mWl_find {Y : mLY} {k i : Nat} (h : (k, i) ∈ Y.1) : ∃ q0 : Nat, Y.1[q0]? = some (k, i) := List.getElem?_of_mem h
theorem mWl_set {Y : mLY} {E : mEv} {S S' : mSt} {q0 k i : Nat} {e : va_E} (hg : mGood Y) (h : Y.1[q0]? = some (k, i)) (he : Y.2.2 E S' k i = e) (h1 : ∀ k' i', ¬ (k' = k ∧ i' = i) → ∀ j, S'.1 k' i' j = S.1 k' i' j) (h2 : ∀ k' i', ¬ (k' = k ∧ i' = i) → ∀ j, S'.2.1 k' i' j = S.2.1 k' i' j) (h3 : ∀ k' i', ¬ (k' = k ∧ i' = i) → ∀ j, S'.2.2 k' i' j = S.2.2 k' i' j) : (mWl Y E S).set q0 (Y.2.1 E k i, e) = mWl Y E S' := by
  have hl := (List.getElem?_eq_some_iff.mp h).1
  apply List.ext_getElem?
  intro j
  by_cases hj : j = q0
  · subst hj
    rw [List.getElem?_set_self (by simp [mWl]; exact hl), mWl_at h, he]
  · rw [List.getElem?_set_ne (Ne.symm hj)]
    simp only [mWl, List.getElem?_map]
    cases hq : Y.1[j]? with
    | none => rfl
    | some q =>
      have hne : ¬ (q.1 = k ∧ q.2 = i) := by
        intro hh
        have hq2 : Y.1[j]? = some (k, i) := by rw [hq, ← hh.1, ← hh.2]
        exact hj (mNd hg.1 j q0 _ hq2 h)
      simp only [Option.map_some]
      rw [hg.2 E S S' q.1 q.2 (h1 _ _ hne) (h2 _ _ hne) (h3 _ _ hne)]
theorem m3_ne {α : Type} (f : Nat → Nat → Nat → α) {k i j k' i' : Nat} (v : α) (h : ¬ (k' = k ∧ i' = i)) (j' : Nat) : m3 f k i j v k' i' j' = f k' i' j' := by
  unfold m3
  rw [if_neg]
  intro q
  exact h ⟨q.1, q.2.1⟩
theorem mA_ne {α : Type} (f : Nat → Nat → Nat → α) {k i k' i' : Nat} (g : Nat → α) (h : ¬ (k' = k ∧ i' = i)) (j' : Nat) : mA f k i g k' i' j' = f k' i' j' := by
  unfold mA
  rw [if_neg h]
theorem mWl_M {Y : mLY} {E : mEv} {S : mSt} {q0 k i j : Nat} {v : Int32} {e : va_E} (hg : mGood Y) (h : Y.1[q0]? = some (k, i)) (he : Y.2.2 E (mM S k i j v) k i = e) : (mWl Y E S).set q0 (Y.2.1 E k i, e) = mWl Y E (mM S k i j v) :=
  mWl_set hg h he (fun _ _ q j' => m3_ne _ _ q j') (fun _ _ _ _ => rfl) (fun _ _ _ _ => rfl)
theorem mWl_J {Y : mLY} {E : mEv} {S : mSt} {q0 k i j : Nat} {v : Int64} {e : va_E} (hg : mGood Y) (h : Y.1[q0]? = some (k, i)) (he : Y.2.2 E (mJ S k i j v) k i = e) : (mWl Y E S).set q0 (Y.2.1 E k i, e) = mWl Y E (mJ S k i j v) :=
  mWl_set hg h he (fun _ _ _ _ => rfl) (fun _ _ _ _ => rfl) (fun _ _ q j' => m3_ne _ _ q j')
theorem mWl_B {Y : mLY} {E : mEv} {S : mSt} {q0 k i j : Nat} {v : Int8} {e : va_E} (hg : mGood Y) (h : Y.1[q0]? = some (k, i)) (he : Y.2.2 E (mB S k i j v) k i = e) : (mWl Y E S).set q0 (Y.2.1 E k i, e) = mWl Y E (mB S k i j v) :=
  mWl_set hg h he (fun _ _ _ _ => rfl) (fun _ _ q j' => m3_ne _ _ q j') (fun _ _ _ _ => rfl)
theorem mWl_AB {Y : mLY} {E : mEv} {S : mSt} {q0 k i : Nat} {g : Nat → Int8} {e : va_E} (hg : mGood Y) (h : Y.1[q0]? = some (k, i)) (he : Y.2.2 E (mAB S k i g) k i = e) : (mWl Y E S).set q0 (Y.2.1 E k i, e) = mWl Y E (mAB S k i g) :=
  mWl_set hg h he (fun _ _ _ _ => rfl) (fun _ _ q j' => mA_ne _ _ q j') (fun _ _ _ _ => rfl)
theorem mWl_AM {Y : mLY} {E : mEv} {S : mSt} {q0 k i : Nat} {g : Nat → Int32} {e : va_E} (hg : mGood Y) (h : Y.1[q0]? = some (k, i)) (he : Y.2.2 E (mAM S k i g) k i = e) : (mWl Y E S).set q0 (Y.2.1 E k i, e) = mWl Y E (mAM S k i g) :=
  mWl_set hg h he (fun _ _ q j' => mA_ne _ _ q j') (fun _ _ _ _ => rfl) (fun _ _ _ _ => rfl)
/-! ===== rows ===== -/
section MVR
variable {p : Program} {l : Launch} {e : Env} {R : Room} {s : State} {m : MethodId} {args : Array Value} {below : List Frame} {meth : Method} {c : Code} {H : Heap} {locs : List Loc} {cells slots : Nat} {Q : State → Prop}
variable {cc : ByteArray} {pc nL : Nat} {ls : Array Slot} {rest : List Value} {A : Nat → Prop} {Y : mLY} {E : mEv} {S : mSt} {cd : Cond} {own : String}
theorem mv_get (Cx : CallFix p m c cc nL s args (cd :: mv_ws) own) (hG : mG E A s) (hH : mHold Y E S H) {C : String} {T : u_T} {N ci index : Nat} (hin : ∀ w ∈ u_ws C T N, w ∈ mv_ws) (k i : Nat) (hok : (k, i) ∈ Y.1) {fs : List Value} (he : Y.2.2 E S k i = .inr (ci, fs)) (hc : vwCl[ci]? = some (C, T, N)) (j : Nat) (hj : j < N) (hl : Cond.fieldLink own index (T j).1 (T j).2.1 (T j).2.2.1 ∈ mv_ws) {v : Value} (hv : fs[j]? = some v) (hdg : decode cc pc = .ok (.getfield index, 3))
    (kk : W p l e R s m args below meth c H locs cells slots Q (F0 m (pc + 3) ls (v :: rest))) : W p l e R s m args below meth c H locs cells slots Q (F0 m pc ls (.ref (Y.2.1 E k i) :: rest)) := by
  obtain ⟨hx, hb, -, ho, hts⟩ := Cx
  obtain ⟨q0, hq⟩ := mWl_find hok
  exact va_get hx hb (Ts := mv_ws) (fun w h => hts w (List.mem_cons_of_mem _ h)) hin ho hG.1 hH q0 ((mWl_at hq).trans (by rw [he])) hc j hj (hts _ (List.mem_cons_of_mem _ hl)) (fun _ h => h) hv hdg kk
theorem mv_putM (Cx : CallFix p m c cc nL s args (cd :: mv_ws) own) (hG : mG E A s) (hO : mOwn Y E A) (hH : mHold Y E S H) (hS : va_S A s.heap H locs) {C : String} {T : u_T} {N ci index : Nat} (hin : ∀ w ∈ u_ws C T N, w ∈ mv_ws) (ty0 : Nat → FieldType) (hty : ∀ k, k < N → parseFieldDescriptor (T k).2.2.1 = some (ty0 k)) (hnm : ∀ a, a < N → ∀ b, b < N → a ≠ b → (T a).2.1 ≠ (T b).2.1) (k i : Nat) (hok : (k, i) ∈ Y.1) {fs : List Value} (he : Y.2.2 E S k i = .inr (ci, fs)) (hc : vwCl[ci]? = some (C, T, N)) (j : Nat) (hj : j < N) (hl : Cond.fieldLink own index (T j).1 (T j).2.1 (T j).2.2.1 ∈ mv_ws) (hfin : (T j).2.2.2 = false) {ty : FieldType} {v : Int32} (hd : parseFieldDescriptor (T j).2.2.1 = some ty) (hn : narrow ty (.int v) = .int v) (hfit : fits ty (.int v) = true) (hlen : j < fs.length) (he' : Y.2.2 E (mM S k i j v) k i = .inr (ci, fs.set j (.int v))) (hdg : decode cc pc = .ok (.putfield index, 3))
    (kk : ∀ (H1 : Heap) (locs1 : List Loc), mHold Y E (mM S k i j v) H1 → va_S A s.heap H1 locs1 → W p l e R s m args below meth c H1 locs1 cells slots Q (F0 m (pc + 3) ls rest)) : W p l e R s m args below meth c H locs cells slots Q (F0 m pc ls (.int v :: .ref (Y.2.1 E k i) :: rest)) := by
  obtain ⟨hx, hb, -, ho, hts⟩ := Cx
  obtain ⟨q0, hq⟩ := mWl_find hok
  refine va_put hx hb (Ts := mv_ws) (fun w h => hts w (List.mem_cons_of_mem _ h)) hin ty0 hty hnm ho hG.1 hH (hO.2 S) hS q0 ((mWl_at hq).trans (by rw [he])) hc j hj (hts _ (List.mem_cons_of_mem _ hl)) (fun _ h => h) hfin hd hn hfit hlen hdg (fun H1 locs1 hP _ hS1 => kk H1 locs1 ?_ hS1)
  rw [mWl_M hO.1 hq he'] at hP
  exact hP
theorem mv_putJ (Cx : CallFix p m c cc nL s args (cd :: mv_ws) own) (hG : mG E A s) (hO : mOwn Y E A) (hH : mHold Y E S H) (hS : va_S A s.heap H locs) {C : String} {T : u_T} {N ci index : Nat} (hin : ∀ w ∈ u_ws C T N, w ∈ mv_ws) (ty0 : Nat → FieldType) (hty : ∀ k, k < N → parseFieldDescriptor (T k).2.2.1 = some (ty0 k)) (hnm : ∀ a, a < N → ∀ b, b < N → a ≠ b → (T a).2.1 ≠ (T b).2.1) (k i : Nat) (hok : (k, i) ∈ Y.1) {fs : List Value} (he : Y.2.2 E S k i = .inr (ci, fs)) (hc : vwCl[ci]? = some (C, T, N)) (j : Nat) (hj : j < N) (hl : Cond.fieldLink own index (T j).1 (T j).2.1 (T j).2.2.1 ∈ mv_ws) (hfin : (T j).2.2.2 = false) {ty : FieldType} {v : Int64} (hd : parseFieldDescriptor (T j).2.2.1 = some ty) (hn : narrow ty (.long v) = .long v) (hfit : fits ty (.long v) = true) (hlen : j < fs.length) (he' : Y.2.2 E (mJ S k i j v) k i = .inr (ci, fs.set j (.long v))) (hdg : decode cc pc = .ok (.putfield index, 3))
    (kk : ∀ (H1 : Heap) (locs1 : List Loc), mHold Y E (mJ S k i j v) H1 → va_S A s.heap H1 locs1 → W p l e R s m args below meth c H1 locs1 cells slots Q (F0 m (pc + 3) ls rest)) : W p l e R s m args below meth c H locs cells slots Q (F0 m pc ls (.long v :: .ref (Y.2.1 E k i) :: rest)) := by
  obtain ⟨hx, hb, -, ho, hts⟩ := Cx
  obtain ⟨q0, hq⟩ := mWl_find hok
  refine va_put hx hb (Ts := mv_ws) (fun w h => hts w (List.mem_cons_of_mem _ h)) hin ty0 hty hnm ho hG.1 hH (hO.2 S) hS q0 ((mWl_at hq).trans (by rw [he])) hc j hj (hts _ (List.mem_cons_of_mem _ hl)) (fun _ h => h) hfin hd hn hfit hlen hdg (fun H1 locs1 hP _ hS1 => kk H1 locs1 ?_ hS1)
  rw [mWl_J hO.1 hq he'] at hP
  exact hP
/-- a byte array's cell, an int array's, a boolean array's, a long array's, as the layout has it -/
def mIsB (Y : mLY) (k i n : Nat) : Prop := (k, i) ∈ Y.1 ∧ n < 2 ^ 31 ∧ ∀ (E : mEv) (S : mSt), Y.2.2 E S k i = .inl (E.2.1 0, n, .inl (fun j => (S.2.1 k i j).toInt32))
def mIsI (Y : mLY) (k i n : Nat) : Prop := (k, i) ∈ Y.1 ∧ n < 2 ^ 31 ∧ ∀ (E : mEv) (S : mSt), Y.2.2 E S k i = .inl (E.2.1 1, n, .inl (fun j => S.1 k i j))
def mIsZ (Y : mLY) (k i n : Nat) : Prop := (k, i) ∈ Y.1 ∧ n < 2 ^ 31 ∧ ∀ (E : mEv) (S : mSt), Y.2.2 E S k i = .inl (E.2.1 3, n, .inl (fun j => S.1 k i j))
def mIsJ (Y : mLY) (k i n : Nat) : Prop := (k, i) ∈ Y.1 ∧ n < 2 ^ 31 ∧ ∀ (E : mEv) (S : mSt), Y.2.2 E S k i = .inl (E.2.1 2, n, .inr (.inl (fun j => S.2.2 k i j)))
theorem mv_bal (Cx : CallFix p m c cc nL s args (cd :: mv_ws) own) (hG : mG E A s) (hH : mHold Y E S H) {k i n : Nat} (hB : mIsB Y k i n) (j : Nat) {x : Int32} (hx : x = nI j) (hj : j < n) (hdg : decode cc pc = .ok (.baload, 1))
    (kk : W p l e R s m args below meth c H locs cells slots Q (F0 m (pc + 1) ls (.int (S.2.1 k i j).toInt32 :: rest))) : W p l e R s m args below meth c H locs cells slots Q (F0 m pc ls (.int x :: .ref (Y.2.1 E k i) :: rest)) := by
  subst hx
  obtain ⟨q0, hq⟩ := mWl_find hB.1
  have hlt : j < 2 ^ 31 := Nat.lt_trans hj hB.2.1
  refine va_bald Cx.1 Cx.2.1 hG.1 hH q0 0 (f := fun j => (S.2.1 k i j).toInt32) ((mWl_at hq).trans (by rw [hB.2.2 E S])) rfl (vp_in_nI hj hB.2.1) hdg ?_
  rw [nI_clamp hlt]
  exact kk
theorem mv_ial (Cx : CallFix p m c cc nL s args (cd :: mv_ws) own) (hG : mG E A s) (hH : mHold Y E S H) {k i n : Nat} (hB : mIsI Y k i n) (j : Nat) {x : Int32} (hx : x = nI j) (hj : j < n) (hdg : decode cc pc = .ok (.iaload, 1))
    (kk : W p l e R s m args below meth c H locs cells slots Q (F0 m (pc + 1) ls (.int (S.1 k i j) :: rest))) : W p l e R s m args below meth c H locs cells slots Q (F0 m pc ls (.int x :: .ref (Y.2.1 E k i) :: rest)) := by
  subst hx
  obtain ⟨q0, hq⟩ := mWl_find hB.1
  have hlt : j < 2 ^ 31 := Nat.lt_trans hj hB.2.1
  refine va_iald Cx.1 Cx.2.1 hG.1 hH q0 1 (f := fun j => S.1 k i j) ((mWl_at hq).trans (by rw [hB.2.2 E S])) rfl (vp_in_nI hj hB.2.1) hdg ?_
  rw [nI_clamp hlt]
  exact kk
theorem mv_zal (Cx : CallFix p m c cc nL s args (cd :: mv_ws) own) (hG : mG E A s) (hH : mHold Y E S H) {k i n : Nat} (hB : mIsZ Y k i n) (j : Nat) {x : Int32} (hx : x = nI j) (hj : j < n) (hdg : decode cc pc = .ok (.baload, 1))
    (kk : W p l e R s m args below meth c H locs cells slots Q (F0 m (pc + 1) ls (.int (S.1 k i j) :: rest))) : W p l e R s m args below meth c H locs cells slots Q (F0 m pc ls (.int x :: .ref (Y.2.1 E k i) :: rest)) := by
  subst hx
  obtain ⟨q0, hq⟩ := mWl_find hB.1
  have hlt : j < 2 ^ 31 := Nat.lt_trans hj hB.2.1
  refine va_zald Cx.1 Cx.2.1 hG.1 hH q0 3 (f := fun j => S.1 k i j) ((mWl_at hq).trans (by rw [hB.2.2 E S])) rfl (vp_in_nI hj hB.2.1) hdg ?_
  rw [nI_clamp hlt]
  exact kk
theorem mv_lal (Cx : CallFix p m c cc nL s args (cd :: mv_ws) own) (hG : mG E A s) (hH : mHold Y E S H) {k i n : Nat} (hB : mIsJ Y k i n) (j : Nat) {x : Int32} (hx : x = nI j) (hj : j < n) (hdg : decode cc pc = .ok (.laload, 1))
    (kk : W p l e R s m args below meth c H locs cells slots Q (F0 m (pc + 1) ls (.long (S.2.2 k i j) :: rest))) : W p l e R s m args below meth c H locs cells slots Q (F0 m pc ls (.int x :: .ref (Y.2.1 E k i) :: rest)) := by
  subst hx
  obtain ⟨q0, hq⟩ := mWl_find hB.1
  have hlt : j < 2 ^ 31 := Nat.lt_trans hj hB.2.1
  refine va_lald Cx.1 Cx.2.1 hG.1 hH q0 2 (f := fun j => S.2.2 k i j) ((mWl_at hq).trans (by rw [hB.2.2 E S])) rfl (vp_in_nI hj hB.2.1) hdg ?_
  rw [nI_clamp hlt]
  exact kk
theorem mv_updB (f : Nat → Nat → Nat → Int8) (k i j : Nat) (x : Int32) : (fun q => (m3 f k i j x.toInt8 k i q).toInt32) = upd (fun q => (f k i q).toInt32) j (vp_nar .byte x) := by
  funext q
  rw [vp_nar_byte]
  by_cases h : q = j
  · subst h; simp [m3, upd]
  · simp [m3, upd, h]
theorem mv_updI (f : Nat → Nat → Nat → Int32) (k i j : Nat) (x : Int32) : (fun q => m3 f k i j x k i q) = upd (fun q => f k i q) j x := by
  funext q
  by_cases h : q = j
  · subst h; simp [m3, upd]
  · simp [m3, upd, h]
theorem mv_updJ (f : Nat → Nat → Nat → Int64) (k i j : Nat) (x : Int64) : (fun q => m3 f k i j x k i q) = vp_updL (fun q => f k i q) j x := by
  funext q
  by_cases h : q = j
  · subst h; simp [m3, vp_updL]
  · simp [m3, vp_updL, h]
theorem mv_bas (Cx : CallFix p m c cc nL s args (cd :: mv_ws) own) (hG : mG E A s) (hO : mOwn Y E A) (hH : mHold Y E S H) (hS : va_S A s.heap H locs) {k i n : Nat} (hB : mIsB Y k i n) (j : Nat) {x v : Int32} (hx : x = nI j) (hj : j < n) (hdg : decode cc pc = .ok (.bastore, 1))
    (kk : ∀ (H1 : Heap) (locs1 : List Loc), mHold Y E (mB S k i j v.toInt8) H1 → va_S A s.heap H1 locs1 → W p l e R s m args below meth c H1 locs1 cells slots Q (F0 m (pc + 1) ls rest)) : W p l e R s m args below meth c H locs cells slots Q (F0 m pc ls (.int v :: .int x :: .ref (Y.2.1 E k i) :: rest)) := by
  subst hx
  obtain ⟨q0, hq⟩ := mWl_find hB.1
  have hlt : j < 2 ^ 31 := Nat.lt_trans hj hB.2.1
  refine va_bast Cx.1 Cx.2.1 hG.1 hH (hO.2 S) hS q0 0 (f := fun j => (S.2.1 k i j).toInt32) ((mWl_at hq).trans (by rw [hB.2.2 E S])) rfl (vp_in_nI hj hB.2.1) hdg (fun H1 locs1 hP _ hS1 => kk H1 locs1 ?_ hS1)
  rw [nI_clamp hlt, mWl_B hO.1 hq (hB.2.2 E (mB S k i j v.toInt8) |>.trans (by rw [← mv_updB]; rfl))] at hP
  exact hP
theorem mv_ias (Cx : CallFix p m c cc nL s args (cd :: mv_ws) own) (hG : mG E A s) (hO : mOwn Y E A) (hH : mHold Y E S H) (hS : va_S A s.heap H locs) {k i n : Nat} (hB : mIsI Y k i n) (j : Nat) {x v : Int32} (hx : x = nI j) (hj : j < n) (hdg : decode cc pc = .ok (.iastore, 1))
    (kk : ∀ (H1 : Heap) (locs1 : List Loc), mHold Y E (mM S k i j v) H1 → va_S A s.heap H1 locs1 → W p l e R s m args below meth c H1 locs1 cells slots Q (F0 m (pc + 1) ls rest)) : W p l e R s m args below meth c H locs cells slots Q (F0 m pc ls (.int v :: .int x :: .ref (Y.2.1 E k i) :: rest)) := by
  subst hx
  obtain ⟨q0, hq⟩ := mWl_find hB.1
  have hlt : j < 2 ^ 31 := Nat.lt_trans hj hB.2.1
  refine va_iast Cx.1 Cx.2.1 hG.1 hH (hO.2 S) hS q0 1 (f := fun j => S.1 k i j) ((mWl_at hq).trans (by rw [hB.2.2 E S])) rfl (vp_in_nI hj hB.2.1) hdg (fun H1 locs1 hP _ hS1 => kk H1 locs1 ?_ hS1)
  rw [nI_clamp hlt, mWl_M hO.1 hq (hB.2.2 E (mM S k i j v) |>.trans (by rw [← mv_updI]; rfl))] at hP
  exact hP
theorem mv_las (Cx : CallFix p m c cc nL s args (cd :: mv_ws) own) (hG : mG E A s) (hO : mOwn Y E A) (hH : mHold Y E S H) (hS : va_S A s.heap H locs) {k i n : Nat} (hB : mIsJ Y k i n) (j : Nat) {x : Int32} {v : Int64} (hx : x = nI j) (hj : j < n) (hdg : decode cc pc = .ok (.lastore, 1))
    (kk : ∀ (H1 : Heap) (locs1 : List Loc), mHold Y E (mJ S k i j v) H1 → va_S A s.heap H1 locs1 → W p l e R s m args below meth c H1 locs1 cells slots Q (F0 m (pc + 1) ls rest)) : W p l e R s m args below meth c H locs cells slots Q (F0 m pc ls (.long v :: .int x :: .ref (Y.2.1 E k i) :: rest)) := by
  subst hx
  obtain ⟨q0, hq⟩ := mWl_find hB.1
  have hlt : j < 2 ^ 31 := Nat.lt_trans hj hB.2.1
  refine va_last Cx.1 Cx.2.1 hG.1 hH (hO.2 S) hS q0 2 (f := fun j => S.2.2 k i j) ((mWl_at hq).trans (by rw [hB.2.2 E S])) rfl (vp_in_nI hj hB.2.1) hdg (fun H1 locs1 hP _ hS1 => kk H1 locs1 ?_ hS1)
  rw [nI_clamp hlt, mWl_J hO.1 hq (hB.2.2 E (mJ S k i j v) |>.trans (by rw [← mv_updJ]; rfl))] at hP
  exact hP
theorem mv_blen (Cx : CallFix p m c cc nL s args (cd :: mv_ws) own) (hG : mG E A s) (hH : mHold Y E S H) {k i n : Nat} (hB : mIsB Y k i n) (hdg : decode cc pc = .ok (.arraylength, 1))
    (kk : W p l e R s m args below meth c H locs cells slots Q (F0 m (pc + 1) ls (.int (nI n) :: rest))) : W p l e R s m args below meth c H locs cells slots Q (F0 m pc ls (.ref (Y.2.1 E k i) :: rest)) := by
  obtain ⟨q0, hq⟩ := mWl_find hB.1
  exact va_alen Cx.1 Cx.2.1 hG.1 hH q0 0 (x := (n, .inl (fun j => (S.2.1 k i j).toInt32))) ((mWl_at hq).trans (by rw [hB.2.2 E S])) (ty := .byte) rfl rfl hdg kk
theorem mv_ilen (Cx : CallFix p m c cc nL s args (cd :: mv_ws) own) (hG : mG E A s) (hH : mHold Y E S H) {k i n : Nat} (hB : mIsI Y k i n) (hdg : decode cc pc = .ok (.arraylength, 1))
    (kk : W p l e R s m args below meth c H locs cells slots Q (F0 m (pc + 1) ls (.int (nI n) :: rest))) : W p l e R s m args below meth c H locs cells slots Q (F0 m pc ls (.ref (Y.2.1 E k i) :: rest)) := by
  obtain ⟨q0, hq⟩ := mWl_find hB.1
  exact va_alen Cx.1 Cx.2.1 hG.1 hH q0 1 (x := (n, .inl (fun j => S.1 k i j))) ((mWl_at hq).trans (by rw [hB.2.2 E S])) (ty := .int) rfl rfl hdg kk
end MVR
