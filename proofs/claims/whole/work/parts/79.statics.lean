/-! ===== the static arrays, the tables' other words ===== -/
set_option maxRecDepth 100000 in
set_option maxHeartbeats 4000000 in
theorem st_X1_START {args : Array Value} {s : State} (hgv : (Jvm.Cond.and given_1 narrow_1).before args s = true) (hts : ∀ w ∈ lw_tbl, w.before args s = true) (hw : ∀ w ∈ mv_ws, w.before args s = true) : mSa RX1 "START" 8 mI (fun q : Nat => s.heap.size ≤ q) s s.heap := by
  have hs := flat_of_before _ hgv
  have hA : ∀ a : Nat, a < s.heap.size → ¬ (fun q : Nat => s.heap.size ≤ q) a := fun a h => Nat.not_le.mpr h
  obtain ⟨t, ht, hT⟩ := va_Tof (tm := .static RX1 "START" "[I") (ty := .int) (N := 8) (f := fun j => .int (mI j)) (by decide) (hs _ (List.mem_of_getElem? (i := 5) rfl)) (va_eqt (hs _ (List.mem_of_getElem? (i := 6) rfl))) (fun j hj => by
    rcases (show j = 0 ∨ j = 1 ∨ j = 2 ∨ j = 3 ∨ j = 4 ∨ j = 5 ∨ j = 6 ∨ j = 7 by omega) with rfl | rfl | rfl | rfl | rfl | rfl | rfl | rfl
    · exact va_eqt (hs _ (List.mem_of_getElem? (i := 7) rfl))
    · exact va_eqt (hs _ (List.mem_of_getElem? (i := 8) rfl))
    · exact va_eqt (hs _ (List.mem_of_getElem? (i := 9) rfl))
    · exact va_eqt (hs _ (List.mem_of_getElem? (i := 10) rfl))
    · exact va_eqt (hs _ (List.mem_of_getElem? (i := 11) rfl))
    · exact va_eqt (hs _ (List.mem_of_getElem? (i := 12) rfl))
    · exact va_eqt (hs _ (List.mem_of_getElem? (i := 13) rfl))
    · exact va_eqt (hs _ (List.mem_of_getElem? (i := 14) rfl))) hA
  exact ⟨t, va_Zref (hts _ (List.mem_append_right _ (List.mem_append_left _ (List.mem_of_getElem? (i := 94) rfl)))) (hw _ q_in_X1) ht hA, hT⟩
set_option maxRecDepth 100000 in
set_option maxHeartbeats 4000000 in
theorem st_X1_ROUND {args : Array Value} {s : State} (hgv : (Jvm.Cond.and given_1 narrow_1).before args s = true) (hts : ∀ w ∈ lw_tbl, w.before args s = true) (hw : ∀ w ∈ mv_ws, w.before args s = true) : mSa RX1 "ROUND" 64 mK (fun q : Nat => s.heap.size ≤ q) s s.heap := by
  have hs := flat_of_before _ hgv
  have hA : ∀ a : Nat, a < s.heap.size → ¬ (fun q : Nat => s.heap.size ≤ q) a := fun a h => Nat.not_le.mpr h
  obtain ⟨t, ht, hT⟩ := va_Tof (tm := .static RX1 "ROUND" "[I") (ty := .int) (N := 64) (f := fun j => .int (mK j)) (by decide) (hs _ (List.mem_of_getElem? (i := 16) rfl)) (va_eqt (hs _ (List.mem_of_getElem? (i := 17) rfl))) (fun j hj => by
    rcases (show j = 0 ∨ j = 1 ∨ j = 2 ∨ j = 3 ∨ j = 4 ∨ j = 5 ∨ j = 6 ∨ j = 7 ∨ j = 8 ∨ j = 9 ∨ j = 10 ∨ j = 11 ∨ j = 12 ∨ j = 13 ∨ j = 14 ∨ j = 15 ∨ j = 16 ∨ j = 17 ∨ j = 18 ∨ j = 19 ∨ j = 20 ∨ j = 21 ∨ j = 22 ∨ j = 23 ∨ j = 24 ∨ j = 25 ∨ j = 26 ∨ j = 27 ∨ j = 28 ∨ j = 29 ∨ j = 30 ∨ j = 31 ∨ j = 32 ∨ j = 33 ∨ j = 34 ∨ j = 35 ∨ j = 36 ∨ j = 37 ∨ j = 38 ∨ j = 39 ∨ j = 40 ∨ j = 41 ∨ j = 42 ∨ j = 43 ∨ j = 44 ∨ j = 45 ∨ j = 46 ∨ j = 47 ∨ j = 48 ∨ j = 49 ∨ j = 50 ∨ j = 51 ∨ j = 52 ∨ j = 53 ∨ j = 54 ∨ j = 55 ∨ j = 56 ∨ j = 57 ∨ j = 58 ∨ j = 59 ∨ j = 60 ∨ j = 61 ∨ j = 62 ∨ j = 63 by omega) with rfl | rfl | rfl | rfl | rfl | rfl | rfl | rfl | rfl | rfl | rfl | rfl | rfl | rfl | rfl | rfl | rfl | rfl | rfl | rfl | rfl | rfl | rfl | rfl | rfl | rfl | rfl | rfl | rfl | rfl | rfl | rfl | rfl | rfl | rfl | rfl | rfl | rfl | rfl | rfl | rfl | rfl | rfl | rfl | rfl | rfl | rfl | rfl | rfl | rfl | rfl | rfl | rfl | rfl | rfl | rfl | rfl | rfl | rfl | rfl | rfl | rfl | rfl | rfl
    · exact va_eqt (hs _ (List.mem_of_getElem? (i := 18) rfl))
    · exact va_eqt (hs _ (List.mem_of_getElem? (i := 19) rfl))
    · exact va_eqt (hs _ (List.mem_of_getElem? (i := 20) rfl))
    · exact va_eqt (hs _ (List.mem_of_getElem? (i := 21) rfl))
    · exact va_eqt (hs _ (List.mem_of_getElem? (i := 22) rfl))
    · exact va_eqt (hs _ (List.mem_of_getElem? (i := 23) rfl))
    · exact va_eqt (hs _ (List.mem_of_getElem? (i := 24) rfl))
    · exact va_eqt (hs _ (List.mem_of_getElem? (i := 25) rfl))
    · exact va_eqt (hs _ (List.mem_of_getElem? (i := 26) rfl))
    · exact va_eqt (hs _ (List.mem_of_getElem? (i := 27) rfl))
    · exact va_eqt (hs _ (List.mem_of_getElem? (i := 28) rfl))
    · exact va_eqt (hs _ (List.mem_of_getElem? (i := 29) rfl))
    · exact va_eqt (hs _ (List.mem_of_getElem? (i := 30) rfl))
    · exact va_eqt (hs _ (List.mem_of_getElem? (i := 31) rfl))
    · exact va_eqt (hs _ (List.mem_of_getElem? (i := 32) rfl))
    · exact va_eqt (hs _ (List.mem_of_getElem? (i := 33) rfl))
    · exact va_eqt (hs _ (List.mem_of_getElem? (i := 34) rfl))
    · exact va_eqt (hs _ (List.mem_of_getElem? (i := 35) rfl))
    · exact va_eqt (hs _ (List.mem_of_getElem? (i := 36) rfl))
    · exact va_eqt (hs _ (List.mem_of_getElem? (i := 37) rfl))
    · exact va_eqt (hs _ (List.mem_of_getElem? (i := 38) rfl))
    · exact va_eqt (hs _ (List.mem_of_getElem? (i := 39) rfl))
    · exact va_eqt (hs _ (List.mem_of_getElem? (i := 40) rfl))
    · exact va_eqt (hs _ (List.mem_of_getElem? (i := 41) rfl))
    · exact va_eqt (hs _ (List.mem_of_getElem? (i := 42) rfl))
    · exact va_eqt (hs _ (List.mem_of_getElem? (i := 43) rfl))
    · exact va_eqt (hs _ (List.mem_of_getElem? (i := 44) rfl))
    · exact va_eqt (hs _ (List.mem_of_getElem? (i := 45) rfl))
    · exact va_eqt (hs _ (List.mem_of_getElem? (i := 46) rfl))
    · exact va_eqt (hs _ (List.mem_of_getElem? (i := 47) rfl))
    · exact va_eqt (hs _ (List.mem_of_getElem? (i := 48) rfl))
    · exact va_eqt (hs _ (List.mem_of_getElem? (i := 49) rfl))
    · exact va_eqt (hs _ (List.mem_of_getElem? (i := 50) rfl))
    · exact va_eqt (hs _ (List.mem_of_getElem? (i := 51) rfl))
    · exact va_eqt (hs _ (List.mem_of_getElem? (i := 52) rfl))
    · exact va_eqt (hs _ (List.mem_of_getElem? (i := 53) rfl))
    · exact va_eqt (hs _ (List.mem_of_getElem? (i := 54) rfl))
    · exact va_eqt (hs _ (List.mem_of_getElem? (i := 55) rfl))
    · exact va_eqt (hs _ (List.mem_of_getElem? (i := 56) rfl))
    · exact va_eqt (hs _ (List.mem_of_getElem? (i := 57) rfl))
    · exact va_eqt (hs _ (List.mem_of_getElem? (i := 58) rfl))
    · exact va_eqt (hs _ (List.mem_of_getElem? (i := 59) rfl))
    · exact va_eqt (hs _ (List.mem_of_getElem? (i := 60) rfl))
    · exact va_eqt (hs _ (List.mem_of_getElem? (i := 61) rfl))
    · exact va_eqt (hs _ (List.mem_of_getElem? (i := 62) rfl))
    · exact va_eqt (hs _ (List.mem_of_getElem? (i := 63) rfl))
    · exact va_eqt (hs _ (List.mem_of_getElem? (i := 64) rfl))
    · exact va_eqt (hs _ (List.mem_of_getElem? (i := 65) rfl))
    · exact va_eqt (hs _ (List.mem_of_getElem? (i := 66) rfl))
    · exact va_eqt (hs _ (List.mem_of_getElem? (i := 67) rfl))
    · exact va_eqt (hs _ (List.mem_of_getElem? (i := 68) rfl))
    · exact va_eqt (hs _ (List.mem_of_getElem? (i := 69) rfl))
    · exact va_eqt (hs _ (List.mem_of_getElem? (i := 70) rfl))
    · exact va_eqt (hs _ (List.mem_of_getElem? (i := 71) rfl))
    · exact va_eqt (hs _ (List.mem_of_getElem? (i := 72) rfl))
    · exact va_eqt (hs _ (List.mem_of_getElem? (i := 73) rfl))
    · exact va_eqt (hs _ (List.mem_of_getElem? (i := 74) rfl))
    · exact va_eqt (hs _ (List.mem_of_getElem? (i := 75) rfl))
    · exact va_eqt (hs _ (List.mem_of_getElem? (i := 76) rfl))
    · exact va_eqt (hs _ (List.mem_of_getElem? (i := 77) rfl))
    · exact va_eqt (hs _ (List.mem_of_getElem? (i := 78) rfl))
    · exact va_eqt (hs _ (List.mem_of_getElem? (i := 79) rfl))
    · exact va_eqt (hs _ (List.mem_of_getElem? (i := 80) rfl))
    · exact va_eqt (hs _ (List.mem_of_getElem? (i := 81) rfl))) hA
  exact ⟨t, va_Zref (hts _ (List.mem_append_right _ (List.mem_append_left _ (List.mem_of_getElem? (i := 111) rfl)))) (hw _ q_in_X1) ht hA, hT⟩
set_option maxRecDepth 100000 in
set_option maxHeartbeats 4000000 in
theorem st_X8_BEGIN {args : Array Value} {s : State} (hgv : (Jvm.Cond.and given_1 narrow_1).before args s = true) (hts : ∀ w ∈ lw_tbl, w.before args s = true) (hw : ∀ w ∈ mv_ws, w.before args s = true) : mSa RX8 "BEGIN" 8 mI (fun q : Nat => s.heap.size ≤ q) s s.heap := by
  have hs := flat_of_before _ hgv
  have hA : ∀ a : Nat, a < s.heap.size → ¬ (fun q : Nat => s.heap.size ≤ q) a := fun a h => Nat.not_le.mpr h
  obtain ⟨t, ht, hT⟩ := va_Tof (tm := .static RX8 "BEGIN" "[I") (ty := .int) (N := 8) (f := fun j => .int (mI j)) (by decide) (hs _ (List.mem_of_getElem? (i := 83) rfl)) (va_eqt (hs _ (List.mem_of_getElem? (i := 84) rfl))) (fun j hj => by
    rcases (show j = 0 ∨ j = 1 ∨ j = 2 ∨ j = 3 ∨ j = 4 ∨ j = 5 ∨ j = 6 ∨ j = 7 by omega) with rfl | rfl | rfl | rfl | rfl | rfl | rfl | rfl
    · exact va_eqt (hs _ (List.mem_of_getElem? (i := 85) rfl))
    · exact va_eqt (hs _ (List.mem_of_getElem? (i := 86) rfl))
    · exact va_eqt (hs _ (List.mem_of_getElem? (i := 87) rfl))
    · exact va_eqt (hs _ (List.mem_of_getElem? (i := 88) rfl))
    · exact va_eqt (hs _ (List.mem_of_getElem? (i := 89) rfl))
    · exact va_eqt (hs _ (List.mem_of_getElem? (i := 90) rfl))
    · exact va_eqt (hs _ (List.mem_of_getElem? (i := 91) rfl))
    · exact va_eqt (hs _ (List.mem_of_getElem? (i := 92) rfl))) hA
  exact ⟨t, va_Zref (hts _ (List.mem_append_right _ (List.mem_append_right _ (List.mem_append_right _ (List.mem_append_left _ (List.mem_of_getElem? (i := 180) rfl)))))) (hw _ q_in_X8) ht hA, hT⟩
set_option maxRecDepth 100000 in
set_option maxHeartbeats 4000000 in
theorem st_X8_ROUND {args : Array Value} {s : State} (hgv : (Jvm.Cond.and given_1 narrow_1).before args s = true) (hts : ∀ w ∈ lw_tbl, w.before args s = true) (hw : ∀ w ∈ mv_ws, w.before args s = true) : mSa RX8 "ROUND" 64 mK (fun q : Nat => s.heap.size ≤ q) s s.heap := by
  have hs := flat_of_before _ hgv
  have hA : ∀ a : Nat, a < s.heap.size → ¬ (fun q : Nat => s.heap.size ≤ q) a := fun a h => Nat.not_le.mpr h
  obtain ⟨t, ht, hT⟩ := va_Tof (tm := .static RX8 "ROUND" "[I") (ty := .int) (N := 64) (f := fun j => .int (mK j)) (by decide) (hs _ (List.mem_of_getElem? (i := 94) rfl)) (va_eqt (hs _ (List.mem_of_getElem? (i := 95) rfl))) (fun j hj => by
    rcases (show j = 0 ∨ j = 1 ∨ j = 2 ∨ j = 3 ∨ j = 4 ∨ j = 5 ∨ j = 6 ∨ j = 7 ∨ j = 8 ∨ j = 9 ∨ j = 10 ∨ j = 11 ∨ j = 12 ∨ j = 13 ∨ j = 14 ∨ j = 15 ∨ j = 16 ∨ j = 17 ∨ j = 18 ∨ j = 19 ∨ j = 20 ∨ j = 21 ∨ j = 22 ∨ j = 23 ∨ j = 24 ∨ j = 25 ∨ j = 26 ∨ j = 27 ∨ j = 28 ∨ j = 29 ∨ j = 30 ∨ j = 31 ∨ j = 32 ∨ j = 33 ∨ j = 34 ∨ j = 35 ∨ j = 36 ∨ j = 37 ∨ j = 38 ∨ j = 39 ∨ j = 40 ∨ j = 41 ∨ j = 42 ∨ j = 43 ∨ j = 44 ∨ j = 45 ∨ j = 46 ∨ j = 47 ∨ j = 48 ∨ j = 49 ∨ j = 50 ∨ j = 51 ∨ j = 52 ∨ j = 53 ∨ j = 54 ∨ j = 55 ∨ j = 56 ∨ j = 57 ∨ j = 58 ∨ j = 59 ∨ j = 60 ∨ j = 61 ∨ j = 62 ∨ j = 63 by omega) with rfl | rfl | rfl | rfl | rfl | rfl | rfl | rfl | rfl | rfl | rfl | rfl | rfl | rfl | rfl | rfl | rfl | rfl | rfl | rfl | rfl | rfl | rfl | rfl | rfl | rfl | rfl | rfl | rfl | rfl | rfl | rfl | rfl | rfl | rfl | rfl | rfl | rfl | rfl | rfl | rfl | rfl | rfl | rfl | rfl | rfl | rfl | rfl | rfl | rfl | rfl | rfl | rfl | rfl | rfl | rfl | rfl | rfl | rfl | rfl | rfl | rfl | rfl | rfl
    · exact va_eqt (hs _ (List.mem_of_getElem? (i := 96) rfl))
    · exact va_eqt (hs _ (List.mem_of_getElem? (i := 97) rfl))
    · exact va_eqt (hs _ (List.mem_of_getElem? (i := 98) rfl))
    · exact va_eqt (hs _ (List.mem_of_getElem? (i := 99) rfl))
    · exact va_eqt (hs _ (List.mem_of_getElem? (i := 100) rfl))
    · exact va_eqt (hs _ (List.mem_of_getElem? (i := 101) rfl))
    · exact va_eqt (hs _ (List.mem_of_getElem? (i := 102) rfl))
    · exact va_eqt (hs _ (List.mem_of_getElem? (i := 103) rfl))
    · exact va_eqt (hs _ (List.mem_of_getElem? (i := 104) rfl))
    · exact va_eqt (hs _ (List.mem_of_getElem? (i := 105) rfl))
    · exact va_eqt (hs _ (List.mem_of_getElem? (i := 106) rfl))
    · exact va_eqt (hs _ (List.mem_of_getElem? (i := 107) rfl))
    · exact va_eqt (hs _ (List.mem_of_getElem? (i := 108) rfl))
    · exact va_eqt (hs _ (List.mem_of_getElem? (i := 109) rfl))
    · exact va_eqt (hs _ (List.mem_of_getElem? (i := 110) rfl))
    · exact va_eqt (hs _ (List.mem_of_getElem? (i := 111) rfl))
    · exact va_eqt (hs _ (List.mem_of_getElem? (i := 112) rfl))
    · exact va_eqt (hs _ (List.mem_of_getElem? (i := 113) rfl))
    · exact va_eqt (hs _ (List.mem_of_getElem? (i := 114) rfl))
    · exact va_eqt (hs _ (List.mem_of_getElem? (i := 115) rfl))
    · exact va_eqt (hs _ (List.mem_of_getElem? (i := 116) rfl))
    · exact va_eqt (hs _ (List.mem_of_getElem? (i := 117) rfl))
    · exact va_eqt (hs _ (List.mem_of_getElem? (i := 118) rfl))
    · exact va_eqt (hs _ (List.mem_of_getElem? (i := 119) rfl))
    · exact va_eqt (hs _ (List.mem_of_getElem? (i := 120) rfl))
    · exact va_eqt (hs _ (List.mem_of_getElem? (i := 121) rfl))
    · exact va_eqt (hs _ (List.mem_of_getElem? (i := 122) rfl))
    · exact va_eqt (hs _ (List.mem_of_getElem? (i := 123) rfl))
    · exact va_eqt (hs _ (List.mem_of_getElem? (i := 124) rfl))
    · exact va_eqt (hs _ (List.mem_of_getElem? (i := 125) rfl))
    · exact va_eqt (hs _ (List.mem_of_getElem? (i := 126) rfl))
    · exact va_eqt (hs _ (List.mem_of_getElem? (i := 127) rfl))
    · exact va_eqt (hs _ (List.mem_of_getElem? (i := 128) rfl))
    · exact va_eqt (hs _ (List.mem_of_getElem? (i := 129) rfl))
    · exact va_eqt (hs _ (List.mem_of_getElem? (i := 130) rfl))
    · exact va_eqt (hs _ (List.mem_of_getElem? (i := 131) rfl))
    · exact va_eqt (hs _ (List.mem_of_getElem? (i := 132) rfl))
    · exact va_eqt (hs _ (List.mem_of_getElem? (i := 133) rfl))
    · exact va_eqt (hs _ (List.mem_of_getElem? (i := 134) rfl))
    · exact va_eqt (hs _ (List.mem_of_getElem? (i := 135) rfl))
    · exact va_eqt (hs _ (List.mem_of_getElem? (i := 136) rfl))
    · exact va_eqt (hs _ (List.mem_of_getElem? (i := 137) rfl))
    · exact va_eqt (hs _ (List.mem_of_getElem? (i := 138) rfl))
    · exact va_eqt (hs _ (List.mem_of_getElem? (i := 139) rfl))
    · exact va_eqt (hs _ (List.mem_of_getElem? (i := 140) rfl))
    · exact va_eqt (hs _ (List.mem_of_getElem? (i := 141) rfl))
    · exact va_eqt (hs _ (List.mem_of_getElem? (i := 142) rfl))
    · exact va_eqt (hs _ (List.mem_of_getElem? (i := 143) rfl))
    · exact va_eqt (hs _ (List.mem_of_getElem? (i := 144) rfl))
    · exact va_eqt (hs _ (List.mem_of_getElem? (i := 145) rfl))
    · exact va_eqt (hs _ (List.mem_of_getElem? (i := 146) rfl))
    · exact va_eqt (hs _ (List.mem_of_getElem? (i := 147) rfl))
    · exact va_eqt (hs _ (List.mem_of_getElem? (i := 148) rfl))
    · exact va_eqt (hs _ (List.mem_of_getElem? (i := 149) rfl))
    · exact va_eqt (hs _ (List.mem_of_getElem? (i := 150) rfl))
    · exact va_eqt (hs _ (List.mem_of_getElem? (i := 151) rfl))
    · exact va_eqt (hs _ (List.mem_of_getElem? (i := 152) rfl))
    · exact va_eqt (hs _ (List.mem_of_getElem? (i := 153) rfl))
    · exact va_eqt (hs _ (List.mem_of_getElem? (i := 154) rfl))
    · exact va_eqt (hs _ (List.mem_of_getElem? (i := 155) rfl))
    · exact va_eqt (hs _ (List.mem_of_getElem? (i := 156) rfl))
    · exact va_eqt (hs _ (List.mem_of_getElem? (i := 157) rfl))
    · exact va_eqt (hs _ (List.mem_of_getElem? (i := 158) rfl))
    · exact va_eqt (hs _ (List.mem_of_getElem? (i := 159) rfl))) hA
  exact ⟨t, va_Zref (hts _ (List.mem_append_right _ (List.mem_append_right _ (List.mem_append_right _ (List.mem_append_left _ (List.mem_of_getElem? (i := 190) rfl)))))) (hw _ q_in_X8) ht hA, hT⟩
theorem tb_nx {args : Array Value} {s : State} (hts : ∀ w ∈ lw_tbl, w.before args s = true) : mNx s := ⟨va_Nw.of rfl (hts _ (List.mem_append_right _ (List.mem_append_left _ (List.mem_of_getElem? (i := 23) rfl)))), va_Nw.of rfl (hts _ (List.mem_append_right _ (List.mem_append_left _ (List.mem_of_getElem? (i := 133) rfl)))), va_Nw.of rfl (hts _ (List.mem_append_right _ (List.mem_append_left _ (List.mem_of_getElem? (i := 151) rfl)))), va_Nw.of rfl (hts _ (List.mem_append_right _ (List.mem_append_left _ (List.mem_of_getElem? (i := 214) rfl)))), va_AO.of (hts _ (List.mem_append_right _ (List.mem_append_left _ (List.mem_of_getElem? (i := 149) rfl)))), va_AO.of (hts _ (List.mem_append_right _ (List.mem_append_left _ (List.mem_of_getElem? (i := 185) rfl)))), va_AO.of (hts _ (List.mem_append_right _ (List.mem_append_left _ (List.mem_of_getElem? (i := 212) rfl))))⟩
theorem tb_sb {args : Array Value} {s : State} (hts : ∀ w ∈ lw_tbl, w.before args s = true) : va_Nw (.methodLinkNest RX3 80 yX7_sameBytes RX7) s := va_Nw.of rfl (hts _ (List.mem_append_right _ (List.mem_append_right _ (List.mem_append_right _ (List.mem_append_left _ (List.mem_of_getElem? (i := 12) rfl))))))
theorem lw_env {args : Array Value} {s : State} (hts : ∀ w ∈ lw_tbl, w.before args s = true) (hgv : (Jvm.Cond.and given_1 narrow_1).before args s = true) : ∃ (D : va_G) (T : Nat → ClassId), ∀ B : Nat, mG (D, T, B) (fun q : Nat => s.heap.size ≤ q) s := by
  have hw : ∀ w ∈ mv_ws, w.before args s = true := fun w h => hts w (List.mem_filter.mp h).1
  have hn := tb_nx hts
  obtain ⟨c0, i0, hk0⟩ := u_known (C := RX0) (T := TX0) (N := 2) (n := 2) hw q_X0 (hw _ q_is_X0)
  obtain ⟨c1, i1, hk1⟩ := u_known (C := RX1) (T := TX1) (N := 4) (n := 4) hw q_X1 (hw _ q_is_X1)
  obtain ⟨c2, i2, hk2⟩ := u_known (C := RX2) (T := TX2) (N := 3) (n := 3) hw q_X2 (hw _ q_is_X2)
  obtain ⟨c3, i3, hk3⟩ := u_known (C := RX3) (T := TX3) (N := 5) (n := 5) hw q_X3 (hw _ q_is_X3)
  obtain ⟨c4, i4, hk4⟩ := u_known (C := RX4) (T := TX4) (N := 8) (n := 8) hw q_X4 (hw _ q_is_X4)
  obtain ⟨c5, i5, hk5⟩ := u_known (C := RX5) (T := TX5) (N := 4) (n := 4) hw q_X5 (hw _ q_is_X5)
  obtain ⟨c6, i6, hk6⟩ := u_known (C := RX6) (T := TX6) (N := 5) (n := 5) hw q_X6 (hw _ q_is_X6)
  obtain ⟨c7, i7, hk7⟩ := u_known (C := RX7) (T := TX7) (N := 16) (n := 16) hw q_X7 (hw _ q_is_X7)
  obtain ⟨c8, i8, hk8⟩ := u_known (C := RX8) (T := TX8) (N := 38) (n := 38) hw q_X8 (hw _ q_is_X8)
  obtain ⟨a0, b0, d0, e0, f0, g0⟩ := Cond.arrayClass_spec (hw _ q_ac_byte)
  obtain ⟨a1, b1, d1, e1, f1, g1⟩ := Cond.arrayClass_spec (hw _ q_ac_int)
  obtain ⟨a2, b2, d2, e2, f2, g2⟩ := Cond.arrayClass_spec (hw _ q_ac_long)
  obtain ⟨a3, b3, d3, e3, f3, g3⟩ := Cond.arrayClass_spec (hw _ q_ac_boolean)
  obtain ⟨d4, a4, b4, e4, f4, g4, h4, j4⟩ := Cond.arrayOver_spec (hn.2.2.2.2.1)
  obtain ⟨d5, a5, b5, e5, f5, g5, h5, j5⟩ := Cond.arrayOver_spec (hn.2.2.2.2.2.1)
  obtain ⟨d6, a6, b6, e6, f6, g6, h6, j6⟩ := Cond.arrayOver_spec (hn.2.2.2.2.2.2)
  refine ⟨(fun k => match k with | 0 => c0 | 1 => c1 | 2 => c2 | 3 => c3 | 4 => c4 | 5 => c5 | 6 => c6 | 7 => c7 | _ => c8, fun k => match k with | 0 => i0 | 1 => i1 | 2 => i2 | 3 => i3 | 4 => i4 | 5 => i5 | 6 => i6 | 7 => i7 | _ => i8), fun k => match k with | 0 => a0 | 1 => a1 | 2 => a2 | 3 => a3 | 4 => a4 | 5 => a5 | _ => a6, fun B => ⟨⟨fun k q hq => ?_, fun k q hq => ?_⟩, tb_sb hts, st_X1_START hgv hts hw, st_X1_ROUND hgv hts hw, st_X8_BEGIN hgv hts hw, st_X8_ROUND hgv hts hw⟩⟩
  · match k, hq with
    | 0, hq => cases hq; exact hk0
    | 1, hq => cases hq; exact hk1
    | 2, hq => cases hq; exact hk2
    | 3, hq => cases hq; exact hk3
    | 4, hq => cases hq; exact hk4
    | 5, hq => cases hq; exact hk5
    | 6, hq => cases hq; exact hk6
    | 7, hq => cases hq; exact hk7
    | 8, hq => cases hq; exact hk8
    | k + 9, hq => simp [vwCl] at hq
  · match k, hq with
    | 0, hq => cases hq; exact ⟨fun n z => ⟨fun k h => (by cases h), b0, f0, d0, g0⟩, e0⟩
    | 1, hq => cases hq; exact ⟨fun n z => ⟨fun k h => (by cases h), b1, f1, d1, g1⟩, e1⟩
    | 2, hq => cases hq; exact ⟨fun n z => ⟨fun k h => (by cases h), b2, f2, d2, g2⟩, e2⟩
    | 3, hq => cases hq; exact ⟨fun n z => ⟨fun k h => (by cases h), b3, f3, d3, g3⟩, e3⟩
    | 4, hq => cases hq; exact ⟨fun n z => ⟨fun k h => (by cases h), b4, g4, d4, h4⟩, b4, d4, g4, h4, e4, j4⟩
    | 5, hq => cases hq; exact ⟨fun n z => ⟨fun k h => (by cases h), b5, g5, d5, h5⟩, b5, d5, g5, h5, e5, j5⟩
    | 6, hq => cases hq; exact ⟨fun n z => ⟨fun k h => (by cases h), b6, g6, d6, h6⟩, b6, d6, g6, h6, e6, j6⟩
    | k + 7, hq => simp [mTys] at hq
