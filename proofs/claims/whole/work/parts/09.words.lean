theorem mv_w1 {w : Cond} (i : Nat) (h : tables_1_1[i]? = some w) (g : goodWord w = true) : w ∈ mv_ws := List.mem_filter.mpr ⟨List.mem_append_right _ (List.mem_append_left _ (List.mem_of_getElem? h)), g⟩
theorem mv_w2 {w : Cond} (i : Nat) (h : tables_1_2[i]? = some w) (g : goodWord w = true) : w ∈ mv_ws := List.mem_filter.mpr ⟨List.mem_append_right _ (List.mem_append_right _ (List.mem_append_left _ (List.mem_of_getElem? h))), g⟩
theorem mv_w3 {w : Cond} (i : Nat) (h : tables_1_3[i]? = some w) (g : goodWord w = true) : w ∈ mv_ws := List.mem_filter.mpr ⟨List.mem_append_right _ (List.mem_append_right _ (List.mem_append_right _ (List.mem_append_left _ (List.mem_of_getElem? h)))), g⟩
theorem mv_w4 {w : Cond} (i : Nat) (h : tables_1_4[i]? = some w) (g : goodWord w = true) : w ∈ mv_ws := List.mem_filter.mpr ⟨List.mem_append_right _ (List.mem_append_right _ (List.mem_append_right _ (List.mem_append_right _ (List.mem_append_left _ (List.mem_of_getElem? h))))), g⟩
theorem mv_w5 {w : Cond} (i : Nat) (h : tables_1_5[i]? = some w) (g : goodWord w = true) : w ∈ mv_ws := List.mem_filter.mpr ⟨List.mem_append_right _ (List.mem_append_right _ (List.mem_append_right _ (List.mem_append_right _ (List.mem_append_right _ (List.mem_of_getElem? h))))), g⟩
theorem mv_wq {w : Cond} (j : Nat) {ps : List (MethodName × Nat)} (hs : ∀ q ∈ ps, q ∈ lw_privs) (h : (k2_sels ps)[j]? = some w) (g : goodWord w = true) : w ∈ mv_ws := by
  refine List.mem_filter.mpr ⟨List.mem_append_left _ ?_, g⟩
  obtain ⟨q, hq, he⟩ := List.mem_map.mp (List.mem_of_getElem? h)
  exact List.mem_map.mpr ⟨q, hs q hq, he⟩
theorem mv_wp1 {w : Cond} (j : Nat) (h : (k2_sels lw_privs_1)[j]? = some w) (g : goodWord w = true) : w ∈ mv_ws := mv_wq j (fun _ h => List.mem_append_left _ h) h g
theorem mv_wp2 {w : Cond} (j : Nat) (h : (k2_sels lw_privs_2)[j]? = some w) (g : goodWord w = true) : w ∈ mv_ws := mv_wq j (fun _ h => List.mem_append_right _ (List.mem_append_left _ h)) h g
theorem mv_wp3 {w : Cond} (j : Nat) (h : (k2_sels lw_privs_3)[j]? = some w) (g : goodWord w = true) : w ∈ mv_ws := mv_wq j (fun _ h => List.mem_append_right _ (List.mem_append_right _ (List.mem_append_left _ h))) h g
theorem mv_wp4 {w : Cond} (j : Nat) (h : (k2_sels lw_privs_4)[j]? = some w) (g : goodWord w = true) : w ∈ mv_ws := mv_wq j (fun _ h => List.mem_append_right _ (List.mem_append_right _ (List.mem_append_right _ h))) h g
set_option maxRecDepth 20000 in
theorem q_in_L : Cond.initialized RL ∈ mv_ws := mv_w1 0 rfl rfl
set_option maxRecDepth 20000 in
theorem q_in_X7 : Cond.initialized RX7 ∈ mv_ws := mv_w1 1 rfl rfl
set_option maxRecDepth 20000 in
theorem q_in_X1 : Cond.initialized RX1 ∈ mv_ws := mv_w1 2 rfl rfl
set_option maxRecDepth 20000 in
theorem q_in_X0 : Cond.initialized RX0 ∈ mv_ws := mv_w1 3 rfl rfl
set_option maxRecDepth 20000 in
theorem q_in_X3 : Cond.initialized RX3 ∈ mv_ws := mv_w1 4 rfl rfl
set_option maxRecDepth 20000 in
theorem q_in_J9 : Cond.initialized RJ9 ∈ mv_ws := mv_w1 5 rfl rfl
set_option maxRecDepth 20000 in
theorem q_in_J10 : Cond.initialized RJ10 ∈ mv_ws := mv_w1 6 rfl rfl
set_option maxRecDepth 20000 in
theorem q_in_X2 : Cond.initialized RX2 ∈ mv_ws := mv_w1 7 rfl rfl
set_option maxRecDepth 20000 in
theorem q_in_X4 : Cond.initialized RX4 ∈ mv_ws := mv_w1 8 rfl rfl
set_option maxRecDepth 20000 in
theorem q_in_X5 : Cond.initialized RX5 ∈ mv_ws := mv_w1 9 rfl rfl
set_option maxRecDepth 20000 in
theorem q_in_X6 : Cond.initialized RX6 ∈ mv_ws := mv_w1 10 rfl rfl
set_option maxRecDepth 20000 in
theorem q_in_X8 : Cond.initialized RX8 ∈ mv_ws := mv_w1 11 rfl rfl
set_option maxRecDepth 20000 in
theorem q_in_J7 : Cond.initialized RJ7 ∈ mv_ws := mv_w1 12 rfl rfl
set_option maxRecDepth 20000 in
theorem q_cl_L_7 : Cond.classLink RL 7 RX7 ∈ mv_ws := mv_w1 13 rfl rfl
set_option maxRecDepth 20000 in
theorem q_is_X7 : Cond.instantiable RX7 16 ∈ mv_ws := mv_w1 14 rfl rfl
set_option maxRecDepth 20000 in
theorem q_ml_L_15 : Cond.methodLink RL 15 yX7_init ∈ mv_ws := mv_w1 15 rfl rfl
set_option maxRecDepth 20000 in
theorem q_im_X7_init : Cond.instanceMethod yX7_init ∈ mv_ws := mv_w1 16 rfl rfl
set_option maxRecDepth 20000 in
theorem q_co_X7_init : Cond.code yX7_init cX7_init 3 none ∈ mv_ws := mv_w1 17 rfl rfl
set_option maxRecDepth 20000 in
theorem q_ml_X7_1 : Cond.methodLink RX7 1 objectInit ∈ mv_ws := mv_w1 18 rfl rfl
set_option maxRecDepth 20000 in
theorem q_im_obj_init : Cond.instanceMethod objectInit ∈ mv_ws := mv_w1 19 rfl rfl
set_option maxRecDepth 20000 in
theorem q_co_obj_init : Cond.code objectInit ⟨#[0xb1]⟩ 1 none ∈ mv_ws := mv_w1 20 rfl rfl
set_option maxRecDepth 20000 in
theorem q_cl_X7_7 : Cond.classLink RX7 7 RX1 ∈ mv_ws := mv_w1 21 rfl rfl
set_option maxRecDepth 20000 in
theorem q_is_X1 : Cond.instantiable RX1 4 ∈ mv_ws := mv_w1 22 rfl rfl
set_option maxRecDepth 20000 in
theorem q_im_X1_init : Cond.instanceMethod yX1_init ∈ mv_ws := mv_w1 24 rfl rfl
set_option maxRecDepth 20000 in
theorem q_co_X1_init : Cond.code yX1_init cX1_init 1 none ∈ mv_ws := mv_w1 25 rfl rfl
set_option maxRecDepth 20000 in
theorem q_ml_X1_3 : Cond.methodLink RX1 3 objectInit ∈ mv_ws := mv_w1 26 rfl rfl
set_option maxRecDepth 20000 in
theorem q_cl_X1_9 : Cond.classLink RX1 9 RX0 ∈ mv_ws := mv_w1 27 rfl rfl
set_option maxRecDepth 20000 in
theorem q_is_X0 : Cond.instantiable RX0 2 ∈ mv_ws := mv_w1 28 rfl rfl
set_option maxRecDepth 20000 in
theorem q_ml_X1_13 : Cond.methodLink RX1 13 yX0_init ∈ mv_ws := mv_w1 29 rfl rfl
set_option maxRecDepth 20000 in
theorem q_im_X0_init : Cond.instanceMethod yX0_init ∈ mv_ws := mv_w1 30 rfl rfl
set_option maxRecDepth 20000 in
theorem q_co_X0_init : Cond.code yX0_init cX0_init 2 none ∈ mv_ws := mv_w1 31 rfl rfl
set_option maxRecDepth 20000 in
theorem q_ml_X0_1 : Cond.methodLink RX0 1 objectInit ∈ mv_ws := mv_w1 32 rfl rfl
set_option maxRecDepth 20000 in
theorem q_fl_X0_7 : Cond.fieldLink RX0 7 "MeasuredVault$Bytes" "held" "[B" ∈ mv_ws := mv_w1 33 rfl rfl
set_option maxRecDepth 20000 in
theorem q_fl_X3_56 : Cond.fieldLink RX3 56 "MeasuredVault$Bytes" "held" "[B" ∈ mv_ws := mv_w1 34 rfl rfl
set_option maxRecDepth 20000 in
theorem q_fl_X6_34 : Cond.fieldLink RX6 34 "MeasuredVault$Bytes" "held" "[B" ∈ mv_ws := mv_w1 35 rfl rfl
set_option maxRecDepth 20000 in
theorem q_fl_X7_93 : Cond.fieldLink RX7 93 "MeasuredVault$Bytes" "held" "[B" ∈ mv_ws := mv_w1 36 rfl rfl
set_option maxRecDepth 20000 in
theorem q_fl_X1_31 : Cond.fieldLink RX1 31 "MeasuredVault$Bytes" "size" "I" ∈ mv_ws := mv_w1 37 rfl rfl
set_option maxRecDepth 20000 in
theorem q_fl_X0_13 : Cond.fieldLink RX0 13 "MeasuredVault$Bytes" "size" "I" ∈ mv_ws := mv_w1 38 rfl rfl
set_option maxRecDepth 20000 in
theorem q_fl_X7_89 : Cond.fieldLink RX7 89 "MeasuredVault$Bytes" "size" "I" ∈ mv_ws := mv_w1 39 rfl rfl
set_option maxRecDepth 20000 in
theorem q_fl_X6_28 : Cond.fieldLink RX6 28 "MeasuredVault$Bytes" "size" "I" ∈ mv_ws := mv_w1 40 rfl rfl
set_option maxRecDepth 20000 in
theorem q_fl_X3_59 : Cond.fieldLink RX3 59 "MeasuredVault$Bytes" "size" "I" ∈ mv_ws := mv_w1 41 rfl rfl
set_option maxRecDepth 20000 in
theorem q_ac_byte : Cond.arrayClass .byte ∈ mv_ws := mv_w1 47 rfl rfl
set_option maxRecDepth 20000 in
theorem q_fl_X1_16 : Cond.fieldLink RX1 16 "MeasuredVault$Hasher" "message" "LMeasuredVault$Bytes;" ∈ mv_ws := mv_w1 48 rfl rfl
set_option maxRecDepth 20000 in
theorem q_fl_X1_20 : Cond.fieldLink RX1 20 "MeasuredVault$Hasher" "sum" "[I" ∈ mv_ws := mv_w1 49 rfl rfl
set_option maxRecDepth 20000 in
theorem q_fl_X1_24 : Cond.fieldLink RX1 24 "MeasuredVault$Hasher" "words" "[I" ∈ mv_ws := mv_w1 50 rfl rfl
set_option maxRecDepth 20000 in
theorem q_fl_X1_27 : Cond.fieldLink RX1 27 "MeasuredVault$Hasher" "innerHash" "[B" ∈ mv_ws := mv_w1 51 rfl rfl
set_option maxRecDepth 20000 in
theorem q_ac_int : Cond.arrayClass .int ∈ mv_ws := mv_w1 61 rfl rfl
set_option maxRecDepth 20000 in
theorem q_cl_X7_16 : Cond.classLink RX7 16 RX3 ∈ mv_ws := mv_w1 62 rfl rfl
set_option maxRecDepth 20000 in
theorem q_is_X3 : Cond.instantiable RX3 5 ∈ mv_ws := mv_w1 63 rfl rfl
set_option maxRecDepth 20000 in
theorem q_ml_X7_18 : Cond.methodLink RX7 18 yX3_init ∈ mv_ws := mv_w1 64 rfl rfl
set_option maxRecDepth 20000 in
theorem q_im_X3_init : Cond.instanceMethod yX3_init ∈ mv_ws := mv_w1 65 rfl rfl
set_option maxRecDepth 20000 in
theorem q_co_X3_init : Cond.code yX3_init cX3_init 4 none ∈ mv_ws := mv_w1 66 rfl rfl
set_option maxRecDepth 20000 in
theorem q_ml_X3_3 : Cond.methodLink RX3 3 objectInit ∈ mv_ws := mv_w1 67 rfl rfl
set_option maxRecDepth 20000 in
theorem q_ml_X3_25 : Cond.methodLink RX3 25 yX1_begin ∈ mv_ws := mv_w1 68 rfl rfl
set_option maxRecDepth 20000 in
theorem q_im_X1_begin : Cond.instanceMethod yX1_begin ∈ mv_ws := mv_w1 69 rfl rfl
set_option maxRecDepth 20000 in
theorem q_se_X1_begin : Cond.selects RX1 yX1_begin yX1_begin ∈ mv_ws := mv_w1 70 rfl rfl
set_option maxRecDepth 20000 in
theorem q_co_X1_begin : Cond.code yX1_begin cX1_begin 1 (some (.object "MeasuredVault$Bytes")) ∈ mv_ws := mv_w1 71 rfl rfl
set_option maxRecDepth 20000 in
theorem q_ml_X3_31 : Cond.methodLink RX3 31 yX0_put ∈ mv_ws := mv_w1 72 rfl rfl
set_option maxRecDepth 20000 in
theorem q_im_X0_put : Cond.instanceMethod yX0_put ∈ mv_ws := mv_w1 73 rfl rfl
set_option maxRecDepth 20000 in
theorem q_se_X0_put : Cond.selects RX0 yX0_put yX0_put ∈ mv_ws := mv_w1 74 rfl rfl
set_option maxRecDepth 20000 in
theorem q_co_X0_put : Cond.code yX0_put cX0_put 2 none ∈ mv_ws := mv_w1 75 rfl rfl
set_option maxRecDepth 20000 in
theorem q_ml_X3_37 : Cond.methodLink RX3 37 yX0_putInt ∈ mv_ws := mv_w1 76 rfl rfl
set_option maxRecDepth 20000 in
theorem q_im_X0_putInt : Cond.instanceMethod yX0_putInt ∈ mv_ws := mv_w1 77 rfl rfl
set_option maxRecDepth 20000 in
theorem q_se_X0_putInt : Cond.selects RX0 yX0_putInt yX0_putInt ∈ mv_ws := mv_w1 78 rfl rfl
set_option maxRecDepth 20000 in
theorem q_co_X0_putInt : Cond.code yX0_putInt cX0_putInt 2 none ∈ mv_ws := mv_w1 79 rfl rfl
set_option maxRecDepth 20000 in
theorem q_ml_X0_17 : Cond.methodLink RX0 17 yX0_put ∈ mv_ws := mv_w1 80 rfl rfl
set_option maxRecDepth 20000 in
theorem q_ml_X3_40 : Cond.methodLink RX3 40 yX1_finish ∈ mv_ws := mv_w1 81 rfl rfl
set_option maxRecDepth 20000 in
theorem q_im_X1_finish : Cond.instanceMethod yX1_finish ∈ mv_ws := mv_w1 82 rfl rfl
set_option maxRecDepth 20000 in
theorem q_se_X1_finish : Cond.selects RX1 yX1_finish yX1_finish ∈ mv_ws := mv_w1 83 rfl rfl
set_option maxRecDepth 20000 in
theorem q_co_X1_finish : Cond.code yX1_finish cX1_finish 3 none ∈ mv_ws := mv_w1 84 rfl rfl
set_option maxRecDepth 20000 in
theorem q_ml_X1_46 : Cond.methodLink RX1 46 yX1_padMessage ∈ mv_ws := mv_w1 85 rfl rfl
set_option maxRecDepth 20000 in
theorem q_im_X1_padMessage : Cond.instanceMethod yX1_padMessage ∈ mv_ws := mv_w1 87 rfl rfl
set_option maxRecDepth 20000 in
theorem q_co_X1_padMessage : Cond.code yX1_padMessage cX1_padMessage 4 none ∈ mv_ws := mv_w1 88 rfl rfl
set_option maxRecDepth 20000 in
theorem q_ml_X1_64 : Cond.methodLink RX1 64 yX0_put ∈ mv_ws := mv_w1 89 rfl rfl
set_option maxRecDepth 20000 in
theorem q_ml_X1_67 : Cond.methodLink RX1 67 yJ9_floorMod_7cf53 ∈ mv_ws := mv_w1 90 rfl rfl
set_option maxRecDepth 20000 in
theorem q_st_J9_floorMod_7cf53 : Cond.static yJ9_floorMod_7cf53 ∈ mv_ws := mv_w1 91 rfl rfl
set_option maxRecDepth 20000 in
theorem q_co_J9_floorMod_7cf53 : Cond.code yJ9_floorMod_7cf53 cJ9_floorMod_7cf53 3 (some .int) ∈ mv_ws := mv_w1 92 rfl rfl
set_option maxRecDepth 20000 in
theorem q_fl_X1_49 : Cond.fieldLink RX1 49 "MeasuredVault$Hasher" "START" "[I" ∈ mv_ws := mv_w1 93 rfl rfl
set_option maxRecDepth 20000 in
theorem q_ml_X1_52 : Cond.methodLink RX1 52 arraycopyName ∈ mv_ws := mv_w1 95 rfl rfl
set_option maxRecDepth 20000 in
theorem q_st_arraycopy : Cond.static arraycopyName ∈ mv_ws := mv_w1 96 rfl rfl
set_option maxRecDepth 20000 in
theorem q_na_arraycopy : Cond.native arraycopyName ∈ mv_ws := mv_w1 97 rfl rfl
set_option maxRecDepth 20000 in
theorem q_ml_X1_58 : Cond.methodLink RX1 58 yX1_spreadBlock ∈ mv_ws := mv_w1 98 rfl rfl
set_option maxRecDepth 20000 in
theorem q_im_X1_spreadBlock : Cond.instanceMethod yX1_spreadBlock ∈ mv_ws := mv_w1 100 rfl rfl
set_option maxRecDepth 20000 in
theorem q_co_X1_spreadBlock : Cond.code yX1_spreadBlock cX1_spreadBlock 7 none ∈ mv_ws := mv_w1 101 rfl rfl
set_option maxRecDepth 20000 in
theorem q_ml_X1_73 : Cond.methodLink RX1 73 yX0_intAt ∈ mv_ws := mv_w1 102 rfl rfl
set_option maxRecDepth 20000 in
theorem q_im_X0_intAt : Cond.instanceMethod yX0_intAt ∈ mv_ws := mv_w1 103 rfl rfl
set_option maxRecDepth 20000 in
theorem q_se_X0_intAt : Cond.selects RX0 yX0_intAt yX0_intAt ∈ mv_ws := mv_w1 104 rfl rfl
set_option maxRecDepth 20000 in
theorem q_co_X0_intAt : Cond.code yX0_intAt cX0_intAt 2 (some .int) ∈ mv_ws := mv_w1 105 rfl rfl
set_option maxRecDepth 20000 in
theorem q_ml_X1_61 : Cond.methodLink RX1 61 yX1_mixBlock ∈ mv_ws := mv_w1 106 rfl rfl
set_option maxRecDepth 20000 in
theorem q_im_X1_mixBlock : Cond.instanceMethod yX1_mixBlock ∈ mv_ws := mv_w1 108 rfl rfl
set_option maxRecDepth 20000 in
theorem q_co_X1_mixBlock : Cond.code yX1_mixBlock cX1_mixBlock 14 none ∈ mv_ws := mv_w1 109 rfl rfl
set_option maxRecDepth 20000 in
theorem q_fl_X1_77 : Cond.fieldLink RX1 77 "MeasuredVault$Hasher" "ROUND" "[I" ∈ mv_ws := mv_w1 110 rfl rfl
set_option maxRecDepth 20000 in
theorem q_fl_X3_21 : Cond.fieldLink RX3 21 "MeasuredVault$Secret" "hasher" "LMeasuredVault$Hasher;" ∈ mv_ws := mv_w1 112 rfl rfl
set_option maxRecDepth 20000 in
theorem q_fl_X3_9 : Cond.fieldLink RX3 9 "MeasuredVault$Secret" "seed" "[B" ∈ mv_ws := mv_w1 113 rfl rfl
set_option maxRecDepth 20000 in
theorem q_fl_X3_15 : Cond.fieldLink RX3 15 "MeasuredVault$Secret" "derived" "[B" ∈ mv_ws := mv_w1 114 rfl rfl
set_option maxRecDepth 20000 in
theorem q_fl_X3_18 : Cond.fieldLink RX3 18 "MeasuredVault$Secret" "mark" "[B" ∈ mv_ws := mv_w1 115 rfl rfl
set_option maxRecDepth 20000 in
theorem q_fl_X3_66 : Cond.fieldLink RX3 66 "MeasuredVault$Secret" "blobsMade" "I" ∈ mv_ws := mv_w1 116 rfl rfl
set_option maxRecDepth 20000 in
theorem q_fl_X7_287 : Cond.fieldLink RX7 287 "MeasuredVault$Secret" "blobsMade" "I" ∈ mv_ws := mv_w1 117 rfl rfl
set_option maxRecDepth 20000 in
theorem q_cl_X7_25 : Cond.classLink RX7 25 RX0 ∈ mv_ws := mv_w1 129 rfl rfl
set_option maxRecDepth 20000 in
theorem q_ml_X7_27 : Cond.methodLink RX7 27 yX0_init ∈ mv_ws := mv_w1 130 rfl rfl
set_option maxRecDepth 20000 in
theorem q_cl_X7_50 : Cond.classLink RX7 50 RX2 ∈ mv_ws := mv_w1 131 rfl rfl
set_option maxRecDepth 20000 in
theorem q_is_X2 : Cond.instantiable RX2 3 ∈ mv_ws := mv_w1 132 rfl rfl
set_option maxRecDepth 20000 in
theorem q_im_X2_init : Cond.instanceMethod yX2_init ∈ mv_ws := mv_w1 134 rfl rfl
set_option maxRecDepth 20000 in
theorem q_co_X2_init : Cond.code yX2_init cX2_init 1 none ∈ mv_ws := mv_w1 135 rfl rfl
set_option maxRecDepth 20000 in
theorem q_ml_X2_3 : Cond.methodLink RX2 3 objectInit ∈ mv_ws := mv_w1 136 rfl rfl
set_option maxRecDepth 20000 in
theorem q_fl_X2_11 : Cond.fieldLink RX2 11 "MeasuredVault$Registers" "row" "[B" ∈ mv_ws := mv_w1 137 rfl rfl
set_option maxRecDepth 20000 in
theorem q_fl_X2_15 : Cond.fieldLink RX2 15 "MeasuredVault$Registers" "one" "[B" ∈ mv_ws := mv_w1 138 rfl rfl
set_option maxRecDepth 20000 in
theorem q_fl_X2_40 : Cond.fieldLink RX2 40 "MeasuredVault$Registers" "changes" "I" ∈ mv_ws := mv_w1 139 rfl rfl
set_option maxRecDepth 20000 in
theorem q_fl_X7_152 : Cond.fieldLink RX7 152 "MeasuredVault$Registers" "changes" "I" ∈ mv_ws := mv_w1 140 rfl rfl
set_option maxRecDepth 20000 in
theorem q_cl_X7_57 : Cond.classLink RX7 57 RX4 ∈ mv_ws := mv_w1 148 rfl rfl
set_option maxRecDepth 20000 in
theorem q_is_X4 : Cond.instantiable RX4 8 ∈ mv_ws := mv_w1 150 rfl rfl
set_option maxRecDepth 20000 in
theorem q_im_X4_init : Cond.instanceMethod yX4_init ∈ mv_ws := mv_w1 152 rfl rfl
set_option maxRecDepth 20000 in
theorem q_co_X4_init : Cond.code yX4_init cX4_init 1 none ∈ mv_ws := mv_w1 153 rfl rfl
set_option maxRecDepth 20000 in
theorem q_ml_X4_3 : Cond.methodLink RX4 3 objectInit ∈ mv_ws := mv_w1 154 rfl rfl
set_option maxRecDepth 20000 in
theorem q_fl_X4_9 : Cond.fieldLink RX4 9 "MeasuredVault$Session" "digest" "[B" ∈ mv_ws := mv_w1 155 rfl rfl
set_option maxRecDepth 20000 in
theorem q_fl_X7_146 : Cond.fieldLink RX7 146 "MeasuredVault$Session" "digest" "[B" ∈ mv_ws := mv_w1 156 rfl rfl
set_option maxRecDepth 20000 in
theorem q_fl_X4_21 : Cond.fieldLink RX4 21 "MeasuredVault$Session" "isOpen" "Z" ∈ mv_ws := mv_w1 157 rfl rfl
set_option maxRecDepth 20000 in
theorem q_fl_X7_284 : Cond.fieldLink RX7 284 "MeasuredVault$Session" "isOpen" "Z" ∈ mv_ws := mv_w1 158 rfl rfl
set_option maxRecDepth 20000 in
theorem q_fl_X4_25 : Cond.fieldLink RX4 25 "MeasuredVault$Session" "asksAuth" "Z" ∈ mv_ws := mv_w1 159 rfl rfl
set_option maxRecDepth 20000 in
theorem q_fl_X7_158 : Cond.fieldLink RX7 158 "MeasuredVault$Session" "asksAuth" "Z" ∈ mv_ws := mv_w1 160 rfl rfl
set_option maxRecDepth 20000 in
theorem q_fl_X4_28 : Cond.fieldLink RX4 28 "MeasuredVault$Session" "code" "I" ∈ mv_ws := mv_w1 161 rfl rfl
set_option maxRecDepth 20000 in
theorem q_fl_X7_162 : Cond.fieldLink RX7 162 "MeasuredVault$Session" "code" "I" ∈ mv_ws := mv_w1 162 rfl rfl
set_option maxRecDepth 20000 in
theorem q_fl_X4_32 : Cond.fieldLink RX4 32 "MeasuredVault$Session" "asksRegisters" "Z" ∈ mv_ws := mv_w1 163 rfl rfl
set_option maxRecDepth 20000 in
theorem q_fl_X4_54 : Cond.fieldLink RX4 54 "MeasuredVault$Session" "changesThen" "I" ∈ mv_ws := mv_w1 164 rfl rfl
set_option maxRecDepth 20000 in
theorem q_fl_X4_35 : Cond.fieldLink RX4 35 "MeasuredVault$Session" "asksTime" "Z" ∈ mv_ws := mv_w1 165 rfl rfl
set_option maxRecDepth 20000 in
theorem q_fl_X4_57 : Cond.fieldLink RX4 57 "MeasuredVault$Session" "latest" "I" ∈ mv_ws := mv_w1 166 rfl rfl
set_option maxRecDepth 20000 in
theorem q_cl_X7_64 : Cond.classLink RX7 64 RX5 ∈ mv_ws := mv_w1 184 rfl rfl
set_option maxRecDepth 20000 in
theorem q_is_X5 : Cond.instantiable RX5 4 ∈ mv_ws := mv_w1 186 rfl rfl
set_option maxRecDepth 20000 in
theorem q_ml_X7_70 : Cond.methodLink RX7 70 yX5_init ∈ mv_ws := mv_w1 187 rfl rfl
set_option maxRecDepth 20000 in
theorem q_im_X5_init : Cond.instanceMethod yX5_init ∈ mv_ws := mv_w1 188 rfl rfl
set_option maxRecDepth 20000 in
theorem q_co_X5_init : Cond.code yX5_init cX5_init 2 none ∈ mv_ws := mv_w1 189 rfl rfl
set_option maxRecDepth 20000 in
theorem q_ml_X5_3 : Cond.methodLink RX5 3 objectInit ∈ mv_ws := mv_w1 190 rfl rfl
set_option maxRecDepth 20000 in
theorem q_cl_X5_18 : Cond.classLink RX5 18 RX0 ∈ mv_ws := mv_w1 191 rfl rfl
set_option maxRecDepth 20000 in
theorem q_ml_X5_20 : Cond.methodLink RX5 20 yX0_init ∈ mv_ws := mv_w1 192 rfl rfl
set_option maxRecDepth 20000 in
theorem q_fl_X5_9 : Cond.fieldLink RX5 9 "MeasuredVault$Thing" "auth" "[B" ∈ mv_ws := mv_w1 193 rfl rfl
set_option maxRecDepth 20000 in
theorem q_fl_X7_217 : Cond.fieldLink RX7 217 "MeasuredVault$Thing" "auth" "[B" ∈ mv_ws := mv_w1 194 rfl rfl
set_option maxRecDepth 20000 in
theorem q_fl_X5_15 : Cond.fieldLink RX5 15 "MeasuredVault$Thing" "policy" "[B" ∈ mv_ws := mv_w1 195 rfl rfl
set_option maxRecDepth 20000 in
theorem q_fl_X7_220 : Cond.fieldLink RX7 220 "MeasuredVault$Thing" "policy" "[B" ∈ mv_ws := mv_w1 196 rfl rfl
set_option maxRecDepth 20000 in
theorem q_fl_X5_23 : Cond.fieldLink RX5 23 "MeasuredVault$Thing" "data" "LMeasuredVault$Bytes;" ∈ mv_ws := mv_w1 197 rfl rfl
set_option maxRecDepth 20000 in
theorem q_fl_X6_24 : Cond.fieldLink RX6 24 "MeasuredVault$Thing" "data" "LMeasuredVault$Bytes;" ∈ mv_ws := mv_w1 198 rfl rfl
set_option maxRecDepth 20000 in
theorem q_fl_X7_196 : Cond.fieldLink RX7 196 "MeasuredVault$Thing" "data" "LMeasuredVault$Bytes;" ∈ mv_ws := mv_w1 199 rfl rfl
set_option maxRecDepth 20000 in
theorem q_fl_X6_20 : Cond.fieldLink RX6 20 "MeasuredVault$Thing" "present" "Z" ∈ mv_ws := mv_w1 200 rfl rfl
set_option maxRecDepth 20000 in
theorem q_fl_X7_199 : Cond.fieldLink RX7 199 "MeasuredVault$Thing" "present" "Z" ∈ mv_ws := mv_w1 201 rfl rfl
set_option maxRecDepth 20000 in
theorem q_cl_X7_71 : Cond.classLink RX7 71 RX6 ∈ mv_ws := mv_w1 211 rfl rfl
set_option maxRecDepth 20000 in
theorem q_is_X6 : Cond.instantiable RX6 5 ∈ mv_ws := mv_w1 213 rfl rfl
set_option maxRecDepth 20000 in
theorem q_im_X6_init : Cond.instanceMethod yX6_init ∈ mv_ws := mv_w1 215 rfl rfl
set_option maxRecDepth 20000 in
theorem q_co_X6_init : Cond.code yX6_init cX6_init 1 none ∈ mv_ws := mv_w1 216 rfl rfl
set_option maxRecDepth 20000 in
theorem q_ml_X6_3 : Cond.methodLink RX6 3 objectInit ∈ mv_ws := mv_w1 217 rfl rfl
set_option maxRecDepth 20000 in
theorem q_cl_X6_9 : Cond.classLink RX6 9 RX5 ∈ mv_ws := mv_w1 218 rfl rfl
set_option maxRecDepth 20000 in
theorem q_ml_X6_11 : Cond.methodLink RX6 11 yX5_init ∈ mv_ws := mv_w1 219 rfl rfl
set_option maxRecDepth 20000 in
theorem q_fl_X6_14 : Cond.fieldLink RX6 14 "MeasuredVault$Value" "thing" "LMeasuredVault$Thing;" ∈ mv_ws := mv_w1 220 rfl rfl
set_option maxRecDepth 20000 in
theorem q_fl_X7_206 : Cond.fieldLink RX7 206 "MeasuredVault$Value" "thing" "LMeasuredVault$Thing;" ∈ mv_ws := mv_w1 221 rfl rfl
set_option maxRecDepth 20000 in
theorem q_fl_X6_44 : Cond.fieldLink RX6 44 "MeasuredVault$Value" "kind" "I" ∈ mv_ws := mv_w1 222 rfl rfl
set_option maxRecDepth 20000 in
theorem q_fl_X7_302 : Cond.fieldLink RX7 302 "MeasuredVault$Value" "kind" "I" ∈ mv_ws := mv_w1 223 rfl rfl
set_option maxRecDepth 20000 in
theorem q_fl_X6_47 : Cond.fieldLink RX6 47 "MeasuredVault$Value" "written" "Z" ∈ mv_ws := mv_w1 224 rfl rfl
set_option maxRecDepth 20000 in
theorem q_fl_X7_238 : Cond.fieldLink RX7 238 "MeasuredVault$Value" "written" "Z" ∈ mv_ws := mv_w1 225 rfl rfl
set_option maxRecDepth 20000 in
theorem q_fl_X6_50 : Cond.fieldLink RX6 50 "MeasuredVault$Value" "isShut" "Z" ∈ mv_ws := mv_w1 226 rfl rfl
set_option maxRecDepth 20000 in
theorem q_fl_X7_263 : Cond.fieldLink RX7 263 "MeasuredVault$Value" "isShut" "Z" ∈ mv_ws := mv_w1 227 rfl rfl
set_option maxRecDepth 20000 in
theorem q_fl_X6_53 : Cond.fieldLink RX6 53 "MeasuredVault$Value" "number" "J" ∈ mv_ws := mv_w1 228 rfl rfl
set_option maxRecDepth 20000 in
theorem q_fl_X7_241 : Cond.fieldLink RX7 241 "MeasuredVault$Value" "number" "J" ∈ mv_ws := mv_w1 229 rfl rfl
set_option maxRecDepth 20000 in
theorem q_ml_X7_78 : Cond.methodLink RX7 78 yX7_hashNothing ∈ mv_ws := mv_w2 1 rfl rfl
set_option maxRecDepth 20000 in
theorem q_im_X7_hashNothing : Cond.instanceMethod yX7_hashNothing ∈ mv_ws := mv_w2 3 rfl rfl
set_option maxRecDepth 20000 in
theorem q_co_X7_hashNothing : Cond.code yX7_hashNothing cX7_hashNothing 2 none ∈ mv_ws := mv_w2 4 rfl rfl
set_option maxRecDepth 20000 in
theorem q_ml_X7_299 : Cond.methodLink RX7 299 yX1_begin ∈ mv_ws := mv_w2 5 rfl rfl
set_option maxRecDepth 20000 in
theorem q_ml_X7_149 : Cond.methodLink RX7 149 yX1_finish ∈ mv_ws := mv_w2 6 rfl rfl
set_option maxRecDepth 20000 in
theorem q_fl_X7_10 : Cond.fieldLink RX7 10 "MeasuredVault" "hasher" "LMeasuredVault$Hasher;" ∈ mv_ws := mv_w2 7 rfl rfl
set_option maxRecDepth 20000 in
theorem q_fl_X7_21 : Cond.fieldLink RX7 21 "MeasuredVault" "secret" "LMeasuredVault$Secret;" ∈ mv_ws := mv_w2 8 rfl rfl
set_option maxRecDepth 20000 in
theorem q_fl_X7_30 : Cond.fieldLink RX7 30 "MeasuredVault" "tape" "LMeasuredVault$Bytes;" ∈ mv_ws := mv_w2 9 rfl rfl
set_option maxRecDepth 20000 in
theorem q_fl_X7_34 : Cond.fieldLink RX7 34 "MeasuredVault" "out" "LMeasuredVault$Bytes;" ∈ mv_ws := mv_w2 10 rfl rfl
set_option maxRecDepth 20000 in
theorem q_fl_X7_37 : Cond.fieldLink RX7 37 "MeasuredVault" "theKey" "[B" ∈ mv_ws := mv_w2 11 rfl rfl
set_option maxRecDepth 20000 in
theorem q_fl_X7_41 : Cond.fieldLink RX7 41 "MeasuredVault" "ownerAuth" "[B" ∈ mv_ws := mv_w2 12 rfl rfl
set_option maxRecDepth 20000 in
theorem q_fl_X7_44 : Cond.fieldLink RX7 44 "MeasuredVault" "noPolicy" "[B" ∈ mv_ws := mv_w2 13 rfl rfl
set_option maxRecDepth 20000 in
theorem q_fl_X7_47 : Cond.fieldLink RX7 47 "MeasuredVault" "scratch" "[B" ∈ mv_ws := mv_w2 14 rfl rfl
set_option maxRecDepth 20000 in
theorem q_fl_X7_53 : Cond.fieldLink RX7 53 "MeasuredVault" "registers" "LMeasuredVault$Registers;" ∈ mv_ws := mv_w2 15 rfl rfl
set_option maxRecDepth 20000 in
theorem q_fl_X7_59 : Cond.fieldLink RX7 59 "MeasuredVault" "sessions" "[LMeasuredVault$Session;" ∈ mv_ws := mv_w2 16 rfl rfl
set_option maxRecDepth 20000 in
theorem q_fl_X7_66 : Cond.fieldLink RX7 66 "MeasuredVault" "objects" "[LMeasuredVault$Thing;" ∈ mv_ws := mv_w2 17 rfl rfl
set_option maxRecDepth 20000 in
theorem q_fl_X7_73 : Cond.fieldLink RX7 73 "MeasuredVault" "values" "[LMeasuredVault$Value;" ∈ mv_ws := mv_w2 18 rfl rfl
set_option maxRecDepth 20000 in
theorem q_fl_X7_245 : Cond.fieldLink RX7 245 "MeasuredVault" "greatest" "J" ∈ mv_ws := mv_w2 19 rfl rfl
set_option maxRecDepth 20000 in
theorem q_fl_X7_125 : Cond.fieldLink RX7 125 "MeasuredVault" "clock" "I" ∈ mv_ws := mv_w2 20 rfl rfl
set_option maxRecDepth 20000 in
theorem q_fl_X7_128 : Cond.fieldLink RX7 128 "MeasuredVault" "restarts" "I" ∈ mv_ws := mv_w2 21 rfl rfl
set_option maxRecDepth 20000 in
theorem q_fl_X7_270 : Cond.fieldLink RX7 270 "MeasuredVault" "failures" "I" ∈ mv_ws := mv_w2 22 rfl rfl
set_option maxRecDepth 20000 in
theorem q_ml_L_21 : Cond.methodLink RL 21 yX7_feed ∈ mv_ws := mv_w2 56 rfl rfl
set_option maxRecDepth 20000 in
theorem q_im_X7_feed : Cond.instanceMethod yX7_feed ∈ mv_ws := mv_w2 57 rfl rfl
set_option maxRecDepth 20000 in
theorem q_se_X7_feed : Cond.selects RX7 yX7_feed yX7_feed ∈ mv_ws := mv_w2 58 rfl rfl
set_option maxRecDepth 20000 in
theorem q_co_X7_feed : Cond.code yX7_feed cX7_feed 6 (some .int) ∈ mv_ws := mv_w2 59 rfl rfl
set_option maxRecDepth 20000 in
theorem q_ml_X7_82 : Cond.methodLink RX7 82 yX0_hasRoomFor ∈ mv_ws := mv_w2 60 rfl rfl
set_option maxRecDepth 20000 in
theorem q_im_X0_hasRoomFor : Cond.instanceMethod yX0_hasRoomFor ∈ mv_ws := mv_w2 61 rfl rfl
set_option maxRecDepth 20000 in
theorem q_se_X0_hasRoomFor : Cond.selects RX0 yX0_hasRoomFor yX0_hasRoomFor ∈ mv_ws := mv_w2 62 rfl rfl
set_option maxRecDepth 20000 in
theorem q_co_X0_hasRoomFor : Cond.code yX0_hasRoomFor cX0_hasRoomFor 2 (some .boolean) ∈ mv_ws := mv_w2 63 rfl rfl
set_option maxRecDepth 20000 in
theorem q_ml_X7_86 : Cond.methodLink RX7 86 yX0_putInt ∈ mv_ws := mv_w2 64 rfl rfl
set_option maxRecDepth 20000 in
theorem q_ml_L_26 : Cond.methodLink RL 26 yX7_end ∈ mv_ws := mv_w2 65 rfl rfl
set_option maxRecDepth 20000 in
theorem q_im_X7_end : Cond.instanceMethod yX7_end ∈ mv_ws := mv_w2 66 rfl rfl
set_option maxRecDepth 20000 in
theorem q_se_X7_end : Cond.selects RX7 yX7_end yX7_end ∈ mv_ws := mv_w2 67 rfl rfl
set_option maxRecDepth 20000 in
theorem q_co_X7_end : Cond.code yX7_end cX7_end 2 (some .int) ∈ mv_ws := mv_w2 68 rfl rfl
set_option maxRecDepth 20000 in
theorem q_ml_L_31 : Cond.methodLink RL 31 yX7_octet ∈ mv_ws := mv_w2 69 rfl rfl
set_option maxRecDepth 20000 in
theorem q_im_X7_octet : Cond.instanceMethod yX7_octet ∈ mv_ws := mv_w2 70 rfl rfl
set_option maxRecDepth 20000 in
theorem q_se_X7_octet : Cond.selects RX7 yX7_octet yX7_octet ∈ mv_ws := mv_w2 71 rfl rfl
set_option maxRecDepth 20000 in
theorem q_co_X7_octet : Cond.code yX7_octet cX7_octet 2 (some .int) ∈ mv_ws := mv_w2 72 rfl rfl
set_option maxRecDepth 20000 in
theorem q_ml_L_35 : Cond.methodLink RL 35 yX7_back ∈ mv_ws := mv_w2 73 rfl rfl
set_option maxRecDepth 20000 in
theorem q_im_X7_back : Cond.instanceMethod yX7_back ∈ mv_ws := mv_w2 74 rfl rfl
set_option maxRecDepth 20000 in
theorem q_se_X7_back : Cond.selects RX7 yX7_back yX7_back ∈ mv_ws := mv_w2 75 rfl rfl
set_option maxRecDepth 20000 in
theorem q_co_X7_back : Cond.code yX7_back cX7_back 1 (some .int) ∈ mv_ws := mv_w2 76 rfl rfl
set_option maxRecDepth 20000 in
theorem q_ml_X7_96 : Cond.methodLink RX7 96 yX0_putAll ∈ mv_ws := mv_w2 77 rfl rfl
set_option maxRecDepth 20000 in
theorem q_im_X0_putAll : Cond.instanceMethod yX0_putAll ∈ mv_ws := mv_w2 78 rfl rfl
set_option maxRecDepth 20000 in
theorem q_se_X0_putAll : Cond.selects RX0 yX0_putAll yX0_putAll ∈ mv_ws := mv_w2 79 rfl rfl
set_option maxRecDepth 20000 in
theorem q_co_X0_putAll : Cond.code yX0_putAll cX0_putAll 4 none ∈ mv_ws := mv_w2 80 rfl rfl
set_option maxRecDepth 20000 in
theorem q_ml_X0_21 : Cond.methodLink RX0 21 yJ9_min_7cf53 ∈ mv_ws := mv_w2 81 rfl rfl
set_option maxRecDepth 20000 in
theorem q_st_J9_min_7cf53 : Cond.static yJ9_min_7cf53 ∈ mv_ws := mv_w2 82 rfl rfl
set_option maxRecDepth 20000 in
theorem q_co_J9_min_7cf53 : Cond.code yJ9_min_7cf53 cJ9_min_7cf53 2 (some .int) ∈ mv_ws := mv_w2 83 rfl rfl
set_option maxRecDepth 20000 in
theorem q_ml_X0_27 : Cond.methodLink RX0 27 arraycopyName ∈ mv_ws := mv_w2 84 rfl rfl
set_option maxRecDepth 20000 in
theorem q_ml_L_40 : Cond.methodLink RL 40 yX7_hash ∈ mv_ws := mv_w2 85 rfl rfl
set_option maxRecDepth 20000 in
theorem q_im_X7_hash : Cond.instanceMethod yX7_hash ∈ mv_ws := mv_w2 86 rfl rfl
set_option maxRecDepth 20000 in
theorem q_se_X7_hash : Cond.selects RX7 yX7_hash yX7_hash ∈ mv_ws := mv_w2 87 rfl rfl
set_option maxRecDepth 20000 in
theorem q_co_X7_hash : Cond.code yX7_hash cX7_hash 1 (some .int) ∈ mv_ws := mv_w2 88 rfl rfl
set_option maxRecDepth 20000 in
theorem q_ml_X7_100 : Cond.methodLink RX7 100 yX7_takeTapeHash ∈ mv_ws := mv_w2 89 rfl rfl
set_option maxRecDepth 20000 in
theorem q_im_X7_takeTapeHash : Cond.instanceMethod yX7_takeTapeHash ∈ mv_ws := mv_w2 91 rfl rfl
set_option maxRecDepth 20000 in
theorem q_co_X7_takeTapeHash : Cond.code yX7_takeTapeHash cX7_takeTapeHash 1 none ∈ mv_ws := mv_w2 92 rfl rfl
set_option maxRecDepth 20000 in
theorem q_ml_X7_103 : Cond.methodLink RX7 103 yX7_tell ∈ mv_ws := mv_w2 93 rfl rfl
set_option maxRecDepth 20000 in
theorem q_im_X7_tell : Cond.instanceMethod yX7_tell ∈ mv_ws := mv_w2 95 rfl rfl
set_option maxRecDepth 20000 in
theorem q_co_X7_tell : Cond.code yX7_tell cX7_tell 3 (some .int) ∈ mv_ws := mv_w2 96 rfl rfl
set_option maxRecDepth 20000 in
theorem q_ml_L_44 : Cond.methodLink RL 44 yX7_key ∈ mv_ws := mv_w2 97 rfl rfl
set_option maxRecDepth 20000 in
theorem q_im_X7_key : Cond.instanceMethod yX7_key ∈ mv_ws := mv_w2 98 rfl rfl
set_option maxRecDepth 20000 in
theorem q_se_X7_key : Cond.selects RX7 yX7_key yX7_key ∈ mv_ws := mv_w2 99 rfl rfl
set_option maxRecDepth 20000 in
theorem q_co_X7_key : Cond.code yX7_key cX7_key 1 (some .int) ∈ mv_ws := mv_w2 100 rfl rfl
set_option maxRecDepth 20000 in
theorem q_ml_X7_107 : Cond.methodLink RX7 107 yX7_copyDigest ∈ mv_ws := mv_w2 101 rfl rfl
set_option maxRecDepth 20000 in
theorem q_st_X7_copyDigest : Cond.static yX7_copyDigest ∈ mv_ws := mv_w2 102 rfl rfl
set_option maxRecDepth 20000 in
theorem q_co_X7_copyDigest : Cond.code yX7_copyDigest cX7_copyDigest 2 none ∈ mv_ws := mv_w2 103 rfl rfl
set_option maxRecDepth 20000 in
theorem q_ml_X7_309 : Cond.methodLink RX7 309 arraycopyName ∈ mv_ws := mv_w2 104 rfl rfl
set_option maxRecDepth 20000 in
theorem q_ml_L_48 : Cond.methodLink RL 48 yX7_extend ∈ mv_ws := mv_w2 105 rfl rfl
set_option maxRecDepth 20000 in
theorem q_im_X7_extend : Cond.instanceMethod yX7_extend ∈ mv_ws := mv_w2 106 rfl rfl
set_option maxRecDepth 20000 in
theorem q_se_X7_extend : Cond.selects RX7 yX7_extend yX7_extend ∈ mv_ws := mv_w2 107 rfl rfl
set_option maxRecDepth 20000 in
theorem q_co_X7_extend : Cond.code yX7_extend cX7_extend 2 (some .int) ∈ mv_ws := mv_w2 108 rfl rfl
set_option maxRecDepth 20000 in
theorem q_ml_X7_111 : Cond.methodLink RX7 111 yX2_mixIn ∈ mv_ws := mv_w2 109 rfl rfl
set_option maxRecDepth 20000 in
theorem q_im_X2_mixIn : Cond.instanceMethod yX2_mixIn ∈ mv_ws := mv_w2 110 rfl rfl
set_option maxRecDepth 20000 in
theorem q_se_X2_mixIn : Cond.selects RX2 yX2_mixIn yX2_mixIn ∈ mv_ws := mv_w2 111 rfl rfl
set_option maxRecDepth 20000 in
theorem q_co_X2_mixIn : Cond.code yX2_mixIn cX2_mixIn 5 none ∈ mv_ws := mv_w2 112 rfl rfl
set_option maxRecDepth 20000 in
theorem q_ml_X2_18 : Cond.methodLink RX2 18 arraycopyName ∈ mv_ws := mv_w2 113 rfl rfl
set_option maxRecDepth 20000 in
theorem q_ml_X2_24 : Cond.methodLink RX2 24 yX1_begin ∈ mv_ws := mv_w2 114 rfl rfl
set_option maxRecDepth 20000 in
theorem q_ml_X2_30 : Cond.methodLink RX2 30 yX0_putAll ∈ mv_ws := mv_w2 115 rfl rfl
set_option maxRecDepth 20000 in
theorem q_ml_X2_36 : Cond.methodLink RX2 36 yX1_finish ∈ mv_ws := mv_w2 116 rfl rfl
set_option maxRecDepth 20000 in
theorem q_ml_L_52 : Cond.methodLink RL 52 yX7_reset ∈ mv_ws := mv_w2 117 rfl rfl
set_option maxRecDepth 20000 in
theorem q_im_X7_reset : Cond.instanceMethod yX7_reset ∈ mv_ws := mv_w2 118 rfl rfl
set_option maxRecDepth 20000 in
theorem q_se_X7_reset : Cond.selects RX7 yX7_reset yX7_reset ∈ mv_ws := mv_w2 119 rfl rfl
set_option maxRecDepth 20000 in
theorem q_co_X7_reset : Cond.code yX7_reset cX7_reset 2 (some .int) ∈ mv_ws := mv_w2 120 rfl rfl
set_option maxRecDepth 20000 in
theorem q_ml_X7_115 : Cond.methodLink RX7 115 yX2_zero ∈ mv_ws := mv_w2 121 rfl rfl
set_option maxRecDepth 20000 in
theorem q_im_X2_zero : Cond.instanceMethod yX2_zero ∈ mv_ws := mv_w2 122 rfl rfl
set_option maxRecDepth 20000 in
theorem q_se_X2_zero : Cond.selects RX2 yX2_zero yX2_zero ∈ mv_ws := mv_w2 123 rfl rfl
set_option maxRecDepth 20000 in
theorem q_co_X2_zero : Cond.code yX2_zero cX2_zero 3 none ∈ mv_ws := mv_w2 124 rfl rfl
set_option maxRecDepth 20000 in
theorem q_ml_L_56 : Cond.methodLink RL 56 yX7_state ∈ mv_ws := mv_w2 125 rfl rfl
set_option maxRecDepth 20000 in
theorem q_im_X7_state : Cond.instanceMethod yX7_state ∈ mv_ws := mv_w2 126 rfl rfl
set_option maxRecDepth 20000 in
theorem q_se_X7_state : Cond.selects RX7 yX7_state yX7_state ∈ mv_ws := mv_w2 127 rfl rfl
set_option maxRecDepth 20000 in
theorem q_co_X7_state : Cond.code yX7_state cX7_state 2 (some .int) ∈ mv_ws := mv_w2 128 rfl rfl
set_option maxRecDepth 20000 in
theorem q_ml_X7_118 : Cond.methodLink RX7 118 yX2_measure ∈ mv_ws := mv_w2 129 rfl rfl
set_option maxRecDepth 20000 in
theorem q_im_X2_measure : Cond.instanceMethod yX2_measure ∈ mv_ws := mv_w2 130 rfl rfl
set_option maxRecDepth 20000 in
theorem q_se_X2_measure : Cond.selects RX2 yX2_measure yX2_measure ∈ mv_ws := mv_w2 131 rfl rfl
set_option maxRecDepth 20000 in
theorem q_co_X2_measure : Cond.code yX2_measure cX2_measure 6 none ∈ mv_ws := mv_w2 132 rfl rfl
set_option maxRecDepth 20000 in
theorem q_ml_L_60 : Cond.methodLink RL 60 yX7_quote ∈ mv_ws := mv_w2 133 rfl rfl
set_option maxRecDepth 20000 in
theorem q_im_X7_quote : Cond.instanceMethod yX7_quote ∈ mv_ws := mv_w2 134 rfl rfl
set_option maxRecDepth 20000 in
theorem q_se_X7_quote : Cond.selects RX7 yX7_quote yX7_quote ∈ mv_ws := mv_w2 135 rfl rfl
set_option maxRecDepth 20000 in
theorem q_co_X7_quote : Cond.code yX7_quote cX7_quote 3 (some .int) ∈ mv_ws := mv_w2 136 rfl rfl
set_option maxRecDepth 20000 in
theorem q_ml_X7_122 : Cond.methodLink RX7 122 yX0_put ∈ mv_ws := mv_w2 137 rfl rfl
set_option maxRecDepth 20000 in
theorem q_ml_X7_131 : Cond.methodLink RX7 131 yX3_sign ∈ mv_ws := mv_w2 138 rfl rfl
set_option maxRecDepth 20000 in
theorem q_im_X3_sign : Cond.instanceMethod yX3_sign ∈ mv_ws := mv_w2 139 rfl rfl
set_option maxRecDepth 20000 in
theorem q_se_X3_sign : Cond.selects RX3 yX3_sign yX3_sign ∈ mv_ws := mv_w2 140 rfl rfl
set_option maxRecDepth 20000 in
theorem q_co_X3_sign : Cond.code yX3_sign cX3_sign 2 none ∈ mv_ws := mv_w2 141 rfl rfl
set_option maxRecDepth 20000 in
theorem q_ml_X3_48 : Cond.methodLink RX3 48 yX1_beginKeyed ∈ mv_ws := mv_w2 142 rfl rfl
set_option maxRecDepth 20000 in
theorem q_im_X1_beginKeyed : Cond.instanceMethod yX1_beginKeyed ∈ mv_ws := mv_w2 143 rfl rfl
set_option maxRecDepth 20000 in
theorem q_se_X1_beginKeyed : Cond.selects RX1 yX1_beginKeyed yX1_beginKeyed ∈ mv_ws := mv_w2 144 rfl rfl
set_option maxRecDepth 20000 in
theorem q_co_X1_beginKeyed : Cond.code yX1_beginKeyed cX1_beginKeyed 2 (some (.object "MeasuredVault$Bytes")) ∈ mv_ws := mv_w2 145 rfl rfl
set_option maxRecDepth 20000 in
theorem q_ml_X1_35 : Cond.methodLink RX1 35 yX1_putPad ∈ mv_ws := mv_w2 146 rfl rfl
set_option maxRecDepth 20000 in
theorem q_im_X1_putPad : Cond.instanceMethod yX1_putPad ∈ mv_ws := mv_w2 148 rfl rfl
set_option maxRecDepth 20000 in
theorem q_co_X1_putPad : Cond.code yX1_putPad cX1_putPad 4 none ∈ mv_ws := mv_w2 149 rfl rfl
set_option maxRecDepth 20000 in
theorem q_ml_X3_52 : Cond.methodLink RX3 52 yX1_finishKeyed ∈ mv_ws := mv_w2 150 rfl rfl
set_option maxRecDepth 20000 in
theorem q_im_X1_finishKeyed : Cond.instanceMethod yX1_finishKeyed ∈ mv_ws := mv_w2 151 rfl rfl
set_option maxRecDepth 20000 in
theorem q_se_X1_finishKeyed : Cond.selects RX1 yX1_finishKeyed yX1_finishKeyed ∈ mv_ws := mv_w2 152 rfl rfl
set_option maxRecDepth 20000 in
theorem q_co_X1_finishKeyed : Cond.code yX1_finishKeyed cX1_finishKeyed 3 none ∈ mv_ws := mv_w2 153 rfl rfl
set_option maxRecDepth 20000 in
theorem q_ml_X1_39 : Cond.methodLink RX1 39 yX1_finish ∈ mv_ws := mv_w2 154 rfl rfl
set_option maxRecDepth 20000 in
theorem q_ml_X1_43 : Cond.methodLink RX1 43 yX0_putAll ∈ mv_ws := mv_w2 155 rfl rfl
set_option maxRecDepth 20000 in
theorem q_ml_X3_63 : Cond.methodLink RX3 63 yX3_findMark ∈ mv_ws := mv_w2 156 rfl rfl
set_option maxRecDepth 20000 in
theorem q_im_X3_findMark : Cond.instanceMethod yX3_findMark ∈ mv_ws := mv_w2 158 rfl rfl
set_option maxRecDepth 20000 in
theorem q_co_X3_findMark : Cond.code yX3_findMark cX3_findMark 3 none ∈ mv_ws := mv_w2 159 rfl rfl
set_option maxRecDepth 20000 in
theorem q_ml_X3_44 : Cond.methodLink RX3 44 yX0_putAll ∈ mv_ws := mv_w2 160 rfl rfl
set_option maxRecDepth 20000 in
theorem q_ml_L_64 : Cond.methodLink RL 64 yX7_open ∈ mv_ws := mv_w2 161 rfl rfl
set_option maxRecDepth 20000 in
theorem q_im_X7_open : Cond.instanceMethod yX7_open ∈ mv_ws := mv_w2 162 rfl rfl
set_option maxRecDepth 20000 in
theorem q_se_X7_open : Cond.selects RX7 yX7_open yX7_open ∈ mv_ws := mv_w2 163 rfl rfl
set_option maxRecDepth 20000 in
theorem q_co_X7_open : Cond.code yX7_open cX7_open 2 (some .int) ∈ mv_ws := mv_w2 164 rfl rfl
set_option maxRecDepth 20000 in
theorem q_ml_X7_135 : Cond.methodLink RX7 135 yX4_begin ∈ mv_ws := mv_w2 165 rfl rfl
set_option maxRecDepth 20000 in
theorem q_im_X4_begin : Cond.instanceMethod yX4_begin ∈ mv_ws := mv_w2 166 rfl rfl
set_option maxRecDepth 20000 in
theorem q_se_X4_begin : Cond.selects RX4 yX4_begin yX4_begin ∈ mv_ws := mv_w2 167 rfl rfl
set_option maxRecDepth 20000 in
theorem q_co_X4_begin : Cond.code yX4_begin cX4_begin 1 none ∈ mv_ws := mv_w2 168 rfl rfl
set_option maxRecDepth 20000 in
theorem q_ml_X4_15 : Cond.methodLink RX4 15 yJ7_fill_031fb ∈ mv_ws := mv_w2 169 rfl rfl
set_option maxRecDepth 20000 in
theorem q_st_J7_fill_031fb : Cond.static yJ7_fill_031fb ∈ mv_ws := mv_w2 170 rfl rfl
set_option maxRecDepth 20000 in
theorem q_co_J7_fill_031fb : Cond.code yJ7_fill_031fb cJ7_fill_031fb 4 none ∈ mv_ws := mv_w2 171 rfl rfl
set_option maxRecDepth 20000 in
theorem q_ml_L_68 : Cond.methodLink RL 68 yX7_policyState ∈ mv_ws := mv_w2 172 rfl rfl
set_option maxRecDepth 20000 in
theorem q_im_X7_policyState : Cond.instanceMethod yX7_policyState ∈ mv_ws := mv_w2 173 rfl rfl
set_option maxRecDepth 20000 in
theorem q_se_X7_policyState : Cond.selects RX7 yX7_policyState yX7_policyState ∈ mv_ws := mv_w2 174 rfl rfl
set_option maxRecDepth 20000 in
theorem q_co_X7_policyState : Cond.code yX7_policyState cX7_policyState 5 (some .int) ∈ mv_ws := mv_w2 175 rfl rfl
set_option maxRecDepth 20000 in
theorem q_ml_X7_138 : Cond.methodLink RX7 138 yX7_openSession ∈ mv_ws := mv_w2 176 rfl rfl
set_option maxRecDepth 20000 in
theorem q_im_X7_openSession : Cond.instanceMethod yX7_openSession ∈ mv_ws := mv_w2 178 rfl rfl
set_option maxRecDepth 20000 in
theorem q_co_X7_openSession : Cond.code yX7_openSession cX7_openSession 2 (some (.object "MeasuredVault$Session")) ∈ mv_ws := mv_w2 179 rfl rfl
set_option maxRecDepth 20000 in
theorem q_ml_X7_142 : Cond.methodLink RX7 142 yX4_startStep ∈ mv_ws := mv_w2 180 rfl rfl
set_option maxRecDepth 20000 in
theorem q_im_X4_startStep : Cond.instanceMethod yX4_startStep ∈ mv_ws := mv_w2 181 rfl rfl
set_option maxRecDepth 20000 in
theorem q_se_X4_startStep : Cond.selects RX4 yX4_startStep yX4_startStep ∈ mv_ws := mv_w2 182 rfl rfl
set_option maxRecDepth 20000 in
theorem q_co_X4_startStep : Cond.code yX4_startStep cX4_startStep 4 (some (.object "MeasuredVault$Bytes")) ∈ mv_ws := mv_w2 183 rfl rfl
set_option maxRecDepth 20000 in
theorem q_ml_X4_38 : Cond.methodLink RX4 38 yX1_begin ∈ mv_ws := mv_w2 184 rfl rfl
set_option maxRecDepth 20000 in
theorem q_ml_X4_44 : Cond.methodLink RX4 44 yX0_putAll ∈ mv_ws := mv_w2 185 rfl rfl
set_option maxRecDepth 20000 in
theorem q_ml_X4_50 : Cond.methodLink RX4 50 yX0_put ∈ mv_ws := mv_w2 186 rfl rfl
set_option maxRecDepth 20000 in
theorem q_ml_X7_155 : Cond.methodLink RX7 155 yX4_bindRegisters ∈ mv_ws := mv_w2 187 rfl rfl
set_option maxRecDepth 20000 in
theorem q_im_X4_bindRegisters : Cond.instanceMethod yX4_bindRegisters ∈ mv_ws := mv_w2 188 rfl rfl
set_option maxRecDepth 20000 in
theorem q_se_X4_bindRegisters : Cond.selects RX4 yX4_bindRegisters yX4_bindRegisters ∈ mv_ws := mv_w2 189 rfl rfl
set_option maxRecDepth 20000 in
theorem q_co_X4_bindRegisters : Cond.code yX4_bindRegisters cX4_bindRegisters 2 none ∈ mv_ws := mv_w2 190 rfl rfl
set_option maxRecDepth 20000 in
theorem q_ml_L_73 : Cond.methodLink RL 73 yX7_policyAuth ∈ mv_ws := mv_w2 191 rfl rfl
set_option maxRecDepth 20000 in
theorem q_im_X7_policyAuth : Cond.instanceMethod yX7_policyAuth ∈ mv_ws := mv_w2 192 rfl rfl
set_option maxRecDepth 20000 in
theorem q_se_X7_policyAuth : Cond.selects RX7 yX7_policyAuth yX7_policyAuth ∈ mv_ws := mv_w2 193 rfl rfl
set_option maxRecDepth 20000 in
theorem q_co_X7_policyAuth : Cond.code yX7_policyAuth cX7_policyAuth 3 (some .int) ∈ mv_ws := mv_w2 194 rfl rfl
set_option maxRecDepth 20000 in
theorem q_ml_L_77 : Cond.methodLink RL 77 yX7_policyCode ∈ mv_ws := mv_w2 195 rfl rfl
set_option maxRecDepth 20000 in
theorem q_im_X7_policyCode : Cond.instanceMethod yX7_policyCode ∈ mv_ws := mv_w2 196 rfl rfl
set_option maxRecDepth 20000 in
theorem q_se_X7_policyCode : Cond.selects RX7 yX7_policyCode yX7_policyCode ∈ mv_ws := mv_w2 197 rfl rfl
set_option maxRecDepth 20000 in
theorem q_co_X7_policyCode : Cond.code yX7_policyCode cX7_policyCode 4 (some .int) ∈ mv_ws := mv_w2 198 rfl rfl
set_option maxRecDepth 20000 in
theorem q_ml_L_81 : Cond.methodLink RL 81 yX7_policyTime ∈ mv_ws := mv_w2 199 rfl rfl
set_option maxRecDepth 20000 in
theorem q_im_X7_policyTime : Cond.instanceMethod yX7_policyTime ∈ mv_ws := mv_w2 200 rfl rfl
set_option maxRecDepth 20000 in
theorem q_se_X7_policyTime : Cond.selects RX7 yX7_policyTime yX7_policyTime ∈ mv_ws := mv_w2 201 rfl rfl
set_option maxRecDepth 20000 in
theorem q_co_X7_policyTime : Cond.code yX7_policyTime cX7_policyTime 4 (some .int) ∈ mv_ws := mv_w2 202 rfl rfl
set_option maxRecDepth 20000 in
theorem q_ml_X7_165 : Cond.methodLink RX7 165 yX4_bindTime ∈ mv_ws := mv_w2 203 rfl rfl
set_option maxRecDepth 20000 in
theorem q_im_X4_bindTime : Cond.instanceMethod yX4_bindTime ∈ mv_ws := mv_w2 204 rfl rfl
set_option maxRecDepth 20000 in
theorem q_se_X4_bindTime : Cond.selects RX4 yX4_bindTime yX4_bindTime ∈ mv_ws := mv_w2 205 rfl rfl
set_option maxRecDepth 20000 in
theorem q_co_X4_bindTime : Cond.code yX4_bindTime cX4_bindTime 2 none ∈ mv_ws := mv_w2 206 rfl rfl
set_option maxRecDepth 20000 in
theorem q_ml_X4_60 : Cond.methodLink RX4 60 yJ9_min_7cf53 ∈ mv_ws := mv_w2 207 rfl rfl
set_option maxRecDepth 20000 in
theorem q_ml_L_85 : Cond.methodLink RL 85 yX7_policyOr ∈ mv_ws := mv_w2 208 rfl rfl
set_option maxRecDepth 20000 in
theorem q_im_X7_policyOr : Cond.instanceMethod yX7_policyOr ∈ mv_ws := mv_w2 209 rfl rfl
set_option maxRecDepth 20000 in
theorem q_se_X7_policyOr : Cond.selects RX7 yX7_policyOr yX7_policyOr ∈ mv_ws := mv_w2 210 rfl rfl
set_option maxRecDepth 20000 in
theorem q_co_X7_policyOr : Cond.code yX7_policyOr cX7_policyOr 3 (some .int) ∈ mv_ws := mv_w2 211 rfl rfl
set_option maxRecDepth 20000 in
theorem q_ml_X7_168 : Cond.methodLink RX7 168 yX7_chooseBranch ∈ mv_ws := mv_w2 212 rfl rfl
set_option maxRecDepth 20000 in
theorem q_im_X7_chooseBranch : Cond.instanceMethod yX7_chooseBranch ∈ mv_ws := mv_w2 214 rfl rfl
set_option maxRecDepth 20000 in
theorem q_co_X7_chooseBranch : Cond.code yX7_chooseBranch cX7_chooseBranch 5 (some .int) ∈ mv_ws := mv_w2 215 rfl rfl
set_option maxRecDepth 20000 in
theorem q_ml_X7_305 : Cond.methodLink RX7 305 yX7_sameBytes ∈ mv_ws := mv_w2 216 rfl rfl
set_option maxRecDepth 20000 in
theorem q_st_X7_sameBytes : Cond.static yX7_sameBytes ∈ mv_ws := mv_w2 217 rfl rfl
set_option maxRecDepth 20000 in
theorem q_co_X7_sameBytes : Cond.code yX7_sameBytes cX7_sameBytes 4 (some .boolean) ∈ mv_ws := mv_w2 218 rfl rfl
set_option maxRecDepth 20000 in
theorem q_ml_L_89 : Cond.methodLink RL 89 yX7_digest ∈ mv_ws := mv_w2 219 rfl rfl
set_option maxRecDepth 20000 in
theorem q_im_X7_digest : Cond.instanceMethod yX7_digest ∈ mv_ws := mv_w2 220 rfl rfl
set_option maxRecDepth 20000 in
theorem q_se_X7_digest : Cond.selects RX7 yX7_digest yX7_digest ∈ mv_ws := mv_w2 221 rfl rfl
set_option maxRecDepth 20000 in
theorem q_co_X7_digest : Cond.code yX7_digest cX7_digest 3 (some .int) ∈ mv_ws := mv_w2 222 rfl rfl
set_option maxRecDepth 20000 in
theorem q_ml_L_93 : Cond.methodLink RL 93 yX7_seal ∈ mv_ws := mv_w2 223 rfl rfl
set_option maxRecDepth 20000 in
theorem q_im_X7_seal : Cond.instanceMethod yX7_seal ∈ mv_ws := mv_w2 224 rfl rfl
set_option maxRecDepth 20000 in
theorem q_se_X7_seal : Cond.selects RX7 yX7_seal yX7_seal ∈ mv_ws := mv_w2 225 rfl rfl
set_option maxRecDepth 20000 in
theorem q_co_X7_seal : Cond.code yX7_seal cX7_seal 4 (some .int) ∈ mv_ws := mv_w2 226 rfl rfl
set_option maxRecDepth 20000 in
theorem q_ml_X7_172 : Cond.methodLink RX7 172 yX7_policyFrom ∈ mv_ws := mv_w2 227 rfl rfl
set_option maxRecDepth 20000 in
theorem q_im_X7_policyFrom : Cond.instanceMethod yX7_policyFrom ∈ mv_ws := mv_w2 229 rfl rfl
set_option maxRecDepth 20000 in
theorem q_co_X7_policyFrom : Cond.code yX7_policyFrom cX7_policyFrom 3 (some (.array .byte)) ∈ mv_ws := mv_w2 230 rfl rfl
set_option maxRecDepth 20000 in
theorem q_ml_X7_176 : Cond.methodLink RX7 176 yX3_wrap ∈ mv_ws := mv_w2 231 rfl rfl
set_option maxRecDepth 20000 in
theorem q_im_X3_wrap : Cond.instanceMethod yX3_wrap ∈ mv_ws := mv_w2 232 rfl rfl
set_option maxRecDepth 20000 in
theorem q_se_X3_wrap : Cond.selects RX3 yX3_wrap yX3_wrap ∈ mv_ws := mv_w2 233 rfl rfl
set_option maxRecDepth 20000 in
theorem q_co_X3_wrap : Cond.code yX3_wrap cX3_wrap 5 none ∈ mv_ws := mv_w2 234 rfl rfl
set_option maxRecDepth 20000 in
theorem q_ml_X3_69 : Cond.methodLink RX3 69 yX3_derive ∈ mv_ws := mv_w2 235 rfl rfl
set_option maxRecDepth 20000 in
theorem q_im_X3_derive : Cond.instanceMethod yX3_derive ∈ mv_ws := mv_w2 237 rfl rfl
set_option maxRecDepth 20000 in
theorem q_co_X3_derive : Cond.code yX3_derive cX3_derive 4 none ∈ mv_ws := mv_w2 238 rfl rfl
set_option maxRecDepth 20000 in
theorem q_ml_X3_73 : Cond.methodLink RX3 73 yX3_cover ∈ mv_ws := mv_w2 239 rfl rfl
set_option maxRecDepth 20000 in
theorem q_im_X3_cover : Cond.instanceMethod yX3_cover ∈ mv_ws := mv_w3 1 rfl rfl
set_option maxRecDepth 20000 in
theorem q_co_X3_cover : Cond.code yX3_cover cX3_cover 6 none ∈ mv_ws := mv_w3 2 rfl rfl
set_option maxRecDepth 20000 in
theorem q_ml_L_97 : Cond.methodLink RL 97 yX7_load ∈ mv_ws := mv_w3 3 rfl rfl
set_option maxRecDepth 20000 in
theorem q_im_X7_load : Cond.instanceMethod yX7_load ∈ mv_ws := mv_w3 4 rfl rfl
set_option maxRecDepth 20000 in
theorem q_se_X7_load : Cond.selects RX7 yX7_load yX7_load ∈ mv_ws := mv_w3 5 rfl rfl
set_option maxRecDepth 20000 in
theorem q_co_X7_load : Cond.code yX7_load cX7_load 2 (some .int) ∈ mv_ws := mv_w3 6 rfl rfl
set_option maxRecDepth 20000 in
theorem q_ml_X7_180 : Cond.methodLink RX7 180 yX3_unwrap ∈ mv_ws := mv_w3 7 rfl rfl
set_option maxRecDepth 20000 in
theorem q_im_X3_unwrap : Cond.instanceMethod yX3_unwrap ∈ mv_ws := mv_w3 8 rfl rfl
set_option maxRecDepth 20000 in
theorem q_se_X3_unwrap : Cond.selects RX3 yX3_unwrap yX3_unwrap ∈ mv_ws := mv_w3 9 rfl rfl
set_option maxRecDepth 20000 in
theorem q_co_X3_unwrap : Cond.code yX3_unwrap cX3_unwrap 5 (some .boolean) ∈ mv_ws := mv_w3 10 rfl rfl
set_option maxRecDepth 20000 in
theorem q_ml_X3_76 : Cond.methodLink RX3 76 yX0_intAt ∈ mv_ws := mv_w3 11 rfl rfl
set_option maxRecDepth 20000 in
theorem q_ml_X7_184 : Cond.methodLink RX7 184 yX7_keepUnwrapped ∈ mv_ws := mv_w3 13 rfl rfl
set_option maxRecDepth 20000 in
theorem q_im_X7_keepUnwrapped : Cond.instanceMethod yX7_keepUnwrapped ∈ mv_ws := mv_w3 15 rfl rfl
set_option maxRecDepth 20000 in
theorem q_co_X7_keepUnwrapped : Cond.code yX7_keepUnwrapped cX7_keepUnwrapped 3 (some .int) ∈ mv_ws := mv_w3 16 rfl rfl
set_option maxRecDepth 20000 in
theorem q_ml_L_101 : Cond.methodLink RL 101 yX7_unseal ∈ mv_ws := mv_w3 17 rfl rfl
set_option maxRecDepth 20000 in
theorem q_im_X7_unseal : Cond.instanceMethod yX7_unseal ∈ mv_ws := mv_w3 18 rfl rfl
set_option maxRecDepth 20000 in
theorem q_se_X7_unseal : Cond.selects RX7 yX7_unseal yX7_unseal ∈ mv_ws := mv_w3 19 rfl rfl
set_option maxRecDepth 20000 in
theorem q_co_X7_unseal : Cond.code yX7_unseal cX7_unseal 5 (some .int) ∈ mv_ws := mv_w3 20 rfl rfl
set_option maxRecDepth 20000 in
theorem q_ml_X7_188 : Cond.methodLink RX7 188 yX7_objectAt ∈ mv_ws := mv_w3 21 rfl rfl
set_option maxRecDepth 20000 in
theorem q_im_X7_objectAt : Cond.instanceMethod yX7_objectAt ∈ mv_ws := mv_w3 23 rfl rfl
set_option maxRecDepth 20000 in
theorem q_co_X7_objectAt : Cond.code yX7_objectAt cX7_objectAt 2 (some (.object "MeasuredVault$Thing")) ∈ mv_ws := mv_w3 24 rfl rfl
set_option maxRecDepth 20000 in
theorem q_ml_X7_192 : Cond.methodLink RX7 192 yX7_ask ∈ mv_ws := mv_w3 25 rfl rfl
set_option maxRecDepth 20000 in
theorem q_im_X7_ask : Cond.instanceMethod yX7_ask ∈ mv_ws := mv_w3 27 rfl rfl
set_option maxRecDepth 20000 in
theorem q_co_X7_ask : Cond.code yX7_ask cX7_ask 6 (some .int) ∈ mv_ws := mv_w3 28 rfl rfl
set_option maxRecDepth 20000 in
theorem q_ml_X7_210 : Cond.methodLink RX7 210 yX7_askKey ∈ mv_ws := mv_w3 29 rfl rfl
set_option maxRecDepth 20000 in
theorem q_im_X7_askKey : Cond.instanceMethod yX7_askKey ∈ mv_ws := mv_w3 31 rfl rfl
set_option maxRecDepth 20000 in
theorem q_co_X7_askKey : Cond.code yX7_askKey cX7_askKey 2 (some .int) ∈ mv_ws := mv_w3 32 rfl rfl
set_option maxRecDepth 20000 in
theorem q_ml_X7_266 : Cond.methodLink RX7 266 yX7_sameDigest ∈ mv_ws := mv_w3 33 rfl rfl
set_option maxRecDepth 20000 in
theorem q_st_X7_sameDigest : Cond.static yX7_sameDigest ∈ mv_ws := mv_w3 34 rfl rfl
set_option maxRecDepth 20000 in
theorem q_co_X7_sameDigest : Cond.code yX7_sameDigest cX7_sameDigest 2 (some .boolean) ∈ mv_ws := mv_w3 35 rfl rfl
set_option maxRecDepth 20000 in
theorem q_ml_X7_315 : Cond.methodLink RX7 315 yX4_holds ∈ mv_ws := mv_w3 36 rfl rfl
set_option maxRecDepth 20000 in
theorem q_im_X4_holds : Cond.instanceMethod yX4_holds ∈ mv_ws := mv_w3 37 rfl rfl
set_option maxRecDepth 20000 in
theorem q_se_X4_holds : Cond.selects RX4 yX4_holds yX4_holds ∈ mv_ws := mv_w3 38 rfl rfl
set_option maxRecDepth 20000 in
theorem q_co_X4_holds : Cond.code yX4_holds cX4_holds 4 (some .boolean) ∈ mv_ws := mv_w3 39 rfl rfl
set_option maxRecDepth 20000 in
theorem q_ml_L_105 : Cond.methodLink RL 105 yX7_flush ∈ mv_ws := mv_w3 40 rfl rfl
set_option maxRecDepth 20000 in
theorem q_im_X7_flush : Cond.instanceMethod yX7_flush ∈ mv_ws := mv_w3 41 rfl rfl
set_option maxRecDepth 20000 in
theorem q_se_X7_flush : Cond.selects RX7 yX7_flush yX7_flush ∈ mv_ws := mv_w3 42 rfl rfl
set_option maxRecDepth 20000 in
theorem q_co_X7_flush : Cond.code yX7_flush cX7_flush 3 (some .int) ∈ mv_ws := mv_w3 43 rfl rfl
set_option maxRecDepth 20000 in
theorem q_ml_L_109 : Cond.methodLink RL 109 yX7_define ∈ mv_ws := mv_w3 44 rfl rfl
set_option maxRecDepth 20000 in
theorem q_im_X7_define : Cond.instanceMethod yX7_define ∈ mv_ws := mv_w3 45 rfl rfl
set_option maxRecDepth 20000 in
theorem q_se_X7_define : Cond.selects RX7 yX7_define yX7_define ∈ mv_ws := mv_w3 46 rfl rfl
set_option maxRecDepth 20000 in
theorem q_co_X7_define : Cond.code yX7_define cX7_define 7 (some .int) ∈ mv_ws := mv_w3 47 rfl rfl
set_option maxRecDepth 20000 in
theorem q_ml_X7_202 : Cond.methodLink RX7 202 yX6_mayBe ∈ mv_ws := mv_w3 48 rfl rfl
set_option maxRecDepth 20000 in
theorem q_st_X6_mayBe : Cond.static yX6_mayBe ∈ mv_ws := mv_w3 49 rfl rfl
set_option maxRecDepth 20000 in
theorem q_co_X6_mayBe : Cond.code yX6_mayBe cX6_mayBe 2 (some .boolean) ∈ mv_ws := mv_w3 50 rfl rfl
set_option maxRecDepth 20000 in
theorem q_ml_X7_214 : Cond.methodLink RX7 214 yX6_begin ∈ mv_ws := mv_w3 51 rfl rfl
set_option maxRecDepth 20000 in
theorem q_im_X6_begin : Cond.instanceMethod yX6_begin ∈ mv_ws := mv_w3 52 rfl rfl
set_option maxRecDepth 20000 in
theorem q_se_X6_begin : Cond.selects RX6 yX6_begin yX6_begin ∈ mv_ws := mv_w3 53 rfl rfl
set_option maxRecDepth 20000 in
theorem q_co_X6_begin : Cond.code yX6_begin cX6_begin 3 none ∈ mv_ws := mv_w3 54 rfl rfl
set_option maxRecDepth 20000 in
theorem q_ml_X6_38 : Cond.methodLink RX6 38 yJ7_fill_031fb ∈ mv_ws := mv_w3 55 rfl rfl
set_option maxRecDepth 20000 in
theorem q_ml_L_114 : Cond.methodLink RL 114 yX7_undefine ∈ mv_ws := mv_w3 56 rfl rfl
set_option maxRecDepth 20000 in
theorem q_im_X7_undefine : Cond.instanceMethod yX7_undefine ∈ mv_ws := mv_w3 57 rfl rfl
set_option maxRecDepth 20000 in
theorem q_se_X7_undefine : Cond.selects RX7 yX7_undefine yX7_undefine ∈ mv_ws := mv_w3 58 rfl rfl
set_option maxRecDepth 20000 in
theorem q_co_X7_undefine : Cond.code yX7_undefine cX7_undefine 4 (some .int) ∈ mv_ws := mv_w3 59 rfl rfl
set_option maxRecDepth 20000 in
theorem q_ml_X7_223 : Cond.methodLink RX7 223 yX7_valueAt ∈ mv_ws := mv_w3 60 rfl rfl
set_option maxRecDepth 20000 in
theorem q_im_X7_valueAt : Cond.instanceMethod yX7_valueAt ∈ mv_ws := mv_w3 62 rfl rfl
set_option maxRecDepth 20000 in
theorem q_co_X7_valueAt : Cond.code yX7_valueAt cX7_valueAt 2 (some (.object "MeasuredVault$Value")) ∈ mv_ws := mv_w3 63 rfl rfl
set_option maxRecDepth 20000 in
theorem q_ml_L_118 : Cond.methodLink RL 118 yX7_write ∈ mv_ws := mv_w3 64 rfl rfl
set_option maxRecDepth 20000 in
theorem q_im_X7_write : Cond.instanceMethod yX7_write ∈ mv_ws := mv_w3 65 rfl rfl
set_option maxRecDepth 20000 in
theorem q_se_X7_write : Cond.selects RX7 yX7_write yX7_write ∈ mv_ws := mv_w3 66 rfl rfl
set_option maxRecDepth 20000 in
theorem q_co_X7_write : Cond.code yX7_write cX7_write 5 (some .int) ∈ mv_ws := mv_w3 67 rfl rfl
set_option maxRecDepth 20000 in
theorem q_ml_X7_227 : Cond.methodLink RX7 227 yX7_valueOf ∈ mv_ws := mv_w3 68 rfl rfl
set_option maxRecDepth 20000 in
theorem q_im_X7_valueOf : Cond.instanceMethod yX7_valueOf ∈ mv_ws := mv_w3 70 rfl rfl
set_option maxRecDepth 20000 in
theorem q_co_X7_valueOf : Cond.code yX7_valueOf cX7_valueOf 4 (some (.object "MeasuredVault$Value")) ∈ mv_ws := mv_w3 71 rfl rfl
set_option maxRecDepth 20000 in
theorem q_ml_X7_231 : Cond.methodLink RX7 231 yX7_writeTape ∈ mv_ws := mv_w3 72 rfl rfl
set_option maxRecDepth 20000 in
theorem q_im_X7_writeTape : Cond.instanceMethod yX7_writeTape ∈ mv_ws := mv_w3 74 rfl rfl
set_option maxRecDepth 20000 in
theorem q_co_X7_writeTape : Cond.code yX7_writeTape cX7_writeTape 6 (some .int) ∈ mv_ws := mv_w3 75 rfl rfl
set_option maxRecDepth 20000 in
theorem q_ml_X7_235 : Cond.methodLink RX7 235 yX7_askToChange ∈ mv_ws := mv_w3 76 rfl rfl
set_option maxRecDepth 20000 in
theorem q_im_X7_askToChange : Cond.instanceMethod yX7_askToChange ∈ mv_ws := mv_w3 78 rfl rfl
set_option maxRecDepth 20000 in
theorem q_co_X7_askToChange : Cond.code yX7_askToChange cX7_askToChange 4 (some .int) ∈ mv_ws := mv_w3 79 rfl rfl
set_option maxRecDepth 20000 in
theorem q_ml_L_123 : Cond.methodLink RL 123 yX7_count ∈ mv_ws := mv_w3 80 rfl rfl
set_option maxRecDepth 20000 in
theorem q_im_X7_count : Cond.instanceMethod yX7_count ∈ mv_ws := mv_w3 81 rfl rfl
set_option maxRecDepth 20000 in
theorem q_se_X7_count : Cond.selects RX7 yX7_count yX7_count ∈ mv_ws := mv_w3 82 rfl rfl
set_option maxRecDepth 20000 in
theorem q_co_X7_count : Cond.code yX7_count cX7_count 5 (some .int) ∈ mv_ws := mv_w3 83 rfl rfl
set_option maxRecDepth 20000 in
theorem q_ml_X7_248 : Cond.methodLink RX7 248 yX6_spellNumber ∈ mv_ws := mv_w3 84 rfl rfl
set_option maxRecDepth 20000 in
theorem q_im_X6_spellNumber : Cond.instanceMethod yX6_spellNumber ∈ mv_ws := mv_w3 85 rfl rfl
set_option maxRecDepth 20000 in
theorem q_se_X6_spellNumber : Cond.selects RX6 yX6_spellNumber yX6_spellNumber ∈ mv_ws := mv_w3 86 rfl rfl
set_option maxRecDepth 20000 in
theorem q_co_X6_spellNumber : Cond.code yX6_spellNumber cX6_spellNumber 1 none ∈ mv_ws := mv_w3 87 rfl rfl
set_option maxRecDepth 20000 in
theorem q_ml_X6_57 : Cond.methodLink RX6 57 yX0_putInt ∈ mv_ws := mv_w3 88 rfl rfl
set_option maxRecDepth 20000 in
theorem q_ml_X7_251 : Cond.methodLink RX7 251 yJ9_max_f86c9 ∈ mv_ws := mv_w3 89 rfl rfl
set_option maxRecDepth 20000 in
theorem q_st_J9_max_f86c9 : Cond.static yJ9_max_f86c9 ∈ mv_ws := mv_w3 90 rfl rfl
set_option maxRecDepth 20000 in
theorem q_co_J9_max_f86c9 : Cond.code yJ9_max_f86c9 cJ9_max_f86c9 4 (some .long) ∈ mv_ws := mv_w3 91 rfl rfl
set_option maxRecDepth 20000 in
theorem q_k_X7_257 : Cond.constantLong RX7 257 2147483647 ∈ mv_ws := mv_w3 92 rfl rfl
set_option maxRecDepth 20000 in
theorem q_ml_L_127 : Cond.methodLink RL 127 yX7_chain ∈ mv_ws := mv_w3 93 rfl rfl
set_option maxRecDepth 20000 in
theorem q_im_X7_chain : Cond.instanceMethod yX7_chain ∈ mv_ws := mv_w3 94 rfl rfl
set_option maxRecDepth 20000 in
theorem q_se_X7_chain : Cond.selects RX7 yX7_chain yX7_chain ∈ mv_ws := mv_w3 95 rfl rfl
set_option maxRecDepth 20000 in
theorem q_co_X7_chain : Cond.code yX7_chain cX7_chain 4 (some .int) ∈ mv_ws := mv_w3 96 rfl rfl
set_option maxRecDepth 20000 in
theorem q_ml_X7_259 : Cond.methodLink RX7 259 yX7_chainTape ∈ mv_ws := mv_w3 97 rfl rfl
set_option maxRecDepth 20000 in
theorem q_im_X7_chainTape : Cond.instanceMethod yX7_chainTape ∈ mv_ws := mv_w3 99 rfl rfl
set_option maxRecDepth 20000 in
theorem q_co_X7_chainTape : Cond.code yX7_chainTape cX7_chainTape 6 (some .int) ∈ mv_ws := mv_w3 100 rfl rfl
set_option maxRecDepth 20000 in
theorem q_ml_L_131 : Cond.methodLink RL 131 yX7_read ∈ mv_ws := mv_w3 101 rfl rfl
set_option maxRecDepth 20000 in
theorem q_im_X7_read : Cond.instanceMethod yX7_read ∈ mv_ws := mv_w3 102 rfl rfl
set_option maxRecDepth 20000 in
theorem q_se_X7_read : Cond.selects RX7 yX7_read yX7_read ∈ mv_ws := mv_w3 103 rfl rfl
set_option maxRecDepth 20000 in
theorem q_co_X7_read : Cond.code yX7_read cX7_read 5 (some .int) ∈ mv_ws := mv_w3 104 rfl rfl
set_option maxRecDepth 20000 in
theorem q_ml_L_135 : Cond.methodLink RL 135 yX7_shut ∈ mv_ws := mv_w3 105 rfl rfl
set_option maxRecDepth 20000 in
theorem q_im_X7_shut : Cond.instanceMethod yX7_shut ∈ mv_ws := mv_w3 106 rfl rfl
set_option maxRecDepth 20000 in
theorem q_se_X7_shut : Cond.selects RX7 yX7_shut yX7_shut ∈ mv_ws := mv_w3 107 rfl rfl
set_option maxRecDepth 20000 in
theorem q_co_X7_shut : Cond.code yX7_shut cX7_shut 5 (some .int) ∈ mv_ws := mv_w3 108 rfl rfl
set_option maxRecDepth 20000 in
theorem q_ml_L_139 : Cond.methodLink RL 139 yX7_own ∈ mv_ws := mv_w3 109 rfl rfl
set_option maxRecDepth 20000 in
theorem q_im_X7_own : Cond.instanceMethod yX7_own ∈ mv_ws := mv_w3 110 rfl rfl
set_option maxRecDepth 20000 in
theorem q_se_X7_own : Cond.selects RX7 yX7_own yX7_own ∈ mv_ws := mv_w3 111 rfl rfl
set_option maxRecDepth 20000 in
theorem q_co_X7_own : Cond.code yX7_own cX7_own 2 (some .int) ∈ mv_ws := mv_w3 112 rfl rfl
set_option maxRecDepth 20000 in
theorem q_ml_L_143 : Cond.methodLink RL 143 yX7_unlock ∈ mv_ws := mv_w3 113 rfl rfl
set_option maxRecDepth 20000 in
theorem q_im_X7_unlock : Cond.instanceMethod yX7_unlock ∈ mv_ws := mv_w3 114 rfl rfl
set_option maxRecDepth 20000 in
theorem q_se_X7_unlock : Cond.selects RX7 yX7_unlock yX7_unlock ∈ mv_ws := mv_w3 115 rfl rfl
set_option maxRecDepth 20000 in
theorem q_co_X7_unlock : Cond.code yX7_unlock cX7_unlock 1 (some .int) ∈ mv_ws := mv_w3 116 rfl rfl
set_option maxRecDepth 20000 in
theorem q_ml_L_147 : Cond.methodLink RL 147 yX7_clear ∈ mv_ws := mv_w3 117 rfl rfl
set_option maxRecDepth 20000 in
theorem q_im_X7_clear : Cond.instanceMethod yX7_clear ∈ mv_ws := mv_w3 118 rfl rfl
set_option maxRecDepth 20000 in
theorem q_se_X7_clear : Cond.selects RX7 yX7_clear yX7_clear ∈ mv_ws := mv_w3 119 rfl rfl
set_option maxRecDepth 20000 in
theorem q_co_X7_clear : Cond.code yX7_clear cX7_clear 3 (some .int) ∈ mv_ws := mv_w3 120 rfl rfl
set_option maxRecDepth 20000 in
theorem q_ml_X7_273 : Cond.methodLink RX7 273 yX3_renew ∈ mv_ws := mv_w3 121 rfl rfl
set_option maxRecDepth 20000 in
theorem q_im_X3_renew : Cond.instanceMethod yX3_renew ∈ mv_ws := mv_w3 122 rfl rfl
set_option maxRecDepth 20000 in
theorem q_se_X3_renew : Cond.selects RX3 yX3_renew yX3_renew ∈ mv_ws := mv_w3 123 rfl rfl
set_option maxRecDepth 20000 in
theorem q_co_X3_renew : Cond.code yX3_renew cX3_renew 1 none ∈ mv_ws := mv_w3 124 rfl rfl
set_option maxRecDepth 20000 in
theorem q_ml_X7_276 : Cond.methodLink RX7 276 yX7_freeObjects ∈ mv_ws := mv_w3 125 rfl rfl
set_option maxRecDepth 20000 in
theorem q_im_X7_freeObjects : Cond.instanceMethod yX7_freeObjects ∈ mv_ws := mv_w3 127 rfl rfl
set_option maxRecDepth 20000 in
theorem q_co_X7_freeObjects : Cond.code yX7_freeObjects cX7_freeObjects 2 none ∈ mv_ws := mv_w3 128 rfl rfl
set_option maxRecDepth 20000 in
theorem q_ml_L_151 : Cond.methodLink RL 151 yX7_tick ∈ mv_ws := mv_w3 129 rfl rfl
set_option maxRecDepth 20000 in
theorem q_im_X7_tick : Cond.instanceMethod yX7_tick ∈ mv_ws := mv_w3 130 rfl rfl
set_option maxRecDepth 20000 in
theorem q_se_X7_tick : Cond.selects RX7 yX7_tick yX7_tick ∈ mv_ws := mv_w3 131 rfl rfl
set_option maxRecDepth 20000 in
theorem q_co_X7_tick : Cond.code yX7_tick cX7_tick 4 (some .int) ∈ mv_ws := mv_w3 132 rfl rfl
set_option maxRecDepth 20000 in
theorem q_k_X7_279 : Cond.constant RX7 279 100000 ∈ mv_ws := mv_w3 133 rfl rfl
set_option maxRecDepth 20000 in
theorem q_k_X7_280 : Cond.constant RX7 280 2000000000 ∈ mv_ws := mv_w3 134 rfl rfl
set_option maxRecDepth 20000 in
theorem q_ml_X7_281 : Cond.methodLink RX7 281 yJ9_max_7cf53 ∈ mv_ws := mv_w3 135 rfl rfl
set_option maxRecDepth 20000 in
theorem q_st_J9_max_7cf53 : Cond.static yJ9_max_7cf53 ∈ mv_ws := mv_w3 136 rfl rfl
set_option maxRecDepth 20000 in
theorem q_co_J9_max_7cf53 : Cond.code yJ9_max_7cf53 cJ9_max_7cf53 2 (some .int) ∈ mv_ws := mv_w3 137 rfl rfl
set_option maxRecDepth 20000 in
theorem q_ml_L_155 : Cond.methodLink RL 155 yX7_restart ∈ mv_ws := mv_w3 138 rfl rfl
set_option maxRecDepth 20000 in
theorem q_im_X7_restart : Cond.instanceMethod yX7_restart ∈ mv_ws := mv_w3 139 rfl rfl
set_option maxRecDepth 20000 in
theorem q_se_X7_restart : Cond.selects RX7 yX7_restart yX7_restart ∈ mv_ws := mv_w3 140 rfl rfl
set_option maxRecDepth 20000 in
theorem q_co_X7_restart : Cond.code yX7_restart cX7_restart 2 (some .int) ∈ mv_ws := mv_w3 141 rfl rfl
set_option maxRecDepth 20000 in
theorem q_ml_L_159 : Cond.methodLink RL 159 yX7_look ∈ mv_ws := mv_w3 142 rfl rfl
set_option maxRecDepth 20000 in
theorem q_im_X7_look : Cond.instanceMethod yX7_look ∈ mv_ws := mv_w3 143 rfl rfl
set_option maxRecDepth 20000 in
theorem q_se_X7_look : Cond.selects RX7 yX7_look yX7_look ∈ mv_ws := mv_w3 144 rfl rfl
set_option maxRecDepth 20000 in
theorem q_co_X7_look : Cond.code yX7_look cX7_look 2 (some .int) ∈ mv_ws := mv_w3 145 rfl rfl
set_option maxRecDepth 20000 in
theorem q_ml_X7_290 : Cond.methodLink RX7 290 yX7_objectsHeld ∈ mv_ws := mv_w3 146 rfl rfl
set_option maxRecDepth 20000 in
theorem q_im_X7_objectsHeld : Cond.instanceMethod yX7_objectsHeld ∈ mv_ws := mv_w3 148 rfl rfl
set_option maxRecDepth 20000 in
theorem q_co_X7_objectsHeld : Cond.code yX7_objectsHeld cX7_objectsHeld 3 (some .int) ∈ mv_ws := mv_w3 149 rfl rfl
set_option maxRecDepth 20000 in
theorem q_ml_X7_293 : Cond.methodLink RX7 293 yX7_sessionsOpen ∈ mv_ws := mv_w3 150 rfl rfl
set_option maxRecDepth 20000 in
theorem q_im_X7_sessionsOpen : Cond.instanceMethod yX7_sessionsOpen ∈ mv_ws := mv_w3 152 rfl rfl
set_option maxRecDepth 20000 in
theorem q_co_X7_sessionsOpen : Cond.code yX7_sessionsOpen cX7_sessionsOpen 3 (some .int) ∈ mv_ws := mv_w3 153 rfl rfl
set_option maxRecDepth 20000 in
theorem q_ml_X7_296 : Cond.methodLink RX7 296 yX7_valuesDefined ∈ mv_ws := mv_w3 154 rfl rfl
set_option maxRecDepth 20000 in
theorem q_im_X7_valuesDefined : Cond.instanceMethod yX7_valuesDefined ∈ mv_ws := mv_w3 156 rfl rfl
set_option maxRecDepth 20000 in
theorem q_co_X7_valuesDefined : Cond.code yX7_valuesDefined cX7_valuesDefined 3 (some .int) ∈ mv_ws := mv_w3 157 rfl rfl
set_option maxRecDepth 20000 in
theorem q_ml_L_9 : Cond.methodLink RL 9 yL_cell ∈ mv_ws := mv_w3 158 rfl rfl
set_option maxRecDepth 20000 in
theorem q_st_L_cell : Cond.static yL_cell ∈ mv_ws := mv_w3 159 rfl rfl
set_option maxRecDepth 20000 in
theorem q_co_L_cell : Cond.code yL_cell cL_cell 2 (some .int) ∈ mv_ws := mv_w3 160 rfl rfl
set_option maxRecDepth 20000 in
theorem q_cl_L_18 : Cond.classLink RL 18 RX8 ∈ mv_ws := mv_w3 161 rfl rfl
set_option maxRecDepth 20000 in
theorem q_is_X8 : Cond.instantiable RX8 38 ∈ mv_ws := mv_w3 162 rfl rfl
set_option maxRecDepth 20000 in
theorem q_ml_L_20 : Cond.methodLink RL 20 yX8_init ∈ mv_ws := mv_w3 163 rfl rfl
set_option maxRecDepth 20000 in
theorem q_im_X8_init : Cond.instanceMethod yX8_init ∈ mv_ws := mv_w3 164 rfl rfl
set_option maxRecDepth 20000 in
theorem q_co_X8_init : Cond.code yX8_init cX8_init 2 none ∈ mv_ws := mv_w3 165 rfl rfl
set_option maxRecDepth 20000 in
theorem q_ml_X8_1 : Cond.methodLink RX8 1 objectInit ∈ mv_ws := mv_w3 166 rfl rfl
set_option maxRecDepth 20000 in
theorem q_ml_X8_104 : Cond.methodLink RX8 104 yX8_add ∈ mv_ws := mv_w3 167 rfl rfl
set_option maxRecDepth 20000 in
theorem q_im_X8_add : Cond.instanceMethod yX8_add ∈ mv_ws := mv_w3 169 rfl rfl
set_option maxRecDepth 20000 in
theorem q_co_X8_add : Cond.code yX8_add cX8_add 2 none ∈ mv_ws := mv_w3 170 rfl rfl
set_option maxRecDepth 20000 in
theorem q_ml_X8_108 : Cond.methodLink RX8 108 yX8_word ∈ mv_ws := mv_w3 171 rfl rfl
set_option maxRecDepth 20000 in
theorem q_im_X8_word : Cond.instanceMethod yX8_word ∈ mv_ws := mv_w3 173 rfl rfl
set_option maxRecDepth 20000 in
theorem q_co_X8_word : Cond.code yX8_word cX8_word 3 none ∈ mv_ws := mv_w3 174 rfl rfl
set_option maxRecDepth 20000 in
theorem q_ml_X8_111 : Cond.methodLink RX8 111 yX8_hashTo ∈ mv_ws := mv_w3 175 rfl rfl
set_option maxRecDepth 20000 in
theorem q_im_X8_hashTo : Cond.instanceMethod yX8_hashTo ∈ mv_ws := mv_w3 177 rfl rfl
set_option maxRecDepth 20000 in
theorem q_co_X8_hashTo : Cond.code yX8_hashTo cX8_hashTo 5 none ∈ mv_ws := mv_w3 178 rfl rfl
set_option maxRecDepth 20000 in
theorem q_fl_X8_124 : Cond.fieldLink RX8 124 "MeasuredVaultModel" "BEGIN" "[I" ∈ mv_ws := mv_w3 179 rfl rfl
set_option maxRecDepth 20000 in
theorem q_k_X8_115 : Cond.constantLong RX8 115 4294967295 ∈ mv_ws := mv_w3 181 rfl rfl
set_option maxRecDepth 20000 in
theorem q_ml_X8_127 : Cond.methodLink RX8 127 yX8_block ∈ mv_ws := mv_w3 182 rfl rfl
set_option maxRecDepth 20000 in
theorem q_im_X8_block : Cond.instanceMethod yX8_block ∈ mv_ws := mv_w3 184 rfl rfl
set_option maxRecDepth 20000 in
theorem q_co_X8_block : Cond.code yX8_block cX8_block 25 none ∈ mv_ws := mv_w3 185 rfl rfl
set_option maxRecDepth 20000 in
theorem q_ml_X8_117 : Cond.methodLink RX8 117 yX8_turn ∈ mv_ws := mv_w3 186 rfl rfl
set_option maxRecDepth 20000 in
theorem q_st_X8_turn : Cond.static yX8_turn ∈ mv_ws := mv_w3 187 rfl rfl
set_option maxRecDepth 20000 in
theorem q_co_X8_turn : Cond.code yX8_turn cX8_turn 3 (some .long) ∈ mv_ws := mv_w3 188 rfl rfl
set_option maxRecDepth 20000 in
theorem q_fl_X8_121 : Cond.fieldLink RX8 121 "MeasuredVaultModel" "ROUND" "[I" ∈ mv_ws := mv_w3 189 rfl rfl
set_option maxRecDepth 20000 in
theorem q_fl_X8_9 : Cond.fieldLink RX8 9 "MeasuredVaultModel" "tape" "[B" ∈ mv_ws := mv_w3 191 rfl rfl
set_option maxRecDepth 20000 in
theorem q_fl_X8_137 : Cond.fieldLink RX8 137 "MeasuredVaultModel" "tapeLength" "I" ∈ mv_ws := mv_w3 192 rfl rfl
set_option maxRecDepth 20000 in
theorem q_fl_X8_13 : Cond.fieldLink RX8 13 "MeasuredVaultModel" "out" "[B" ∈ mv_ws := mv_w3 193 rfl rfl
set_option maxRecDepth 20000 in
theorem q_fl_X8_143 : Cond.fieldLink RX8 143 "MeasuredVaultModel" "outCount" "I" ∈ mv_ws := mv_w3 194 rfl rfl
set_option maxRecDepth 20000 in
theorem q_fl_X8_16 : Cond.fieldLink RX8 16 "MeasuredVaultModel" "row" "[B" ∈ mv_ws := mv_w3 195 rfl rfl
set_option maxRecDepth 20000 in
theorem q_fl_X8_100 : Cond.fieldLink RX8 100 "MeasuredVaultModel" "rowCount" "I" ∈ mv_ws := mv_w3 196 rfl rfl
set_option maxRecDepth 20000 in
theorem q_fl_X8_19 : Cond.fieldLink RX8 19 "MeasuredVaultModel" "h" "[J" ∈ mv_ws := mv_w3 197 rfl rfl
set_option maxRecDepth 20000 in
theorem q_fl_X8_23 : Cond.fieldLink RX8 23 "MeasuredVaultModel" "w" "[J" ∈ mv_ws := mv_w3 198 rfl rfl
set_option maxRecDepth 20000 in
theorem q_fl_X8_26 : Cond.fieldLink RX8 26 "MeasuredVaultModel" "one" "[B" ∈ mv_ws := mv_w3 199 rfl rfl
set_option maxRecDepth 20000 in
theorem q_fl_X8_29 : Cond.fieldLink RX8 29 "MeasuredVaultModel" "macKey" "[B" ∈ mv_ws := mv_w3 200 rfl rfl
set_option maxRecDepth 20000 in
theorem q_fl_X8_32 : Cond.fieldLink RX8 32 "MeasuredVaultModel" "macText" "[B" ∈ mv_ws := mv_w3 201 rfl rfl
set_option maxRecDepth 20000 in
theorem q_fl_X8_131 : Cond.fieldLink RX8 131 "MeasuredVaultModel" "macCount" "I" ∈ mv_ws := mv_w3 202 rfl rfl
set_option maxRecDepth 20000 in
theorem q_fl_X8_35 : Cond.fieldLink RX8 35 "MeasuredVaultModel" "seed" "[B" ∈ mv_ws := mv_w3 203 rfl rfl
set_option maxRecDepth 20000 in
theorem q_fl_X8_38 : Cond.fieldLink RX8 38 "MeasuredVaultModel" "keyNow" "[B" ∈ mv_ws := mv_w3 204 rfl rfl
set_option maxRecDepth 20000 in
theorem q_fl_X8_41 : Cond.fieldLink RX8 41 "MeasuredVaultModel" "owner" "[B" ∈ mv_ws := mv_w3 205 rfl rfl
set_option maxRecDepth 20000 in
theorem q_fl_X8_44 : Cond.fieldLink RX8 44 "MeasuredVaultModel" "register" "[B" ∈ mv_ws := mv_w3 206 rfl rfl
set_option maxRecDepth 20000 in
theorem q_fl_X8_163 : Cond.fieldLink RX8 163 "MeasuredVaultModel" "clock" "I" ∈ mv_ws := mv_w3 207 rfl rfl
set_option maxRecDepth 20000 in
theorem q_fl_X8_169 : Cond.fieldLink RX8 169 "MeasuredVaultModel" "restarts" "I" ∈ mv_ws := mv_w3 208 rfl rfl
set_option maxRecDepth 20000 in
theorem q_fl_X8_193 : Cond.fieldLink RX8 193 "MeasuredVaultModel" "failures" "I" ∈ mv_ws := mv_w3 209 rfl rfl
set_option maxRecDepth 20000 in
theorem q_fl_X8_203 : Cond.fieldLink RX8 203 "MeasuredVaultModel" "blobs" "I" ∈ mv_ws := mv_w3 210 rfl rfl
set_option maxRecDepth 20000 in
theorem q_fl_X8_232 : Cond.fieldLink RX8 232 "MeasuredVaultModel" "greatest" "J" ∈ mv_ws := mv_w3 211 rfl rfl
set_option maxRecDepth 20000 in
theorem q_fl_X8_47 : Cond.fieldLink RX8 47 "MeasuredVaultModel" "open" "[Z" ∈ mv_ws := mv_w3 212 rfl rfl
set_option maxRecDepth 20000 in
theorem q_fl_X8_51 : Cond.fieldLink RX8 51 "MeasuredVaultModel" "digest" "[B" ∈ mv_ws := mv_w3 213 rfl rfl
set_option maxRecDepth 20000 in
theorem q_fl_X8_54 : Cond.fieldLink RX8 54 "MeasuredVaultModel" "ofRegisters" "[Z" ∈ mv_ws := mv_w3 214 rfl rfl
set_option maxRecDepth 20000 in
theorem q_fl_X8_57 : Cond.fieldLink RX8 57 "MeasuredVaultModel" "changed" "[Z" ∈ mv_ws := mv_w3 215 rfl rfl
set_option maxRecDepth 20000 in
theorem q_fl_X8_60 : Cond.fieldLink RX8 60 "MeasuredVaultModel" "ofAuth" "[Z" ∈ mv_ws := mv_w3 216 rfl rfl
set_option maxRecDepth 20000 in
theorem q_fl_X8_63 : Cond.fieldLink RX8 63 "MeasuredVaultModel" "ofTime" "[Z" ∈ mv_ws := mv_w3 217 rfl rfl
set_option maxRecDepth 20000 in
theorem q_fl_X8_66 : Cond.fieldLink RX8 66 "MeasuredVaultModel" "code" "[I" ∈ mv_ws := mv_w3 218 rfl rfl
set_option maxRecDepth 20000 in
theorem q_fl_X8_70 : Cond.fieldLink RX8 70 "MeasuredVaultModel" "time" "[I" ∈ mv_ws := mv_w3 219 rfl rfl
set_option maxRecDepth 20000 in
theorem q_fl_X8_73 : Cond.fieldLink RX8 73 "MeasuredVaultModel" "there" "[Z" ∈ mv_ws := mv_w3 220 rfl rfl
set_option maxRecDepth 20000 in
theorem q_fl_X8_76 : Cond.fieldLink RX8 76 "MeasuredVaultModel" "auth" "[B" ∈ mv_ws := mv_w3 221 rfl rfl
set_option maxRecDepth 20000 in
theorem q_fl_X8_79 : Cond.fieldLink RX8 79 "MeasuredVaultModel" "policy" "[B" ∈ mv_ws := mv_w3 222 rfl rfl
set_option maxRecDepth 20000 in
theorem q_fl_X8_82 : Cond.fieldLink RX8 82 "MeasuredVaultModel" "data" "[B" ∈ mv_ws := mv_w3 223 rfl rfl
set_option maxRecDepth 20000 in
theorem q_fl_X8_85 : Cond.fieldLink RX8 85 "MeasuredVaultModel" "size" "[I" ∈ mv_ws := mv_w3 224 rfl rfl
set_option maxRecDepth 20000 in
theorem q_fl_X8_88 : Cond.fieldLink RX8 88 "MeasuredVaultModel" "kind" "[I" ∈ mv_ws := mv_w3 225 rfl rfl
set_option maxRecDepth 20000 in
theorem q_fl_X8_91 : Cond.fieldLink RX8 91 "MeasuredVaultModel" "written" "[Z" ∈ mv_ws := mv_w3 226 rfl rfl
set_option maxRecDepth 20000 in
theorem q_fl_X8_94 : Cond.fieldLink RX8 94 "MeasuredVaultModel" "isShut" "[Z" ∈ mv_ws := mv_w3 227 rfl rfl
set_option maxRecDepth 20000 in
theorem q_fl_X8_97 : Cond.fieldLink RX8 97 "MeasuredVaultModel" "check" "[B" ∈ mv_ws := mv_w3 228 rfl rfl
set_option maxRecDepth 20000 in
theorem q_ac_long : Cond.arrayClass .long ∈ mv_ws := mv_w4 66 rfl rfl
set_option maxRecDepth 20000 in
theorem q_ac_boolean : Cond.arrayClass .boolean ∈ mv_ws := mv_w4 67 rfl rfl
set_option maxRecDepth 20000 in
theorem q_ml_L_25 : Cond.methodLink RL 25 yX8_feed ∈ mv_ws := mv_w4 68 rfl rfl
set_option maxRecDepth 20000 in
theorem q_im_X8_feed : Cond.instanceMethod yX8_feed ∈ mv_ws := mv_w4 69 rfl rfl
set_option maxRecDepth 20000 in
theorem q_se_X8_feed : Cond.selects RX8 yX8_feed yX8_feed ∈ mv_ws := mv_w4 70 rfl rfl
set_option maxRecDepth 20000 in
theorem q_co_X8_feed : Cond.code yX8_feed cX8_feed 6 (some .int) ∈ mv_ws := mv_w4 71 rfl rfl
set_option maxRecDepth 20000 in
theorem q_ml_X8_140 : Cond.methodLink RX8 140 yX8_put ∈ mv_ws := mv_w4 72 rfl rfl
set_option maxRecDepth 20000 in
theorem q_im_X8_put : Cond.instanceMethod yX8_put ∈ mv_ws := mv_w4 74 rfl rfl
set_option maxRecDepth 20000 in
theorem q_co_X8_put : Cond.code yX8_put cX8_put 3 none ∈ mv_ws := mv_w4 75 rfl rfl
set_option maxRecDepth 20000 in
theorem q_ml_L_30 : Cond.methodLink RL 30 yX8_end ∈ mv_ws := mv_w4 76 rfl rfl
set_option maxRecDepth 20000 in
theorem q_im_X8_end : Cond.instanceMethod yX8_end ∈ mv_ws := mv_w4 77 rfl rfl
set_option maxRecDepth 20000 in
theorem q_se_X8_end : Cond.selects RX8 yX8_end yX8_end ∈ mv_ws := mv_w4 78 rfl rfl
set_option maxRecDepth 20000 in
theorem q_co_X8_end : Cond.code yX8_end cX8_end 2 (some .int) ∈ mv_ws := mv_w4 79 rfl rfl
set_option maxRecDepth 20000 in
theorem q_ml_L_34 : Cond.methodLink RL 34 yX8_octet ∈ mv_ws := mv_w4 80 rfl rfl
set_option maxRecDepth 20000 in
theorem q_im_X8_octet : Cond.instanceMethod yX8_octet ∈ mv_ws := mv_w4 81 rfl rfl
set_option maxRecDepth 20000 in
theorem q_se_X8_octet : Cond.selects RX8 yX8_octet yX8_octet ∈ mv_ws := mv_w4 82 rfl rfl
set_option maxRecDepth 20000 in
theorem q_co_X8_octet : Cond.code yX8_octet cX8_octet 2 (some .int) ∈ mv_ws := mv_w4 83 rfl rfl
set_option maxRecDepth 20000 in
theorem q_ml_L_39 : Cond.methodLink RL 39 yX8_back ∈ mv_ws := mv_w4 84 rfl rfl
set_option maxRecDepth 20000 in
theorem q_im_X8_back : Cond.instanceMethod yX8_back ∈ mv_ws := mv_w4 85 rfl rfl
set_option maxRecDepth 20000 in
theorem q_se_X8_back : Cond.selects RX8 yX8_back yX8_back ∈ mv_ws := mv_w4 86 rfl rfl
set_option maxRecDepth 20000 in
theorem q_co_X8_back : Cond.code yX8_back cX8_back 2 (some .int) ∈ mv_ws := mv_w4 87 rfl rfl
set_option maxRecDepth 20000 in
theorem q_ml_L_43 : Cond.methodLink RL 43 yX8_hash ∈ mv_ws := mv_w4 88 rfl rfl
set_option maxRecDepth 20000 in
theorem q_im_X8_hash : Cond.instanceMethod yX8_hash ∈ mv_ws := mv_w4 89 rfl rfl
set_option maxRecDepth 20000 in
theorem q_se_X8_hash : Cond.selects RX8 yX8_hash yX8_hash ∈ mv_ws := mv_w4 90 rfl rfl
set_option maxRecDepth 20000 in
theorem q_co_X8_hash : Cond.code yX8_hash cX8_hash 1 (some .int) ∈ mv_ws := mv_w4 91 rfl rfl
set_option maxRecDepth 20000 in
theorem q_ml_X8_146 : Cond.methodLink RX8 146 yX8_tapeHash ∈ mv_ws := mv_w4 92 rfl rfl
set_option maxRecDepth 20000 in
theorem q_im_X8_tapeHash : Cond.instanceMethod yX8_tapeHash ∈ mv_ws := mv_w4 94 rfl rfl
set_option maxRecDepth 20000 in
theorem q_co_X8_tapeHash : Cond.code yX8_tapeHash cX8_tapeHash 3 none ∈ mv_ws := mv_w4 95 rfl rfl
set_option maxRecDepth 20000 in
theorem q_ml_X8_134 : Cond.methodLink RX8 134 yX8_add_ ∈ mv_ws := mv_w4 96 rfl rfl
set_option maxRecDepth 20000 in
theorem q_im_X8_add_ : Cond.instanceMethod yX8_add_ ∈ mv_ws := mv_w4 98 rfl rfl
set_option maxRecDepth 20000 in
theorem q_co_X8_add_ : Cond.code yX8_add_ cX8_add_ 5 none ∈ mv_ws := mv_w4 99 rfl rfl
set_option maxRecDepth 20000 in
theorem q_ml_X8_149 : Cond.methodLink RX8 149 yX8_told ∈ mv_ws := mv_w4 100 rfl rfl
set_option maxRecDepth 20000 in
theorem q_im_X8_told : Cond.instanceMethod yX8_told ∈ mv_ws := mv_w4 102 rfl rfl
set_option maxRecDepth 20000 in
theorem q_co_X8_told : Cond.code yX8_told cX8_told 1 (some .int) ∈ mv_ws := mv_w4 103 rfl rfl
set_option maxRecDepth 20000 in
theorem q_ml_L_47 : Cond.methodLink RL 47 yX8_key ∈ mv_ws := mv_w4 104 rfl rfl
set_option maxRecDepth 20000 in
theorem q_im_X8_key : Cond.instanceMethod yX8_key ∈ mv_ws := mv_w4 105 rfl rfl
set_option maxRecDepth 20000 in
theorem q_se_X8_key : Cond.selects RX8 yX8_key yX8_key ∈ mv_ws := mv_w4 106 rfl rfl
set_option maxRecDepth 20000 in
theorem q_co_X8_key : Cond.code yX8_key cX8_key 1 (some .int) ∈ mv_ws := mv_w4 107 rfl rfl
set_option maxRecDepth 20000 in
theorem q_ml_L_51 : Cond.methodLink RL 51 yX8_extend ∈ mv_ws := mv_w4 108 rfl rfl
set_option maxRecDepth 20000 in
theorem q_im_X8_extend : Cond.instanceMethod yX8_extend ∈ mv_ws := mv_w4 109 rfl rfl
set_option maxRecDepth 20000 in
theorem q_se_X8_extend : Cond.selects RX8 yX8_extend yX8_extend ∈ mv_ws := mv_w4 110 rfl rfl
set_option maxRecDepth 20000 in
theorem q_co_X8_extend : Cond.code yX8_extend cX8_extend 3 (some .int) ∈ mv_ws := mv_w4 111 rfl rfl
set_option maxRecDepth 20000 in
theorem q_ml_X8_153 : Cond.methodLink RX8 153 yX8_change ∈ mv_ws := mv_w4 112 rfl rfl
set_option maxRecDepth 20000 in
theorem q_im_X8_change : Cond.instanceMethod yX8_change ∈ mv_ws := mv_w4 114 rfl rfl
set_option maxRecDepth 20000 in
theorem q_co_X8_change : Cond.code yX8_change cX8_change 2 none ∈ mv_ws := mv_w4 115 rfl rfl
set_option maxRecDepth 20000 in
theorem q_ml_L_55 : Cond.methodLink RL 55 yX8_reset ∈ mv_ws := mv_w4 116 rfl rfl
set_option maxRecDepth 20000 in
theorem q_im_X8_reset : Cond.instanceMethod yX8_reset ∈ mv_ws := mv_w4 117 rfl rfl
set_option maxRecDepth 20000 in
theorem q_se_X8_reset : Cond.selects RX8 yX8_reset yX8_reset ∈ mv_ws := mv_w4 118 rfl rfl
set_option maxRecDepth 20000 in
theorem q_co_X8_reset : Cond.code yX8_reset cX8_reset 3 (some .int) ∈ mv_ws := mv_w4 119 rfl rfl
set_option maxRecDepth 20000 in
theorem q_ml_L_59 : Cond.methodLink RL 59 yX8_state ∈ mv_ws := mv_w4 120 rfl rfl
set_option maxRecDepth 20000 in
theorem q_im_X8_state : Cond.instanceMethod yX8_state ∈ mv_ws := mv_w4 121 rfl rfl
set_option maxRecDepth 20000 in
theorem q_se_X8_state : Cond.selects RX8 yX8_state yX8_state ∈ mv_ws := mv_w4 122 rfl rfl
set_option maxRecDepth 20000 in
theorem q_co_X8_state : Cond.code yX8_state cX8_state 2 (some .int) ∈ mv_ws := mv_w4 123 rfl rfl
set_option maxRecDepth 20000 in
theorem q_ml_X8_156 : Cond.methodLink RX8 156 yX8_stateTo ∈ mv_ws := mv_w4 124 rfl rfl
set_option maxRecDepth 20000 in
theorem q_im_X8_stateTo : Cond.instanceMethod yX8_stateTo ∈ mv_ws := mv_w4 126 rfl rfl
set_option maxRecDepth 20000 in
theorem q_co_X8_stateTo : Cond.code yX8_stateTo cX8_stateTo 5 none ∈ mv_ws := mv_w4 127 rfl rfl
set_option maxRecDepth 20000 in
theorem q_ml_L_63 : Cond.methodLink RL 63 yX8_quote ∈ mv_ws := mv_w4 128 rfl rfl
set_option maxRecDepth 20000 in
theorem q_im_X8_quote : Cond.instanceMethod yX8_quote ∈ mv_ws := mv_w4 129 rfl rfl
set_option maxRecDepth 20000 in
theorem q_se_X8_quote : Cond.selects RX8 yX8_quote yX8_quote ∈ mv_ws := mv_w4 130 rfl rfl
set_option maxRecDepth 20000 in
theorem q_co_X8_quote : Cond.code yX8_quote cX8_quote 4 (some .int) ∈ mv_ws := mv_w4 131 rfl rfl
set_option maxRecDepth 20000 in
theorem q_ml_X8_160 : Cond.methodLink RX8 160 yX8_tell ∈ mv_ws := mv_w4 132 rfl rfl
set_option maxRecDepth 20000 in
theorem q_im_X8_tell : Cond.instanceMethod yX8_tell ∈ mv_ws := mv_w4 134 rfl rfl
set_option maxRecDepth 20000 in
theorem q_co_X8_tell : Cond.code yX8_tell cX8_tell 2 none ∈ mv_ws := mv_w4 135 rfl rfl
set_option maxRecDepth 20000 in
theorem q_ml_X8_166 : Cond.methodLink RX8 166 yX8_tellWord ∈ mv_ws := mv_w4 136 rfl rfl
set_option maxRecDepth 20000 in
theorem q_im_X8_tellWord : Cond.instanceMethod yX8_tellWord ∈ mv_ws := mv_w4 138 rfl rfl
set_option maxRecDepth 20000 in
theorem q_co_X8_tellWord : Cond.code yX8_tellWord cX8_tellWord 3 none ∈ mv_ws := mv_w4 139 rfl rfl
set_option maxRecDepth 20000 in
theorem q_ml_X8_172 : Cond.methodLink RX8 172 yX8_macSeed ∈ mv_ws := mv_w4 140 rfl rfl
set_option maxRecDepth 20000 in
theorem q_im_X8_macSeed : Cond.instanceMethod yX8_macSeed ∈ mv_ws := mv_w4 142 rfl rfl
set_option maxRecDepth 20000 in
theorem q_co_X8_macSeed : Cond.code yX8_macSeed cX8_macSeed 3 none ∈ mv_ws := mv_w4 143 rfl rfl
set_option maxRecDepth 20000 in
theorem q_ml_X8_175 : Cond.methodLink RX8 175 yX8_macTo ∈ mv_ws := mv_w4 144 rfl rfl
set_option maxRecDepth 20000 in
theorem q_im_X8_macTo : Cond.instanceMethod yX8_macTo ∈ mv_ws := mv_w4 146 rfl rfl
set_option maxRecDepth 20000 in
theorem q_co_X8_macTo : Cond.code yX8_macTo cX8_macTo 4 none ∈ mv_ws := mv_w4 147 rfl rfl
set_option maxRecDepth 20000 in
theorem q_ml_L_67 : Cond.methodLink RL 67 yX8_open ∈ mv_ws := mv_w4 148 rfl rfl
set_option maxRecDepth 20000 in
theorem q_im_X8_open : Cond.instanceMethod yX8_open ∈ mv_ws := mv_w4 149 rfl rfl
set_option maxRecDepth 20000 in
theorem q_se_X8_open : Cond.selects RX8 yX8_open yX8_open ∈ mv_ws := mv_w4 150 rfl rfl
set_option maxRecDepth 20000 in
theorem q_co_X8_open : Cond.code yX8_open cX8_open 3 (some .int) ∈ mv_ws := mv_w4 151 rfl rfl
set_option maxRecDepth 20000 in
theorem q_ml_X8_178 : Cond.methodLink RX8 178 yX8_isSession ∈ mv_ws := mv_w4 152 rfl rfl
set_option maxRecDepth 20000 in
theorem q_st_X8_isSession : Cond.static yX8_isSession ∈ mv_ws := mv_w4 153 rfl rfl
set_option maxRecDepth 20000 in
theorem q_co_X8_isSession : Cond.code yX8_isSession cX8_isSession 1 (some .boolean) ∈ mv_ws := mv_w4 154 rfl rfl
set_option maxRecDepth 20000 in
theorem q_ml_L_72 : Cond.methodLink RL 72 yX8_policyState ∈ mv_ws := mv_w4 155 rfl rfl
set_option maxRecDepth 20000 in
theorem q_im_X8_policyState : Cond.instanceMethod yX8_policyState ∈ mv_ws := mv_w4 156 rfl rfl
set_option maxRecDepth 20000 in
theorem q_se_X8_policyState : Cond.selects RX8 yX8_policyState yX8_policyState ∈ mv_ws := mv_w4 157 rfl rfl
set_option maxRecDepth 20000 in
theorem q_co_X8_policyState : Cond.code yX8_policyState cX8_policyState 3 (some .int) ∈ mv_ws := mv_w4 158 rfl rfl
set_option maxRecDepth 20000 in
theorem q_ml_X8_182 : Cond.methodLink RX8 182 yX8_opened ∈ mv_ws := mv_w4 159 rfl rfl
set_option maxRecDepth 20000 in
theorem q_im_X8_opened : Cond.instanceMethod yX8_opened ∈ mv_ws := mv_w4 161 rfl rfl
set_option maxRecDepth 20000 in
theorem q_co_X8_opened : Cond.code yX8_opened cX8_opened 2 (some .boolean) ∈ mv_ws := mv_w4 162 rfl rfl
set_option maxRecDepth 20000 in
theorem q_ml_X8_185 : Cond.methodLink RX8 185 yX8_begin ∈ mv_ws := mv_w4 163 rfl rfl
set_option maxRecDepth 20000 in
theorem q_im_X8_begin : Cond.instanceMethod yX8_begin ∈ mv_ws := mv_w4 165 rfl rfl
set_option maxRecDepth 20000 in
theorem q_co_X8_begin : Cond.code yX8_begin cX8_begin 3 none ∈ mv_ws := mv_w4 166 rfl rfl
set_option maxRecDepth 20000 in
theorem q_ml_L_76 : Cond.methodLink RL 76 yX8_policyAuth ∈ mv_ws := mv_w4 167 rfl rfl
set_option maxRecDepth 20000 in
theorem q_im_X8_policyAuth : Cond.instanceMethod yX8_policyAuth ∈ mv_ws := mv_w4 168 rfl rfl
set_option maxRecDepth 20000 in
theorem q_se_X8_policyAuth : Cond.selects RX8 yX8_policyAuth yX8_policyAuth ∈ mv_ws := mv_w4 169 rfl rfl
set_option maxRecDepth 20000 in
theorem q_co_X8_policyAuth : Cond.code yX8_policyAuth cX8_policyAuth 2 (some .int) ∈ mv_ws := mv_w4 170 rfl rfl
set_option maxRecDepth 20000 in
theorem q_ml_L_80 : Cond.methodLink RL 80 yX8_policyCode ∈ mv_ws := mv_w4 171 rfl rfl
set_option maxRecDepth 20000 in
theorem q_im_X8_policyCode : Cond.instanceMethod yX8_policyCode ∈ mv_ws := mv_w4 172 rfl rfl
set_option maxRecDepth 20000 in
theorem q_se_X8_policyCode : Cond.selects RX8 yX8_policyCode yX8_policyCode ∈ mv_ws := mv_w4 173 rfl rfl
set_option maxRecDepth 20000 in
theorem q_co_X8_policyCode : Cond.code yX8_policyCode cX8_policyCode 3 (some .int) ∈ mv_ws := mv_w4 174 rfl rfl
set_option maxRecDepth 20000 in
theorem q_ml_L_84 : Cond.methodLink RL 84 yX8_policyTime ∈ mv_ws := mv_w4 175 rfl rfl
set_option maxRecDepth 20000 in
theorem q_im_X8_policyTime : Cond.instanceMethod yX8_policyTime ∈ mv_ws := mv_w4 176 rfl rfl
set_option maxRecDepth 20000 in
theorem q_se_X8_policyTime : Cond.selects RX8 yX8_policyTime yX8_policyTime ∈ mv_ws := mv_w4 177 rfl rfl
set_option maxRecDepth 20000 in
theorem q_co_X8_policyTime : Cond.code yX8_policyTime cX8_policyTime 3 (some .int) ∈ mv_ws := mv_w4 178 rfl rfl
set_option maxRecDepth 20000 in
theorem q_ml_L_88 : Cond.methodLink RL 88 yX8_policyOr ∈ mv_ws := mv_w4 179 rfl rfl
set_option maxRecDepth 20000 in
theorem q_im_X8_policyOr : Cond.instanceMethod yX8_policyOr ∈ mv_ws := mv_w4 180 rfl rfl
set_option maxRecDepth 20000 in
theorem q_se_X8_policyOr : Cond.selects RX8 yX8_policyOr yX8_policyOr ∈ mv_ws := mv_w4 181 rfl rfl
set_option maxRecDepth 20000 in
theorem q_co_X8_policyOr : Cond.code yX8_policyOr cX8_policyOr 5 (some .int) ∈ mv_ws := mv_w4 182 rfl rfl
set_option maxRecDepth 20000 in
theorem q_ml_X8_189 : Cond.methodLink RX8 189 yX8_same ∈ mv_ws := mv_w4 183 rfl rfl
set_option maxRecDepth 20000 in
theorem q_st_X8_same : Cond.static yX8_same ∈ mv_ws := mv_w4 184 rfl rfl
set_option maxRecDepth 20000 in
theorem q_co_X8_same : Cond.code yX8_same cX8_same 5 (some .boolean) ∈ mv_ws := mv_w4 185 rfl rfl
set_option maxRecDepth 20000 in
theorem q_ml_L_92 : Cond.methodLink RL 92 yX8_digest ∈ mv_ws := mv_w4 186 rfl rfl
set_option maxRecDepth 20000 in
theorem q_im_X8_digest : Cond.instanceMethod yX8_digest ∈ mv_ws := mv_w4 187 rfl rfl
set_option maxRecDepth 20000 in
theorem q_se_X8_digest : Cond.selects RX8 yX8_digest yX8_digest ∈ mv_ws := mv_w4 188 rfl rfl
set_option maxRecDepth 20000 in
theorem q_co_X8_digest : Cond.code yX8_digest cX8_digest 3 (some .int) ∈ mv_ws := mv_w4 189 rfl rfl
set_option maxRecDepth 20000 in
theorem q_ml_L_96 : Cond.methodLink RL 96 yX8_seal ∈ mv_ws := mv_w4 190 rfl rfl
set_option maxRecDepth 20000 in
theorem q_im_X8_seal : Cond.instanceMethod yX8_seal ∈ mv_ws := mv_w4 191 rfl rfl
set_option maxRecDepth 20000 in
theorem q_se_X8_seal : Cond.selects RX8 yX8_seal yX8_seal ∈ mv_ws := mv_w4 192 rfl rfl
set_option maxRecDepth 20000 in
theorem q_co_X8_seal : Cond.code yX8_seal cX8_seal 4 (some .int) ∈ mv_ws := mv_w4 193 rfl rfl
set_option maxRecDepth 20000 in
theorem q_ml_X8_206 : Cond.methodLink RX8 206 yX8_mix ∈ mv_ws := mv_w4 194 rfl rfl
set_option maxRecDepth 20000 in
theorem q_im_X8_mix : Cond.instanceMethod yX8_mix ∈ mv_ws := mv_w4 196 rfl rfl
set_option maxRecDepth 20000 in
theorem q_co_X8_mix : Cond.code yX8_mix cX8_mix 6 none ∈ mv_ws := mv_w4 197 rfl rfl
set_option maxRecDepth 20000 in
theorem q_ml_X8_200 : Cond.methodLink RX8 200 yX8_number ∈ mv_ws := mv_w4 198 rfl rfl
set_option maxRecDepth 20000 in
theorem q_im_X8_number : Cond.instanceMethod yX8_number ∈ mv_ws := mv_w4 200 rfl rfl
set_option maxRecDepth 20000 in
theorem q_co_X8_number : Cond.code yX8_number cX8_number 3 none ∈ mv_ws := mv_w4 201 rfl rfl
set_option maxRecDepth 20000 in
theorem q_ml_X8_210 : Cond.methodLink RX8 210 yX8_sealTo ∈ mv_ws := mv_w4 202 rfl rfl
set_option maxRecDepth 20000 in
theorem q_im_X8_sealTo : Cond.instanceMethod yX8_sealTo ∈ mv_ws := mv_w4 204 rfl rfl
set_option maxRecDepth 20000 in
theorem q_co_X8_sealTo : Cond.code yX8_sealTo cX8_sealTo 7 none ∈ mv_ws := mv_w4 205 rfl rfl
set_option maxRecDepth 20000 in
theorem q_ml_L_100 : Cond.methodLink RL 100 yX8_load ∈ mv_ws := mv_w4 206 rfl rfl
set_option maxRecDepth 20000 in
theorem q_im_X8_load : Cond.instanceMethod yX8_load ∈ mv_ws := mv_w4 207 rfl rfl
set_option maxRecDepth 20000 in
theorem q_se_X8_load : Cond.selects RX8 yX8_load yX8_load ∈ mv_ws := mv_w4 208 rfl rfl
set_option maxRecDepth 20000 in
theorem q_co_X8_load : Cond.code yX8_load cX8_load 5 (some .int) ∈ mv_ws := mv_w4 209 rfl rfl
set_option maxRecDepth 20000 in
theorem q_ml_L_104 : Cond.methodLink RL 104 yX8_unseal ∈ mv_ws := mv_w4 210 rfl rfl
set_option maxRecDepth 20000 in
theorem q_im_X8_unseal : Cond.instanceMethod yX8_unseal ∈ mv_ws := mv_w4 211 rfl rfl
set_option maxRecDepth 20000 in
theorem q_se_X8_unseal : Cond.selects RX8 yX8_unseal yX8_unseal ∈ mv_ws := mv_w4 212 rfl rfl
set_option maxRecDepth 20000 in
theorem q_co_X8_unseal : Cond.code yX8_unseal cX8_unseal 4 (some .int) ∈ mv_ws := mv_w4 213 rfl rfl
set_option maxRecDepth 20000 in
theorem q_ml_X8_214 : Cond.methodLink RX8 214 yX8_isObject ∈ mv_ws := mv_w4 214 rfl rfl
set_option maxRecDepth 20000 in
theorem q_im_X8_isObject : Cond.instanceMethod yX8_isObject ∈ mv_ws := mv_w4 216 rfl rfl
set_option maxRecDepth 20000 in
theorem q_co_X8_isObject : Cond.code yX8_isObject cX8_isObject 2 (some .boolean) ∈ mv_ws := mv_w4 217 rfl rfl
set_option maxRecDepth 20000 in
theorem q_ml_X8_217 : Cond.methodLink RX8 217 yX8_by ∈ mv_ws := mv_w4 218 rfl rfl
set_option maxRecDepth 20000 in
theorem q_im_X8_by : Cond.instanceMethod yX8_by ∈ mv_ws := mv_w4 220 rfl rfl
set_option maxRecDepth 20000 in
theorem q_co_X8_by : Cond.code yX8_by cX8_by 6 (some .int) ∈ mv_ws := mv_w4 221 rfl rfl
set_option maxRecDepth 20000 in
theorem q_ml_X8_196 : Cond.methodLink RX8 196 yX8_compared ∈ mv_ws := mv_w4 222 rfl rfl
set_option maxRecDepth 20000 in
theorem q_im_X8_compared : Cond.instanceMethod yX8_compared ∈ mv_ws := mv_w4 224 rfl rfl
set_option maxRecDepth 20000 in
theorem q_co_X8_compared : Cond.code yX8_compared cX8_compared 3 (some .int) ∈ mv_ws := mv_w4 225 rfl rfl
set_option maxRecDepth 20000 in
theorem q_ml_X8_221 : Cond.methodLink RX8 221 yX8_show ∈ mv_ws := mv_w4 226 rfl rfl
set_option maxRecDepth 20000 in
theorem q_im_X8_show : Cond.instanceMethod yX8_show ∈ mv_ws := mv_w4 228 rfl rfl
set_option maxRecDepth 20000 in
theorem q_co_X8_show : Cond.code yX8_show cX8_show 3 (some .int) ∈ mv_ws := mv_w4 229 rfl rfl
set_option maxRecDepth 20000 in
theorem q_ml_L_108 : Cond.methodLink RL 108 yX8_flush ∈ mv_ws := mv_w4 230 rfl rfl
set_option maxRecDepth 20000 in
theorem q_im_X8_flush : Cond.instanceMethod yX8_flush ∈ mv_ws := mv_w4 231 rfl rfl
set_option maxRecDepth 20000 in
theorem q_se_X8_flush : Cond.selects RX8 yX8_flush yX8_flush ∈ mv_ws := mv_w4 232 rfl rfl
set_option maxRecDepth 20000 in
theorem q_co_X8_flush : Cond.code yX8_flush cX8_flush 2 (some .int) ∈ mv_ws := mv_w4 233 rfl rfl
set_option maxRecDepth 20000 in
theorem q_ml_L_113 : Cond.methodLink RL 113 yX8_define ∈ mv_ws := mv_w4 234 rfl rfl
set_option maxRecDepth 20000 in
theorem q_im_X8_define : Cond.instanceMethod yX8_define ∈ mv_ws := mv_w4 235 rfl rfl
set_option maxRecDepth 20000 in
theorem q_se_X8_define : Cond.selects RX8 yX8_define yX8_define ∈ mv_ws := mv_w4 236 rfl rfl
set_option maxRecDepth 20000 in
theorem q_co_X8_define : Cond.code yX8_define cX8_define 9 (some .int) ∈ mv_ws := mv_w4 237 rfl rfl
set_option maxRecDepth 20000 in
theorem q_ml_X8_225 : Cond.methodLink RX8 225 yX8_owners ∈ mv_ws := mv_w4 238 rfl rfl
set_option maxRecDepth 20000 in
theorem q_im_X8_owners : Cond.instanceMethod yX8_owners ∈ mv_ws := mv_w5 0 rfl rfl
set_option maxRecDepth 20000 in
theorem q_co_X8_owners : Cond.code yX8_owners cX8_owners 1 (some .int) ∈ mv_ws := mv_w5 1 rfl rfl
set_option maxRecDepth 20000 in
theorem q_ml_L_117 : Cond.methodLink RL 117 yX8_undefine ∈ mv_ws := mv_w5 2 rfl rfl
set_option maxRecDepth 20000 in
theorem q_im_X8_undefine : Cond.instanceMethod yX8_undefine ∈ mv_ws := mv_w5 3 rfl rfl
set_option maxRecDepth 20000 in
theorem q_se_X8_undefine : Cond.selects RX8 yX8_undefine yX8_undefine ∈ mv_ws := mv_w5 4 rfl rfl
set_option maxRecDepth 20000 in
theorem q_co_X8_undefine : Cond.code yX8_undefine cX8_undefine 4 (some .int) ∈ mv_ws := mv_w5 5 rfl rfl
set_option maxRecDepth 20000 in
theorem q_ml_X8_228 : Cond.methodLink RX8 228 yX8_thing ∈ mv_ws := mv_w5 6 rfl rfl
set_option maxRecDepth 20000 in
theorem q_im_X8_thing : Cond.instanceMethod yX8_thing ∈ mv_ws := mv_w5 8 rfl rfl
set_option maxRecDepth 20000 in
theorem q_co_X8_thing : Cond.code yX8_thing cX8_thing 3 (some .int) ∈ mv_ws := mv_w5 9 rfl rfl
set_option maxRecDepth 20000 in
theorem q_ml_L_122 : Cond.methodLink RL 122 yX8_write ∈ mv_ws := mv_w5 10 rfl rfl
set_option maxRecDepth 20000 in
theorem q_im_X8_write : Cond.instanceMethod yX8_write ∈ mv_ws := mv_w5 11 rfl rfl
set_option maxRecDepth 20000 in
theorem q_se_X8_write : Cond.selects RX8 yX8_write yX8_write ∈ mv_ws := mv_w5 12 rfl rfl
set_option maxRecDepth 20000 in
theorem q_co_X8_write : Cond.code yX8_write cX8_write 8 (some .int) ∈ mv_ws := mv_w5 13 rfl rfl
set_option maxRecDepth 20000 in
theorem q_ml_L_126 : Cond.methodLink RL 126 yX8_count ∈ mv_ws := mv_w5 14 rfl rfl
set_option maxRecDepth 20000 in
theorem q_im_X8_count : Cond.instanceMethod yX8_count ∈ mv_ws := mv_w5 15 rfl rfl
set_option maxRecDepth 20000 in
theorem q_se_X8_count : Cond.selects RX8 yX8_count yX8_count ∈ mv_ws := mv_w5 16 rfl rfl
set_option maxRecDepth 20000 in
theorem q_co_X8_count : Cond.code yX8_count cX8_count 8 (some .int) ∈ mv_ws := mv_w5 17 rfl rfl
set_option maxRecDepth 20000 in
theorem q_k_X8_238 : Cond.constantLong RX8 238 2147483647 ∈ mv_ws := mv_w5 18 rfl rfl
set_option maxRecDepth 20000 in
theorem q_ml_L_130 : Cond.methodLink RL 130 yX8_chain ∈ mv_ws := mv_w5 19 rfl rfl
set_option maxRecDepth 20000 in
theorem q_im_X8_chain : Cond.instanceMethod yX8_chain ∈ mv_ws := mv_w5 20 rfl rfl
set_option maxRecDepth 20000 in
theorem q_se_X8_chain : Cond.selects RX8 yX8_chain yX8_chain ∈ mv_ws := mv_w5 21 rfl rfl
set_option maxRecDepth 20000 in
theorem q_co_X8_chain : Cond.code yX8_chain cX8_chain 6 (some .int) ∈ mv_ws := mv_w5 22 rfl rfl
set_option maxRecDepth 20000 in
theorem q_ml_L_134 : Cond.methodLink RL 134 yX8_read ∈ mv_ws := mv_w5 23 rfl rfl
set_option maxRecDepth 20000 in
theorem q_im_X8_read : Cond.instanceMethod yX8_read ∈ mv_ws := mv_w5 24 rfl rfl
set_option maxRecDepth 20000 in
theorem q_se_X8_read : Cond.selects RX8 yX8_read yX8_read ∈ mv_ws := mv_w5 25 rfl rfl
set_option maxRecDepth 20000 in
theorem q_co_X8_read : Cond.code yX8_read cX8_read 5 (some .int) ∈ mv_ws := mv_w5 26 rfl rfl
set_option maxRecDepth 20000 in
theorem q_ml_L_138 : Cond.methodLink RL 138 yX8_shut ∈ mv_ws := mv_w5 27 rfl rfl
set_option maxRecDepth 20000 in
theorem q_im_X8_shut : Cond.instanceMethod yX8_shut ∈ mv_ws := mv_w5 28 rfl rfl
set_option maxRecDepth 20000 in
theorem q_se_X8_shut : Cond.selects RX8 yX8_shut yX8_shut ∈ mv_ws := mv_w5 29 rfl rfl
set_option maxRecDepth 20000 in
theorem q_co_X8_shut : Cond.code yX8_shut cX8_shut 5 (some .int) ∈ mv_ws := mv_w5 30 rfl rfl
set_option maxRecDepth 20000 in
theorem q_ml_L_142 : Cond.methodLink RL 142 yX8_own ∈ mv_ws := mv_w5 31 rfl rfl
set_option maxRecDepth 20000 in
theorem q_im_X8_own : Cond.instanceMethod yX8_own ∈ mv_ws := mv_w5 32 rfl rfl
set_option maxRecDepth 20000 in
theorem q_se_X8_own : Cond.selects RX8 yX8_own yX8_own ∈ mv_ws := mv_w5 33 rfl rfl
set_option maxRecDepth 20000 in
theorem q_co_X8_own : Cond.code yX8_own cX8_own 3 (some .int) ∈ mv_ws := mv_w5 34 rfl rfl
set_option maxRecDepth 20000 in
theorem q_ml_L_146 : Cond.methodLink RL 146 yX8_unlock ∈ mv_ws := mv_w5 35 rfl rfl
set_option maxRecDepth 20000 in
theorem q_im_X8_unlock : Cond.instanceMethod yX8_unlock ∈ mv_ws := mv_w5 36 rfl rfl
set_option maxRecDepth 20000 in
theorem q_se_X8_unlock : Cond.selects RX8 yX8_unlock yX8_unlock ∈ mv_ws := mv_w5 37 rfl rfl
set_option maxRecDepth 20000 in
theorem q_co_X8_unlock : Cond.code yX8_unlock cX8_unlock 1 (some .int) ∈ mv_ws := mv_w5 38 rfl rfl
set_option maxRecDepth 20000 in
theorem q_ml_L_150 : Cond.methodLink RL 150 yX8_clear ∈ mv_ws := mv_w5 39 rfl rfl
set_option maxRecDepth 20000 in
theorem q_im_X8_clear : Cond.instanceMethod yX8_clear ∈ mv_ws := mv_w5 40 rfl rfl
set_option maxRecDepth 20000 in
theorem q_se_X8_clear : Cond.selects RX8 yX8_clear yX8_clear ∈ mv_ws := mv_w5 41 rfl rfl
set_option maxRecDepth 20000 in
theorem q_co_X8_clear : Cond.code yX8_clear cX8_clear 3 (some .int) ∈ mv_ws := mv_w5 42 rfl rfl
set_option maxRecDepth 20000 in
theorem q_ml_L_154 : Cond.methodLink RL 154 yX8_tick ∈ mv_ws := mv_w5 43 rfl rfl
set_option maxRecDepth 20000 in
theorem q_im_X8_tick : Cond.instanceMethod yX8_tick ∈ mv_ws := mv_w5 44 rfl rfl
set_option maxRecDepth 20000 in
theorem q_se_X8_tick : Cond.selects RX8 yX8_tick yX8_tick ∈ mv_ws := mv_w5 45 rfl rfl
set_option maxRecDepth 20000 in
theorem q_co_X8_tick : Cond.code yX8_tick cX8_tick 3 (some .int) ∈ mv_ws := mv_w5 46 rfl rfl
set_option maxRecDepth 20000 in
theorem q_k_X8_240 : Cond.constant RX8 240 100000 ∈ mv_ws := mv_w5 47 rfl rfl
set_option maxRecDepth 20000 in
theorem q_k_X8_241 : Cond.constant RX8 241 2000000000 ∈ mv_ws := mv_w5 48 rfl rfl
set_option maxRecDepth 20000 in
theorem q_ml_L_158 : Cond.methodLink RL 158 yX8_restart ∈ mv_ws := mv_w5 49 rfl rfl
set_option maxRecDepth 20000 in
theorem q_im_X8_restart : Cond.instanceMethod yX8_restart ∈ mv_ws := mv_w5 50 rfl rfl
set_option maxRecDepth 20000 in
theorem q_se_X8_restart : Cond.selects RX8 yX8_restart yX8_restart ∈ mv_ws := mv_w5 51 rfl rfl
set_option maxRecDepth 20000 in
theorem q_co_X8_restart : Cond.code yX8_restart cX8_restart 2 (some .int) ∈ mv_ws := mv_w5 52 rfl rfl
set_option maxRecDepth 20000 in
theorem q_ml_L_162 : Cond.methodLink RL 162 yX8_look ∈ mv_ws := mv_w5 53 rfl rfl
set_option maxRecDepth 20000 in
theorem q_im_X8_look : Cond.instanceMethod yX8_look ∈ mv_ws := mv_w5 54 rfl rfl
set_option maxRecDepth 20000 in
theorem q_se_X8_look : Cond.selects RX8 yX8_look yX8_look ∈ mv_ws := mv_w5 55 rfl rfl
set_option maxRecDepth 20000 in
theorem q_co_X8_look : Cond.code yX8_look cX8_look 2 (some .int) ∈ mv_ws := mv_w5 56 rfl rfl
set_option maxRecDepth 20000 in
theorem q_ml_X8_242 : Cond.methodLink RX8 242 yX8_many ∈ mv_ws := mv_w5 57 rfl rfl
set_option maxRecDepth 20000 in
theorem q_st_X8_many : Cond.static yX8_many ∈ mv_ws := mv_w5 58 rfl rfl
set_option maxRecDepth 20000 in
theorem q_co_X8_many : Cond.code yX8_many cX8_many 5 (some .int) ∈ mv_ws := mv_w5 59 rfl rfl
set_option maxRecDepth 20000 in
theorem q_se_X1_padMessage : Cond.selects RX1 yX1_padMessage yX1_padMessage ∈ mv_ws := mv_wp1 0 rfl rfl
set_option maxRecDepth 20000 in
theorem q_se_X1_spreadBlock : Cond.selects RX1 yX1_spreadBlock yX1_spreadBlock ∈ mv_ws := mv_wp1 1 rfl rfl
set_option maxRecDepth 20000 in
theorem q_se_X1_mixBlock : Cond.selects RX1 yX1_mixBlock yX1_mixBlock ∈ mv_ws := mv_wp1 2 rfl rfl
set_option maxRecDepth 20000 in
theorem q_se_X7_hashNothing : Cond.selects RX7 yX7_hashNothing yX7_hashNothing ∈ mv_ws := mv_wp1 3 rfl rfl
set_option maxRecDepth 20000 in
theorem q_se_X7_takeTapeHash : Cond.selects RX7 yX7_takeTapeHash yX7_takeTapeHash ∈ mv_ws := mv_wp1 4 rfl rfl
set_option maxRecDepth 20000 in
theorem q_se_X7_tell : Cond.selects RX7 yX7_tell yX7_tell ∈ mv_ws := mv_wp1 5 rfl rfl
set_option maxRecDepth 20000 in
theorem q_se_X1_putPad : Cond.selects RX1 yX1_putPad yX1_putPad ∈ mv_ws := mv_wp1 6 rfl rfl
set_option maxRecDepth 20000 in
theorem q_se_X3_findMark : Cond.selects RX3 yX3_findMark yX3_findMark ∈ mv_ws := mv_wp1 7 rfl rfl
set_option maxRecDepth 20000 in
theorem q_se_X7_openSession : Cond.selects RX7 yX7_openSession yX7_openSession ∈ mv_ws := mv_wp1 8 rfl rfl
set_option maxRecDepth 20000 in
theorem q_se_X7_chooseBranch : Cond.selects RX7 yX7_chooseBranch yX7_chooseBranch ∈ mv_ws := mv_wp1 9 rfl rfl
set_option maxRecDepth 20000 in
theorem q_se_X7_policyFrom : Cond.selects RX7 yX7_policyFrom yX7_policyFrom ∈ mv_ws := mv_wp1 10 rfl rfl
set_option maxRecDepth 20000 in
theorem q_se_X3_derive : Cond.selects RX3 yX3_derive yX3_derive ∈ mv_ws := mv_wp1 11 rfl rfl
set_option maxRecDepth 20000 in
theorem q_se_X3_cover : Cond.selects RX3 yX3_cover yX3_cover ∈ mv_ws := mv_wp1 12 rfl rfl
set_option maxRecDepth 20000 in
theorem q_se_X7_keepUnwrapped : Cond.selects RX7 yX7_keepUnwrapped yX7_keepUnwrapped ∈ mv_ws := mv_wp1 13 rfl rfl
set_option maxRecDepth 20000 in
theorem q_se_X7_objectAt : Cond.selects RX7 yX7_objectAt yX7_objectAt ∈ mv_ws := mv_wp1 14 rfl rfl
set_option maxRecDepth 20000 in
theorem q_se_X7_ask : Cond.selects RX7 yX7_ask yX7_ask ∈ mv_ws := mv_wp1 15 rfl rfl
set_option maxRecDepth 20000 in
theorem q_se_X7_askKey : Cond.selects RX7 yX7_askKey yX7_askKey ∈ mv_ws := mv_wp2 0 rfl rfl
set_option maxRecDepth 20000 in
theorem q_se_X7_valueAt : Cond.selects RX7 yX7_valueAt yX7_valueAt ∈ mv_ws := mv_wp2 1 rfl rfl
set_option maxRecDepth 20000 in
theorem q_se_X7_valueOf : Cond.selects RX7 yX7_valueOf yX7_valueOf ∈ mv_ws := mv_wp2 2 rfl rfl
set_option maxRecDepth 20000 in
theorem q_se_X7_writeTape : Cond.selects RX7 yX7_writeTape yX7_writeTape ∈ mv_ws := mv_wp2 3 rfl rfl
set_option maxRecDepth 20000 in
theorem q_se_X7_askToChange : Cond.selects RX7 yX7_askToChange yX7_askToChange ∈ mv_ws := mv_wp2 4 rfl rfl
set_option maxRecDepth 20000 in
theorem q_se_X7_chainTape : Cond.selects RX7 yX7_chainTape yX7_chainTape ∈ mv_ws := mv_wp2 5 rfl rfl
set_option maxRecDepth 20000 in
theorem q_se_X7_freeObjects : Cond.selects RX7 yX7_freeObjects yX7_freeObjects ∈ mv_ws := mv_wp2 6 rfl rfl
set_option maxRecDepth 20000 in
theorem q_se_X7_objectsHeld : Cond.selects RX7 yX7_objectsHeld yX7_objectsHeld ∈ mv_ws := mv_wp2 7 rfl rfl
set_option maxRecDepth 20000 in
theorem q_se_X7_sessionsOpen : Cond.selects RX7 yX7_sessionsOpen yX7_sessionsOpen ∈ mv_ws := mv_wp2 8 rfl rfl
set_option maxRecDepth 20000 in
theorem q_se_X7_valuesDefined : Cond.selects RX7 yX7_valuesDefined yX7_valuesDefined ∈ mv_ws := mv_wp2 9 rfl rfl
set_option maxRecDepth 20000 in
theorem q_se_X8_add : Cond.selects RX8 yX8_add yX8_add ∈ mv_ws := mv_wp2 10 rfl rfl
set_option maxRecDepth 20000 in
theorem q_se_X8_word : Cond.selects RX8 yX8_word yX8_word ∈ mv_ws := mv_wp2 11 rfl rfl
set_option maxRecDepth 20000 in
theorem q_se_X8_hashTo : Cond.selects RX8 yX8_hashTo yX8_hashTo ∈ mv_ws := mv_wp2 12 rfl rfl
set_option maxRecDepth 20000 in
theorem q_se_X8_block : Cond.selects RX8 yX8_block yX8_block ∈ mv_ws := mv_wp2 13 rfl rfl
set_option maxRecDepth 20000 in
theorem q_se_X8_put : Cond.selects RX8 yX8_put yX8_put ∈ mv_ws := mv_wp2 14 rfl rfl
set_option maxRecDepth 20000 in
theorem q_se_X8_tapeHash : Cond.selects RX8 yX8_tapeHash yX8_tapeHash ∈ mv_ws := mv_wp2 15 rfl rfl
set_option maxRecDepth 20000 in
theorem q_se_X8_add_ : Cond.selects RX8 yX8_add_ yX8_add_ ∈ mv_ws := mv_wp3 0 rfl rfl
set_option maxRecDepth 20000 in
theorem q_se_X8_told : Cond.selects RX8 yX8_told yX8_told ∈ mv_ws := mv_wp3 1 rfl rfl
set_option maxRecDepth 20000 in
theorem q_se_X8_change : Cond.selects RX8 yX8_change yX8_change ∈ mv_ws := mv_wp3 2 rfl rfl
set_option maxRecDepth 20000 in
theorem q_se_X8_stateTo : Cond.selects RX8 yX8_stateTo yX8_stateTo ∈ mv_ws := mv_wp3 3 rfl rfl
set_option maxRecDepth 20000 in
theorem q_se_X8_tell : Cond.selects RX8 yX8_tell yX8_tell ∈ mv_ws := mv_wp3 4 rfl rfl
set_option maxRecDepth 20000 in
theorem q_se_X8_tellWord : Cond.selects RX8 yX8_tellWord yX8_tellWord ∈ mv_ws := mv_wp3 5 rfl rfl
set_option maxRecDepth 20000 in
theorem q_se_X8_macSeed : Cond.selects RX8 yX8_macSeed yX8_macSeed ∈ mv_ws := mv_wp3 6 rfl rfl
set_option maxRecDepth 20000 in
theorem q_se_X8_macTo : Cond.selects RX8 yX8_macTo yX8_macTo ∈ mv_ws := mv_wp3 7 rfl rfl
set_option maxRecDepth 20000 in
theorem q_se_X8_opened : Cond.selects RX8 yX8_opened yX8_opened ∈ mv_ws := mv_wp3 8 rfl rfl
set_option maxRecDepth 20000 in
theorem q_se_X8_begin : Cond.selects RX8 yX8_begin yX8_begin ∈ mv_ws := mv_wp3 9 rfl rfl
set_option maxRecDepth 20000 in
theorem q_se_X8_mix : Cond.selects RX8 yX8_mix yX8_mix ∈ mv_ws := mv_wp3 10 rfl rfl
set_option maxRecDepth 20000 in
theorem q_se_X8_number : Cond.selects RX8 yX8_number yX8_number ∈ mv_ws := mv_wp3 11 rfl rfl
set_option maxRecDepth 20000 in
theorem q_se_X8_sealTo : Cond.selects RX8 yX8_sealTo yX8_sealTo ∈ mv_ws := mv_wp3 12 rfl rfl
set_option maxRecDepth 20000 in
theorem q_se_X8_isObject : Cond.selects RX8 yX8_isObject yX8_isObject ∈ mv_ws := mv_wp3 13 rfl rfl
set_option maxRecDepth 20000 in
theorem q_se_X8_by : Cond.selects RX8 yX8_by yX8_by ∈ mv_ws := mv_wp3 14 rfl rfl
set_option maxRecDepth 20000 in
theorem q_se_X8_compared : Cond.selects RX8 yX8_compared yX8_compared ∈ mv_ws := mv_wp3 15 rfl rfl
set_option maxRecDepth 20000 in
theorem q_se_X8_show : Cond.selects RX8 yX8_show yX8_show ∈ mv_ws := mv_wp4 0 rfl rfl
set_option maxRecDepth 20000 in
theorem q_se_X8_owners : Cond.selects RX8 yX8_owners yX8_owners ∈ mv_ws := mv_wp4 1 rfl rfl
set_option maxRecDepth 20000 in
theorem q_se_X8_thing : Cond.selects RX8 yX8_thing yX8_thing ∈ mv_ws := mv_wp4 2 rfl rfl
set_option maxRecDepth 20000 in
theorem q_X0 : ∀ w ∈ u_ws RX0 TX0 2, w ∈ mv_ws := mv_wa _ [42, 44] (by decide +kernel) (by decide +kernel)
set_option maxRecDepth 20000 in
theorem q_X1 : ∀ w ∈ u_ws RX1 TX1 4, w ∈ mv_ws := mv_wa _ [52, 54, 56, 58] (by decide +kernel) (by decide +kernel)
set_option maxRecDepth 20000 in
theorem q_X2 : ∀ w ∈ u_ws RX2 TX2 3, w ∈ mv_ws := mv_wa _ [141, 143, 145] (by decide +kernel) (by decide +kernel)
set_option maxRecDepth 20000 in
theorem q_X3 : ∀ w ∈ u_ws RX3 TX3 5, w ∈ mv_ws := mv_wa _ [118, 120, 122, 124, 126] (by decide +kernel) (by decide +kernel)
set_option maxRecDepth 20000 in
theorem q_X4 : ∀ w ∈ u_ws RX4 TX4 8, w ∈ mv_ws := mv_wa _ [167, 169, 171, 173, 175, 177, 179, 181] (by decide +kernel) (by decide +kernel)
set_option maxRecDepth 20000 in
theorem q_X5 : ∀ w ∈ u_ws RX5 TX5 4, w ∈ mv_ws := mv_wa _ [202, 204, 206, 208] (by decide +kernel) (by decide +kernel)
set_option maxRecDepth 20000 in
theorem q_X6 : ∀ w ∈ u_ws RX6 TX6 5, w ∈ mv_ws := mv_wa _ [230, 232, 234, 236, 238] (by decide +kernel) (by decide +kernel)
set_option maxRecDepth 20000 in
theorem q_X7 : ∀ w ∈ u_ws RX7 TX7 16, w ∈ mv_ws := mv_wa _ [263, 265, 267, 269, 271, 273, 275, 277, 279, 281, 283, 285, 287, 289, 291, 293] (by decide +kernel) (by decide +kernel)
set_option maxRecDepth 20000 in
theorem q_X8 : ∀ w ∈ u_ws RX8 TX8 38, w ∈ mv_ws := mv_wa _ [709, 711, 713, 715, 717, 719, 721, 723, 725, 727, 729, 731, 733, 735, 737, 739, 741, 743, 745, 747, 749, 751, 753, 755, 757, 759, 761, 763, 765, 767, 769, 771, 773, 775, 777, 779, 781, 783] (by decide +kernel) (by decide +kernel)
