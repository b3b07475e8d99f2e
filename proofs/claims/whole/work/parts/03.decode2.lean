theorem dX4_bindRegisters_0 : decode cX4_bindRegisters 0 = .ok (.aload_n 0, 1) := by decide +kernel
theorem dX4_bindRegisters_1 : decode cX4_bindRegisters 1 = .ok (.getfield 32, 3) := by decide +kernel
theorem dX4_bindRegisters_4 : decode cX4_bindRegisters 4 = .ok (.ifCond .ne 13, 3) := by decide +kernel
theorem dX4_bindRegisters_7 : decode cX4_bindRegisters 7 = .ok (.aload_n 0, 1) := by decide +kernel
theorem dX4_bindRegisters_8 : decode cX4_bindRegisters 8 = .ok (.iconst 1, 1) := by decide +kernel
theorem dX4_bindRegisters_9 : decode cX4_bindRegisters 9 = .ok (.putfield 32, 3) := by decide +kernel
theorem dX4_bindRegisters_12 : decode cX4_bindRegisters 12 = .ok (.aload_n 0, 1) := by decide +kernel
theorem dX4_bindRegisters_13 : decode cX4_bindRegisters 13 = .ok (.iload_n 1, 1) := by decide +kernel
theorem dX4_bindRegisters_14 : decode cX4_bindRegisters 14 = .ok (.putfield 54, 3) := by decide +kernel
theorem dX4_bindRegisters_17 : decode cX4_bindRegisters 17 = .ok (.return_, 1) := by decide +kernel
theorem dX4_bindTime_0 : decode cX4_bindTime 0 = .ok (.aload_n 0, 1) := by decide +kernel
theorem dX4_bindTime_1 : decode cX4_bindTime 1 = .ok (.aload_n 0, 1) := by decide +kernel
theorem dX4_bindTime_2 : decode cX4_bindTime 2 = .ok (.getfield 35, 3) := by decide +kernel
theorem dX4_bindTime_5 : decode cX4_bindTime 5 = .ok (.ifCond .eq 14, 3) := by decide +kernel
theorem dX4_bindTime_8 : decode cX4_bindTime 8 = .ok (.aload_n 0, 1) := by decide +kernel
theorem dX4_bindTime_9 : decode cX4_bindTime 9 = .ok (.getfield 57, 3) := by decide +kernel
theorem dX4_bindTime_12 : decode cX4_bindTime 12 = .ok (.iload_n 1, 1) := by decide +kernel
theorem dX4_bindTime_13 : decode cX4_bindTime 13 = .ok (.invokestatic 60, 3) := by decide +kernel
theorem dX4_bindTime_16 : decode cX4_bindTime 16 = .ok (.goto 4, 3) := by decide +kernel
theorem dX4_bindTime_19 : decode cX4_bindTime 19 = .ok (.iload_n 1, 1) := by decide +kernel
theorem dX4_bindTime_20 : decode cX4_bindTime 20 = .ok (.putfield 57, 3) := by decide +kernel
theorem dX4_bindTime_23 : decode cX4_bindTime 23 = .ok (.aload_n 0, 1) := by decide +kernel
theorem dX4_bindTime_24 : decode cX4_bindTime 24 = .ok (.iconst 1, 1) := by decide +kernel
theorem dX4_bindTime_25 : decode cX4_bindTime 25 = .ok (.putfield 35, 3) := by decide +kernel
theorem dX4_bindTime_28 : decode cX4_bindTime 28 = .ok (.return_, 1) := by decide +kernel
theorem dX4_holds_0 : decode cX4_holds 0 = .ok (.aload_n 0, 1) := by decide +kernel
theorem dX4_holds_1 : decode cX4_holds 1 = .ok (.getfield 32, 3) := by decide +kernel
theorem dX4_holds_4 : decode cX4_holds 4 = .ok (.ifCond .eq 11, 3) := by decide +kernel
theorem dX4_holds_7 : decode cX4_holds 7 = .ok (.iload_n 1, 1) := by decide +kernel
theorem dX4_holds_8 : decode cX4_holds 8 = .ok (.aload_n 0, 1) := by decide +kernel
theorem dX4_holds_9 : decode cX4_holds 9 = .ok (.getfield 54, 3) := by decide +kernel
theorem dX4_holds_12 : decode cX4_holds 12 = .ok (.if_icmp .ne 37, 3) := by decide +kernel
theorem dX4_holds_15 : decode cX4_holds 15 = .ok (.aload_n 0, 1) := by decide +kernel
theorem dX4_holds_16 : decode cX4_holds 16 = .ok (.getfield 28, 3) := by decide +kernel
theorem dX4_holds_19 : decode cX4_holds 19 = .ok (.ifCond .eq 11, 3) := by decide +kernel
theorem dX4_holds_22 : decode cX4_holds 22 = .ok (.aload_n 0, 1) := by decide +kernel
theorem dX4_holds_23 : decode cX4_holds 23 = .ok (.getfield 28, 3) := by decide +kernel
theorem dX4_holds_26 : decode cX4_holds 26 = .ok (.iload_n 2, 1) := by decide +kernel
theorem dX4_holds_27 : decode cX4_holds 27 = .ok (.if_icmp .ne 22, 3) := by decide +kernel
theorem dX4_holds_30 : decode cX4_holds 30 = .ok (.aload_n 0, 1) := by decide +kernel
theorem dX4_holds_31 : decode cX4_holds 31 = .ok (.getfield 35, 3) := by decide +kernel
theorem dX4_holds_34 : decode cX4_holds 34 = .ok (.ifCond .eq 11, 3) := by decide +kernel
theorem dX4_holds_37 : decode cX4_holds 37 = .ok (.iload_n 3, 1) := by decide +kernel
theorem dX4_holds_38 : decode cX4_holds 38 = .ok (.aload_n 0, 1) := by decide +kernel
theorem dX4_holds_39 : decode cX4_holds 39 = .ok (.getfield 57, 3) := by decide +kernel
theorem dX4_holds_42 : decode cX4_holds 42 = .ok (.if_icmp .gt 7, 3) := by decide +kernel
theorem dX4_holds_45 : decode cX4_holds 45 = .ok (.iconst 1, 1) := by decide +kernel
theorem dX4_holds_46 : decode cX4_holds 46 = .ok (.goto 4, 3) := by decide +kernel
theorem dX4_holds_49 : decode cX4_holds 49 = .ok (.iconst 0, 1) := by decide +kernel
theorem dX4_holds_50 : decode cX4_holds 50 = .ok (.ireturn, 1) := by decide +kernel
theorem dX5_init_0 : decode cX5_init 0 = .ok (.aload_n 0, 1) := by decide +kernel
theorem dX5_init_1 : decode cX5_init 1 = .ok (.invokespecial 3, 3) := by decide +kernel
theorem dX5_init_4 : decode cX5_init 4 = .ok (.aload_n 0, 1) := by decide +kernel
theorem dX5_init_5 : decode cX5_init 5 = .ok (.bipush 32, 2) := by decide +kernel
theorem dX5_init_7 : decode cX5_init 7 = .ok (.newarray .byte, 2) := by decide +kernel
theorem dX5_init_9 : decode cX5_init 9 = .ok (.putfield 9, 3) := by decide +kernel
theorem dX5_init_12 : decode cX5_init 12 = .ok (.aload_n 0, 1) := by decide +kernel
theorem dX5_init_13 : decode cX5_init 13 = .ok (.bipush 32, 2) := by decide +kernel
theorem dX5_init_15 : decode cX5_init 15 = .ok (.newarray .byte, 2) := by decide +kernel
theorem dX5_init_17 : decode cX5_init 17 = .ok (.putfield 15, 3) := by decide +kernel
theorem dX5_init_20 : decode cX5_init 20 = .ok (.aload_n 0, 1) := by decide +kernel
theorem dX5_init_21 : decode cX5_init 21 = .ok (.new 18, 3) := by decide +kernel
theorem dX5_init_24 : decode cX5_init 24 = .ok (.dup, 1) := by decide +kernel
theorem dX5_init_25 : decode cX5_init 25 = .ok (.iload_n 1, 1) := by decide +kernel
theorem dX5_init_26 : decode cX5_init 26 = .ok (.invokespecial 20, 3) := by decide +kernel
theorem dX5_init_29 : decode cX5_init 29 = .ok (.putfield 23, 3) := by decide +kernel
theorem dX5_init_32 : decode cX5_init 32 = .ok (.return_, 1) := by decide +kernel
theorem dX6_init_0 : decode cX6_init 0 = .ok (.aload_n 0, 1) := by decide +kernel
theorem dX6_init_1 : decode cX6_init 1 = .ok (.invokespecial 3, 3) := by decide +kernel
theorem dX6_init_4 : decode cX6_init 4 = .ok (.aload_n 0, 1) := by decide +kernel
theorem dX6_init_5 : decode cX6_init 5 = .ok (.new 9, 3) := by decide +kernel
theorem dX6_init_8 : decode cX6_init 8 = .ok (.dup, 1) := by decide +kernel
theorem dX6_init_9 : decode cX6_init 9 = .ok (.bipush 64, 2) := by decide +kernel
theorem dX6_init_11 : decode cX6_init 11 = .ok (.invokespecial 11, 3) := by decide +kernel
theorem dX6_init_14 : decode cX6_init 14 = .ok (.putfield 14, 3) := by decide +kernel
theorem dX6_init_17 : decode cX6_init 17 = .ok (.return_, 1) := by decide +kernel
theorem dX6_mayBe_0 : decode cX6_mayBe 0 = .ok (.iload_n 0, 1) := by decide +kernel
theorem dX6_mayBe_1 : decode cX6_mayBe 1 = .ok (.iconst 1, 1) := by decide +kernel
theorem dX6_mayBe_2 : decode cX6_mayBe 2 = .ok (.if_icmp .eq 23, 3) := by decide +kernel
theorem dX6_mayBe_5 : decode cX6_mayBe 5 = .ok (.iload_n 0, 1) := by decide +kernel
theorem dX6_mayBe_6 : decode cX6_mayBe 6 = .ok (.iconst 2, 1) := by decide +kernel
theorem dX6_mayBe_7 : decode cX6_mayBe 7 = .ok (.if_icmp .eq 18, 3) := by decide +kernel
theorem dX6_mayBe_10 : decode cX6_mayBe 10 = .ok (.iload_n 0, 1) := by decide +kernel
theorem dX6_mayBe_11 : decode cX6_mayBe 11 = .ok (.ifCond .ne 18, 3) := by decide +kernel
theorem dX6_mayBe_14 : decode cX6_mayBe 14 = .ok (.iload_n 1, 1) := by decide +kernel
theorem dX6_mayBe_15 : decode cX6_mayBe 15 = .ok (.iconst 1, 1) := by decide +kernel
theorem dX6_mayBe_16 : decode cX6_mayBe 16 = .ok (.if_icmp .lt 13, 3) := by decide +kernel
theorem dX6_mayBe_19 : decode cX6_mayBe 19 = .ok (.iload_n 1, 1) := by decide +kernel
theorem dX6_mayBe_20 : decode cX6_mayBe 20 = .ok (.bipush 64, 2) := by decide +kernel
theorem dX6_mayBe_22 : decode cX6_mayBe 22 = .ok (.if_icmp .gt 7, 3) := by decide +kernel
theorem dX6_mayBe_25 : decode cX6_mayBe 25 = .ok (.iconst 1, 1) := by decide +kernel
theorem dX6_mayBe_26 : decode cX6_mayBe 26 = .ok (.goto 4, 3) := by decide +kernel
theorem dX6_mayBe_29 : decode cX6_mayBe 29 = .ok (.iconst 0, 1) := by decide +kernel
theorem dX6_mayBe_30 : decode cX6_mayBe 30 = .ok (.ireturn, 1) := by decide +kernel
theorem dX6_begin_0 : decode cX6_begin 0 = .ok (.aload_n 0, 1) := by decide +kernel
theorem dX6_begin_1 : decode cX6_begin 1 = .ok (.getfield 14, 3) := by decide +kernel
theorem dX6_begin_4 : decode cX6_begin 4 = .ok (.iconst 1, 1) := by decide +kernel
theorem dX6_begin_5 : decode cX6_begin 5 = .ok (.putfield 20, 3) := by decide +kernel
theorem dX6_begin_8 : decode cX6_begin 8 = .ok (.aload_n 0, 1) := by decide +kernel
theorem dX6_begin_9 : decode cX6_begin 9 = .ok (.getfield 14, 3) := by decide +kernel
theorem dX6_begin_12 : decode cX6_begin 12 = .ok (.getfield 24, 3) := by decide +kernel
theorem dX6_begin_15 : decode cX6_begin 15 = .ok (.iload_n 1, 1) := by decide +kernel
theorem dX6_begin_16 : decode cX6_begin 16 = .ok (.ifCond .ne 7, 3) := by decide +kernel
theorem dX6_begin_19 : decode cX6_begin 19 = .ok (.iload_n 2, 1) := by decide +kernel
theorem dX6_begin_20 : decode cX6_begin 20 = .ok (.goto 15, 3) := by decide +kernel
theorem dX6_begin_23 : decode cX6_begin 23 = .ok (.iload_n 1, 1) := by decide +kernel
theorem dX6_begin_24 : decode cX6_begin 24 = .ok (.iconst 1, 1) := by decide +kernel
theorem dX6_begin_25 : decode cX6_begin 25 = .ok (.if_icmp .ne 8, 3) := by decide +kernel
theorem dX6_begin_28 : decode cX6_begin 28 = .ok (.bipush 8, 2) := by decide +kernel
theorem dX6_begin_30 : decode cX6_begin 30 = .ok (.goto 5, 3) := by decide +kernel
theorem dX6_begin_33 : decode cX6_begin 33 = .ok (.bipush 32, 2) := by decide +kernel
theorem dX6_begin_35 : decode cX6_begin 35 = .ok (.putfield 28, 3) := by decide +kernel
theorem dX6_begin_38 : decode cX6_begin 38 = .ok (.aload_n 0, 1) := by decide +kernel
theorem dX6_begin_39 : decode cX6_begin 39 = .ok (.getfield 14, 3) := by decide +kernel
theorem dX6_begin_42 : decode cX6_begin 42 = .ok (.getfield 24, 3) := by decide +kernel
theorem dX6_begin_45 : decode cX6_begin 45 = .ok (.getfield 34, 3) := by decide +kernel
theorem dX6_begin_48 : decode cX6_begin 48 = .ok (.iconst 0, 1) := by decide +kernel
theorem dX6_begin_49 : decode cX6_begin 49 = .ok (.invokestatic 38, 3) := by decide +kernel
theorem dX6_begin_52 : decode cX6_begin 52 = .ok (.aload_n 0, 1) := by decide +kernel
theorem dX6_begin_53 : decode cX6_begin 53 = .ok (.iload_n 1, 1) := by decide +kernel
theorem dX6_begin_54 : decode cX6_begin 54 = .ok (.putfield 44, 3) := by decide +kernel
theorem dX6_begin_57 : decode cX6_begin 57 = .ok (.aload_n 0, 1) := by decide +kernel
theorem dX6_begin_58 : decode cX6_begin 58 = .ok (.iconst 0, 1) := by decide +kernel
theorem dX6_begin_59 : decode cX6_begin 59 = .ok (.putfield 47, 3) := by decide +kernel
theorem dX6_begin_62 : decode cX6_begin 62 = .ok (.aload_n 0, 1) := by decide +kernel
theorem dX6_begin_63 : decode cX6_begin 63 = .ok (.iconst 0, 1) := by decide +kernel
theorem dX6_begin_64 : decode cX6_begin 64 = .ok (.putfield 50, 3) := by decide +kernel
theorem dX6_begin_67 : decode cX6_begin 67 = .ok (.aload_n 0, 1) := by decide +kernel
theorem dX6_begin_68 : decode cX6_begin 68 = .ok (.lconst 0, 1) := by decide +kernel
theorem dX6_begin_69 : decode cX6_begin 69 = .ok (.putfield 53, 3) := by decide +kernel
theorem dX6_begin_72 : decode cX6_begin 72 = .ok (.return_, 1) := by decide +kernel
theorem dX6_spellNumber_0 : decode cX6_spellNumber 0 = .ok (.aload_n 0, 1) := by decide +kernel
theorem dX6_spellNumber_1 : decode cX6_spellNumber 1 = .ok (.getfield 14, 3) := by decide +kernel
theorem dX6_spellNumber_4 : decode cX6_spellNumber 4 = .ok (.getfield 24, 3) := by decide +kernel
theorem dX6_spellNumber_7 : decode cX6_spellNumber 7 = .ok (.iconst 0, 1) := by decide +kernel
theorem dX6_spellNumber_8 : decode cX6_spellNumber 8 = .ok (.putfield 28, 3) := by decide +kernel
theorem dX6_spellNumber_11 : decode cX6_spellNumber 11 = .ok (.aload_n 0, 1) := by decide +kernel
theorem dX6_spellNumber_12 : decode cX6_spellNumber 12 = .ok (.getfield 14, 3) := by decide +kernel
theorem dX6_spellNumber_15 : decode cX6_spellNumber 15 = .ok (.getfield 24, 3) := by decide +kernel
theorem dX6_spellNumber_18 : decode cX6_spellNumber 18 = .ok (.aload_n 0, 1) := by decide +kernel
theorem dX6_spellNumber_19 : decode cX6_spellNumber 19 = .ok (.getfield 53, 3) := by decide +kernel
theorem dX6_spellNumber_22 : decode cX6_spellNumber 22 = .ok (.bipush 32, 2) := by decide +kernel
theorem dX6_spellNumber_24 : decode cX6_spellNumber 24 = .ok (.lushr, 1) := by decide +kernel
theorem dX6_spellNumber_25 : decode cX6_spellNumber 25 = .ok (.l2i, 1) := by decide +kernel
theorem dX6_spellNumber_26 : decode cX6_spellNumber 26 = .ok (.invokevirtual 57, 3) := by decide +kernel
theorem dX6_spellNumber_29 : decode cX6_spellNumber 29 = .ok (.aload_n 0, 1) := by decide +kernel
theorem dX6_spellNumber_30 : decode cX6_spellNumber 30 = .ok (.getfield 14, 3) := by decide +kernel
theorem dX6_spellNumber_33 : decode cX6_spellNumber 33 = .ok (.getfield 24, 3) := by decide +kernel
theorem dX6_spellNumber_36 : decode cX6_spellNumber 36 = .ok (.aload_n 0, 1) := by decide +kernel
theorem dX6_spellNumber_37 : decode cX6_spellNumber 37 = .ok (.getfield 53, 3) := by decide +kernel
theorem dX6_spellNumber_40 : decode cX6_spellNumber 40 = .ok (.l2i, 1) := by decide +kernel
theorem dX6_spellNumber_41 : decode cX6_spellNumber 41 = .ok (.invokevirtual 57, 3) := by decide +kernel
theorem dX6_spellNumber_44 : decode cX6_spellNumber 44 = .ok (.return_, 1) := by decide +kernel
theorem dX7_init_0 : decode cX7_init 0 = .ok (.aload_n 0, 1) := by decide +kernel
theorem dX7_init_1 : decode cX7_init 1 = .ok (.invokespecial 1, 3) := by decide +kernel
theorem dX7_init_4 : decode cX7_init 4 = .ok (.aload_n 0, 1) := by decide +kernel
theorem dX7_init_5 : decode cX7_init 5 = .ok (.new 7, 3) := by decide +kernel
theorem dX7_init_8 : decode cX7_init 8 = .ok (.dup, 1) := by decide +kernel
theorem dX7_init_9 : decode cX7_init 9 = .ok (.invokespecial 9, 3) := by decide +kernel
theorem dX7_init_12 : decode cX7_init 12 = .ok (.putfield 10, 3) := by decide +kernel
theorem dX7_init_15 : decode cX7_init 15 = .ok (.aload_n 0, 1) := by decide +kernel
theorem dX7_init_16 : decode cX7_init 16 = .ok (.new 16, 3) := by decide +kernel
theorem dX7_init_19 : decode cX7_init 19 = .ok (.dup, 1) := by decide +kernel
theorem dX7_init_20 : decode cX7_init 20 = .ok (.aload_n 0, 1) := by decide +kernel
theorem dX7_init_21 : decode cX7_init 21 = .ok (.getfield 10, 3) := by decide +kernel
theorem dX7_init_24 : decode cX7_init 24 = .ok (.iload_n 1, 1) := by decide +kernel
theorem dX7_init_25 : decode cX7_init 25 = .ok (.invokespecial 18, 3) := by decide +kernel
theorem dX7_init_28 : decode cX7_init 28 = .ok (.putfield 21, 3) := by decide +kernel
theorem dX7_init_31 : decode cX7_init 31 = .ok (.aload_n 0, 1) := by decide +kernel
theorem dX7_init_32 : decode cX7_init 32 = .ok (.new 25, 3) := by decide +kernel
theorem dX7_init_35 : decode cX7_init 35 = .ok (.dup, 1) := by decide +kernel
theorem dX7_init_36 : decode cX7_init 36 = .ok (.sipush 400, 3) := by decide +kernel
theorem dX7_init_39 : decode cX7_init 39 = .ok (.invokespecial 27, 3) := by decide +kernel
theorem dX7_init_42 : decode cX7_init 42 = .ok (.putfield 30, 3) := by decide +kernel
theorem dX7_init_45 : decode cX7_init 45 = .ok (.aload_n 0, 1) := by decide +kernel
theorem dX7_init_46 : decode cX7_init 46 = .ok (.new 25, 3) := by decide +kernel
theorem dX7_init_49 : decode cX7_init 49 = .ok (.dup, 1) := by decide +kernel
theorem dX7_init_50 : decode cX7_init 50 = .ok (.sipush 229, 3) := by decide +kernel
theorem dX7_init_53 : decode cX7_init 53 = .ok (.invokespecial 27, 3) := by decide +kernel
theorem dX7_init_56 : decode cX7_init 56 = .ok (.putfield 34, 3) := by decide +kernel
theorem dX7_init_59 : decode cX7_init 59 = .ok (.aload_n 0, 1) := by decide +kernel
theorem dX7_init_60 : decode cX7_init 60 = .ok (.bipush 32, 2) := by decide +kernel
theorem dX7_init_62 : decode cX7_init 62 = .ok (.newarray .byte, 2) := by decide +kernel
theorem dX7_init_64 : decode cX7_init 64 = .ok (.putfield 37, 3) := by decide +kernel
theorem dX7_init_67 : decode cX7_init 67 = .ok (.aload_n 0, 1) := by decide +kernel
theorem dX7_init_68 : decode cX7_init 68 = .ok (.bipush 32, 2) := by decide +kernel
theorem dX7_init_70 : decode cX7_init 70 = .ok (.newarray .byte, 2) := by decide +kernel
theorem dX7_init_72 : decode cX7_init 72 = .ok (.putfield 41, 3) := by decide +kernel
theorem dX7_init_75 : decode cX7_init 75 = .ok (.aload_n 0, 1) := by decide +kernel
theorem dX7_init_76 : decode cX7_init 76 = .ok (.bipush 32, 2) := by decide +kernel
theorem dX7_init_78 : decode cX7_init 78 = .ok (.newarray .byte, 2) := by decide +kernel
theorem dX7_init_80 : decode cX7_init 80 = .ok (.putfield 44, 3) := by decide +kernel
theorem dX7_init_83 : decode cX7_init 83 = .ok (.aload_n 0, 1) := by decide +kernel
theorem dX7_init_84 : decode cX7_init 84 = .ok (.bipush 32, 2) := by decide +kernel
theorem dX7_init_86 : decode cX7_init 86 = .ok (.newarray .byte, 2) := by decide +kernel
theorem dX7_init_88 : decode cX7_init 88 = .ok (.putfield 47, 3) := by decide +kernel
theorem dX7_init_91 : decode cX7_init 91 = .ok (.aload_n 0, 1) := by decide +kernel
theorem dX7_init_92 : decode cX7_init 92 = .ok (.new 50, 3) := by decide +kernel
theorem dX7_init_95 : decode cX7_init 95 = .ok (.dup, 1) := by decide +kernel
theorem dX7_init_96 : decode cX7_init 96 = .ok (.invokespecial 52, 3) := by decide +kernel
theorem dX7_init_99 : decode cX7_init 99 = .ok (.putfield 53, 3) := by decide +kernel
theorem dX7_init_102 : decode cX7_init 102 = .ok (.aload_n 0, 1) := by decide +kernel
theorem dX7_init_103 : decode cX7_init 103 = .ok (.iconst 4, 1) := by decide +kernel
theorem dX7_init_104 : decode cX7_init 104 = .ok (.anewarray 57, 3) := by decide +kernel
theorem dX7_init_107 : decode cX7_init 107 = .ok (.putfield 59, 3) := by decide +kernel
theorem dX7_init_110 : decode cX7_init 110 = .ok (.iconst 0, 1) := by decide +kernel
theorem dX7_init_111 : decode cX7_init 111 = .ok (.istore_n 2, 1) := by decide +kernel
theorem dX7_init_112 : decode cX7_init 112 = .ok (.iload_n 2, 1) := by decide +kernel
theorem dX7_init_113 : decode cX7_init 113 = .ok (.iconst 4, 1) := by decide +kernel
theorem dX7_init_114 : decode cX7_init 114 = .ok (.if_icmp .ge 22, 3) := by decide +kernel
theorem dX7_init_117 : decode cX7_init 117 = .ok (.aload_n 0, 1) := by decide +kernel
theorem dX7_init_118 : decode cX7_init 118 = .ok (.getfield 59, 3) := by decide +kernel
theorem dX7_init_121 : decode cX7_init 121 = .ok (.iload_n 2, 1) := by decide +kernel
theorem dX7_init_122 : decode cX7_init 122 = .ok (.new 57, 3) := by decide +kernel
theorem dX7_init_125 : decode cX7_init 125 = .ok (.dup, 1) := by decide +kernel
theorem dX7_init_126 : decode cX7_init 126 = .ok (.invokespecial 63, 3) := by decide +kernel
theorem dX7_init_129 : decode cX7_init 129 = .ok (.aastore, 1) := by decide +kernel
theorem dX7_init_130 : decode cX7_init 130 = .ok (.iinc 2 1, 3) := by decide +kernel
theorem dX7_init_133 : decode cX7_init 133 = .ok (.goto (-21), 3) := by decide +kernel
theorem dX7_init_136 : decode cX7_init 136 = .ok (.aload_n 0, 1) := by decide +kernel
theorem dX7_init_137 : decode cX7_init 137 = .ok (.iconst 4, 1) := by decide +kernel
theorem dX7_init_138 : decode cX7_init 138 = .ok (.anewarray 64, 3) := by decide +kernel
theorem dX7_init_141 : decode cX7_init 141 = .ok (.putfield 66, 3) := by decide +kernel
theorem dX7_init_144 : decode cX7_init 144 = .ok (.iconst 0, 1) := by decide +kernel
theorem dX7_init_145 : decode cX7_init 145 = .ok (.istore_n 2, 1) := by decide +kernel
theorem dX7_init_146 : decode cX7_init 146 = .ok (.iload_n 2, 1) := by decide +kernel
theorem dX7_init_147 : decode cX7_init 147 = .ok (.iconst 4, 1) := by decide +kernel
theorem dX7_init_148 : decode cX7_init 148 = .ok (.if_icmp .ge 25, 3) := by decide +kernel
theorem dX7_init_151 : decode cX7_init 151 = .ok (.aload_n 0, 1) := by decide +kernel
theorem dX7_init_152 : decode cX7_init 152 = .ok (.getfield 66, 3) := by decide +kernel
theorem dX7_init_155 : decode cX7_init 155 = .ok (.iload_n 2, 1) := by decide +kernel
theorem dX7_init_156 : decode cX7_init 156 = .ok (.new 64, 3) := by decide +kernel
theorem dX7_init_159 : decode cX7_init 159 = .ok (.dup, 1) := by decide +kernel
theorem dX7_init_160 : decode cX7_init 160 = .ok (.sipush 128, 3) := by decide +kernel
theorem dX7_init_163 : decode cX7_init 163 = .ok (.invokespecial 70, 3) := by decide +kernel
theorem dX7_init_166 : decode cX7_init 166 = .ok (.aastore, 1) := by decide +kernel
theorem dX7_init_167 : decode cX7_init 167 = .ok (.iinc 2 1, 3) := by decide +kernel
theorem dX7_init_170 : decode cX7_init 170 = .ok (.goto (-24), 3) := by decide +kernel
theorem dX7_init_173 : decode cX7_init 173 = .ok (.aload_n 0, 1) := by decide +kernel
theorem dX7_init_174 : decode cX7_init 174 = .ok (.bipush 8, 2) := by decide +kernel
theorem dX7_init_176 : decode cX7_init 176 = .ok (.anewarray 71, 3) := by decide +kernel
theorem dX7_init_179 : decode cX7_init 179 = .ok (.putfield 73, 3) := by decide +kernel
theorem dX7_init_182 : decode cX7_init 182 = .ok (.iconst 0, 1) := by decide +kernel
theorem dX7_init_183 : decode cX7_init 183 = .ok (.istore_n 2, 1) := by decide +kernel
theorem dX7_init_184 : decode cX7_init 184 = .ok (.iload_n 2, 1) := by decide +kernel
theorem dX7_init_185 : decode cX7_init 185 = .ok (.bipush 8, 2) := by decide +kernel
theorem dX7_init_187 : decode cX7_init 187 = .ok (.if_icmp .ge 22, 3) := by decide +kernel
theorem dX7_init_190 : decode cX7_init 190 = .ok (.aload_n 0, 1) := by decide +kernel
theorem dX7_init_191 : decode cX7_init 191 = .ok (.getfield 73, 3) := by decide +kernel
theorem dX7_init_194 : decode cX7_init 194 = .ok (.iload_n 2, 1) := by decide +kernel
theorem dX7_init_195 : decode cX7_init 195 = .ok (.new 71, 3) := by decide +kernel
theorem dX7_init_198 : decode cX7_init 198 = .ok (.dup, 1) := by decide +kernel
theorem dX7_init_199 : decode cX7_init 199 = .ok (.invokespecial 77, 3) := by decide +kernel
theorem dX7_init_202 : decode cX7_init 202 = .ok (.aastore, 1) := by decide +kernel
theorem dX7_init_203 : decode cX7_init 203 = .ok (.iinc 2 1, 3) := by decide +kernel
theorem dX7_init_206 : decode cX7_init 206 = .ok (.goto (-22), 3) := by decide +kernel
theorem dX7_init_209 : decode cX7_init 209 = .ok (.aload_n 0, 1) := by decide +kernel
theorem dX7_init_210 : decode cX7_init 210 = .ok (.aload_n 0, 1) := by decide +kernel
theorem dX7_init_211 : decode cX7_init 211 = .ok (.getfield 37, 3) := by decide +kernel
theorem dX7_init_214 : decode cX7_init 214 = .ok (.invokevirtual 78, 3) := by decide +kernel
theorem dX7_init_217 : decode cX7_init 217 = .ok (.aload_n 0, 1) := by decide +kernel
theorem dX7_init_218 : decode cX7_init 218 = .ok (.aload_n 0, 1) := by decide +kernel
theorem dX7_init_219 : decode cX7_init 219 = .ok (.getfield 41, 3) := by decide +kernel
theorem dX7_init_222 : decode cX7_init 222 = .ok (.invokevirtual 78, 3) := by decide +kernel
theorem dX7_init_225 : decode cX7_init 225 = .ok (.return_, 1) := by decide +kernel
theorem dX7_feed_0 : decode cX7_feed 0 = .ok (.aload_n 0, 1) := by decide +kernel
theorem dX7_feed_1 : decode cX7_feed 1 = .ok (.getfield 30, 3) := by decide +kernel
theorem dX7_feed_4 : decode cX7_feed 4 = .ok (.bipush 20, 2) := by decide +kernel
theorem dX7_feed_6 : decode cX7_feed 6 = .ok (.invokevirtual 82, 3) := by decide +kernel
theorem dX7_feed_9 : decode cX7_feed 9 = .ok (.ifCond .ne 6, 3) := by decide +kernel
theorem dX7_feed_12 : decode cX7_feed 12 = .ok (.bipush (-3), 2) := by decide +kernel
theorem dX7_feed_14 : decode cX7_feed 14 = .ok (.ireturn, 1) := by decide +kernel
theorem dX7_feed_15 : decode cX7_feed 15 = .ok (.aload_n 0, 1) := by decide +kernel
theorem dX7_feed_16 : decode cX7_feed 16 = .ok (.getfield 30, 3) := by decide +kernel
theorem dX7_feed_19 : decode cX7_feed 19 = .ok (.iload_n 1, 1) := by decide +kernel
theorem dX7_feed_20 : decode cX7_feed 20 = .ok (.invokevirtual 86, 3) := by decide +kernel
theorem dX7_feed_23 : decode cX7_feed 23 = .ok (.aload_n 0, 1) := by decide +kernel
theorem dX7_feed_24 : decode cX7_feed 24 = .ok (.getfield 30, 3) := by decide +kernel
theorem dX7_feed_27 : decode cX7_feed 27 = .ok (.iload_n 2, 1) := by decide +kernel
theorem dX7_feed_28 : decode cX7_feed 28 = .ok (.invokevirtual 86, 3) := by decide +kernel
theorem dX7_feed_31 : decode cX7_feed 31 = .ok (.aload_n 0, 1) := by decide +kernel
theorem dX7_feed_32 : decode cX7_feed 32 = .ok (.getfield 30, 3) := by decide +kernel
theorem dX7_feed_35 : decode cX7_feed 35 = .ok (.iload_n 3, 1) := by decide +kernel
theorem dX7_feed_36 : decode cX7_feed 36 = .ok (.invokevirtual 86, 3) := by decide +kernel
theorem dX7_feed_39 : decode cX7_feed 39 = .ok (.aload_n 0, 1) := by decide +kernel
theorem dX7_feed_40 : decode cX7_feed 40 = .ok (.getfield 30, 3) := by decide +kernel
theorem dX7_feed_43 : decode cX7_feed 43 = .ok (.iload 4, 2) := by decide +kernel
theorem dX7_feed_45 : decode cX7_feed 45 = .ok (.invokevirtual 86, 3) := by decide +kernel
theorem dX7_feed_48 : decode cX7_feed 48 = .ok (.aload_n 0, 1) := by decide +kernel
theorem dX7_feed_49 : decode cX7_feed 49 = .ok (.getfield 30, 3) := by decide +kernel
theorem dX7_feed_52 : decode cX7_feed 52 = .ok (.iload 5, 2) := by decide +kernel
theorem dX7_feed_54 : decode cX7_feed 54 = .ok (.invokevirtual 86, 3) := by decide +kernel
theorem dX7_feed_57 : decode cX7_feed 57 = .ok (.aload_n 0, 1) := by decide +kernel
theorem dX7_feed_58 : decode cX7_feed 58 = .ok (.getfield 30, 3) := by decide +kernel
theorem dX7_feed_61 : decode cX7_feed 61 = .ok (.getfield 89, 3) := by decide +kernel
theorem dX7_feed_64 : decode cX7_feed 64 = .ok (.ireturn, 1) := by decide +kernel
theorem dX7_end_0 : decode cX7_end 0 = .ok (.iload_n 1, 1) := by decide +kernel
theorem dX7_end_1 : decode cX7_end 1 = .ok (.ifCond .lt 14, 3) := by decide +kernel
theorem dX7_end_4 : decode cX7_end 4 = .ok (.iload_n 1, 1) := by decide +kernel
theorem dX7_end_5 : decode cX7_end 5 = .ok (.aload_n 0, 1) := by decide +kernel
theorem dX7_end_6 : decode cX7_end 6 = .ok (.getfield 30, 3) := by decide +kernel
theorem dX7_end_9 : decode cX7_end 9 = .ok (.getfield 89, 3) := by decide +kernel
theorem dX7_end_12 : decode cX7_end 12 = .ok (.if_icmp .le 5, 3) := by decide +kernel
theorem dX7_end_15 : decode cX7_end 15 = .ok (.iconst (-1), 1) := by decide +kernel
theorem dX7_end_16 : decode cX7_end 16 = .ok (.ireturn, 1) := by decide +kernel
theorem dX7_end_17 : decode cX7_end 17 = .ok (.aload_n 0, 1) := by decide +kernel
theorem dX7_end_18 : decode cX7_end 18 = .ok (.getfield 30, 3) := by decide +kernel
theorem dX7_end_21 : decode cX7_end 21 = .ok (.iload_n 1, 1) := by decide +kernel
theorem dX7_end_22 : decode cX7_end 22 = .ok (.putfield 89, 3) := by decide +kernel
theorem dX7_end_25 : decode cX7_end 25 = .ok (.iload_n 1, 1) := by decide +kernel
theorem dX7_end_26 : decode cX7_end 26 = .ok (.ireturn, 1) := by decide +kernel
theorem dX7_octet_0 : decode cX7_octet 0 = .ok (.iload_n 1, 1) := by decide +kernel
theorem dX7_octet_1 : decode cX7_octet 1 = .ok (.iconst (-1), 1) := by decide +kernel
theorem dX7_octet_2 : decode cX7_octet 2 = .ok (.if_icmp .ne 11, 3) := by decide +kernel
theorem dX7_octet_5 : decode cX7_octet 5 = .ok (.aload_n 0, 1) := by decide +kernel
theorem dX7_octet_6 : decode cX7_octet 6 = .ok (.getfield 34, 3) := by decide +kernel
theorem dX7_octet_9 : decode cX7_octet 9 = .ok (.getfield 89, 3) := by decide +kernel
theorem dX7_octet_12 : decode cX7_octet 12 = .ok (.ireturn, 1) := by decide +kernel
theorem dX7_octet_13 : decode cX7_octet 13 = .ok (.iload_n 1, 1) := by decide +kernel
theorem dX7_octet_14 : decode cX7_octet 14 = .ok (.ifCond .lt 14, 3) := by decide +kernel
theorem dX7_octet_17 : decode cX7_octet 17 = .ok (.iload_n 1, 1) := by decide +kernel
theorem dX7_octet_18 : decode cX7_octet 18 = .ok (.aload_n 0, 1) := by decide +kernel
theorem dX7_octet_19 : decode cX7_octet 19 = .ok (.getfield 34, 3) := by decide +kernel
theorem dX7_octet_22 : decode cX7_octet 22 = .ok (.getfield 89, 3) := by decide +kernel
theorem dX7_octet_25 : decode cX7_octet 25 = .ok (.if_icmp .lt 6, 3) := by decide +kernel
theorem dX7_octet_28 : decode cX7_octet 28 = .ok (.bipush (-2), 2) := by decide +kernel
theorem dX7_octet_30 : decode cX7_octet 30 = .ok (.ireturn, 1) := by decide +kernel
theorem dX7_octet_31 : decode cX7_octet 31 = .ok (.aload_n 0, 1) := by decide +kernel
theorem dX7_octet_32 : decode cX7_octet 32 = .ok (.getfield 34, 3) := by decide +kernel
theorem dX7_octet_35 : decode cX7_octet 35 = .ok (.getfield 93, 3) := by decide +kernel
theorem dX7_octet_38 : decode cX7_octet 38 = .ok (.iload_n 1, 1) := by decide +kernel
theorem dX7_octet_39 : decode cX7_octet 39 = .ok (.baload, 1) := by decide +kernel
theorem dX7_octet_40 : decode cX7_octet 40 = .ok (.sipush 255, 3) := by decide +kernel
theorem dX7_octet_43 : decode cX7_octet 43 = .ok (.iand, 1) := by decide +kernel
theorem dX7_octet_44 : decode cX7_octet 44 = .ok (.ireturn, 1) := by decide +kernel
theorem dX7_back_0 : decode cX7_back 0 = .ok (.aload_n 0, 1) := by decide +kernel
theorem dX7_back_1 : decode cX7_back 1 = .ok (.getfield 30, 3) := by decide +kernel
theorem dX7_back_4 : decode cX7_back 4 = .ok (.aload_n 0, 1) := by decide +kernel
theorem dX7_back_5 : decode cX7_back 5 = .ok (.getfield 34, 3) := by decide +kernel
theorem dX7_back_8 : decode cX7_back 8 = .ok (.getfield 89, 3) := by decide +kernel
theorem dX7_back_11 : decode cX7_back 11 = .ok (.invokevirtual 82, 3) := by decide +kernel
theorem dX7_back_14 : decode cX7_back 14 = .ok (.ifCond .ne 6, 3) := by decide +kernel
theorem dX7_back_17 : decode cX7_back 17 = .ok (.bipush (-3), 2) := by decide +kernel
theorem dX7_back_19 : decode cX7_back 19 = .ok (.ireturn, 1) := by decide +kernel
theorem dX7_back_20 : decode cX7_back 20 = .ok (.aload_n 0, 1) := by decide +kernel
theorem dX7_back_21 : decode cX7_back 21 = .ok (.getfield 30, 3) := by decide +kernel
theorem dX7_back_24 : decode cX7_back 24 = .ok (.aload_n 0, 1) := by decide +kernel
theorem dX7_back_25 : decode cX7_back 25 = .ok (.getfield 34, 3) := by decide +kernel
theorem dX7_back_28 : decode cX7_back 28 = .ok (.getfield 93, 3) := by decide +kernel
theorem dX7_back_31 : decode cX7_back 31 = .ok (.aload_n 0, 1) := by decide +kernel
theorem dX7_back_32 : decode cX7_back 32 = .ok (.getfield 34, 3) := by decide +kernel
theorem dX7_back_35 : decode cX7_back 35 = .ok (.getfield 89, 3) := by decide +kernel
theorem dX7_back_38 : decode cX7_back 38 = .ok (.invokevirtual 96, 3) := by decide +kernel
theorem dX7_back_41 : decode cX7_back 41 = .ok (.aload_n 0, 1) := by decide +kernel
theorem dX7_back_42 : decode cX7_back 42 = .ok (.getfield 30, 3) := by decide +kernel
theorem dX7_back_45 : decode cX7_back 45 = .ok (.getfield 89, 3) := by decide +kernel
theorem dX7_back_48 : decode cX7_back 48 = .ok (.ireturn, 1) := by decide +kernel
theorem dX7_hash_0 : decode cX7_hash 0 = .ok (.aload_n 0, 1) := by decide +kernel
theorem dX7_hash_1 : decode cX7_hash 1 = .ok (.invokevirtual 100, 3) := by decide +kernel
theorem dX7_hash_4 : decode cX7_hash 4 = .ok (.aload_n 0, 1) := by decide +kernel
theorem dX7_hash_5 : decode cX7_hash 5 = .ok (.aload_n 0, 1) := by decide +kernel
theorem dX7_hash_6 : decode cX7_hash 6 = .ok (.getfield 47, 3) := by decide +kernel
theorem dX7_hash_9 : decode cX7_hash 9 = .ok (.bipush 32, 2) := by decide +kernel
theorem dX7_hash_11 : decode cX7_hash 11 = .ok (.invokevirtual 103, 3) := by decide +kernel
theorem dX7_hash_14 : decode cX7_hash 14 = .ok (.ireturn, 1) := by decide +kernel
theorem dX7_key_0 : decode cX7_key 0 = .ok (.aload_n 0, 1) := by decide +kernel
theorem dX7_key_1 : decode cX7_key 1 = .ok (.invokevirtual 100, 3) := by decide +kernel
theorem dX7_key_4 : decode cX7_key 4 = .ok (.aload_n 0, 1) := by decide +kernel
theorem dX7_key_5 : decode cX7_key 5 = .ok (.getfield 47, 3) := by decide +kernel
theorem dX7_key_8 : decode cX7_key 8 = .ok (.aload_n 0, 1) := by decide +kernel
theorem dX7_key_9 : decode cX7_key 9 = .ok (.getfield 37, 3) := by decide +kernel
theorem dX7_key_12 : decode cX7_key 12 = .ok (.invokestatic 107, 3) := by decide +kernel
theorem dX7_key_15 : decode cX7_key 15 = .ok (.iconst 0, 1) := by decide +kernel
theorem dX7_key_16 : decode cX7_key 16 = .ok (.ireturn, 1) := by decide +kernel
theorem dX7_extend_0 : decode cX7_extend 0 = .ok (.aload_n 0, 1) := by decide +kernel
theorem dX7_extend_1 : decode cX7_extend 1 = .ok (.invokevirtual 100, 3) := by decide +kernel
theorem dX7_extend_4 : decode cX7_extend 4 = .ok (.iload_n 1, 1) := by decide +kernel
theorem dX7_extend_5 : decode cX7_extend 5 = .ok (.ifCond .lt 9, 3) := by decide +kernel
theorem dX7_extend_8 : decode cX7_extend 8 = .ok (.iload_n 1, 1) := by decide +kernel
theorem dX7_extend_9 : decode cX7_extend 9 = .ok (.bipush 8, 2) := by decide +kernel
theorem dX7_extend_11 : decode cX7_extend 11 = .ok (.if_icmp .lt 5, 3) := by decide +kernel
theorem dX7_extend_14 : decode cX7_extend 14 = .ok (.iconst (-1), 1) := by decide +kernel
theorem dX7_extend_15 : decode cX7_extend 15 = .ok (.ireturn, 1) := by decide +kernel
theorem dX7_extend_16 : decode cX7_extend 16 = .ok (.aload_n 0, 1) := by decide +kernel
theorem dX7_extend_17 : decode cX7_extend 17 = .ok (.getfield 53, 3) := by decide +kernel
theorem dX7_extend_20 : decode cX7_extend 20 = .ok (.iload_n 1, 1) := by decide +kernel
theorem dX7_extend_21 : decode cX7_extend 21 = .ok (.aload_n 0, 1) := by decide +kernel
theorem dX7_extend_22 : decode cX7_extend 22 = .ok (.getfield 47, 3) := by decide +kernel
theorem dX7_extend_25 : decode cX7_extend 25 = .ok (.aload_n 0, 1) := by decide +kernel
theorem dX7_extend_26 : decode cX7_extend 26 = .ok (.getfield 10, 3) := by decide +kernel
theorem dX7_extend_29 : decode cX7_extend 29 = .ok (.invokevirtual 111, 3) := by decide +kernel
theorem dX7_extend_32 : decode cX7_extend 32 = .ok (.iconst 0, 1) := by decide +kernel
theorem dX7_extend_33 : decode cX7_extend 33 = .ok (.ireturn, 1) := by decide +kernel
theorem dX7_reset_0 : decode cX7_reset 0 = .ok (.iload_n 1, 1) := by decide +kernel
theorem dX7_reset_1 : decode cX7_reset 1 = .ok (.bipush 6, 2) := by decide +kernel
theorem dX7_reset_3 : decode cX7_reset 3 = .ok (.if_icmp .eq 11, 3) := by decide +kernel
theorem dX7_reset_6 : decode cX7_reset 6 = .ok (.iload_n 1, 1) := by decide +kernel
theorem dX7_reset_7 : decode cX7_reset 7 = .ok (.bipush 7, 2) := by decide +kernel
theorem dX7_reset_9 : decode cX7_reset 9 = .ok (.if_icmp .eq 5, 3) := by decide +kernel
theorem dX7_reset_12 : decode cX7_reset 12 = .ok (.iconst (-1), 1) := by decide +kernel
theorem dX7_reset_13 : decode cX7_reset 13 = .ok (.ireturn, 1) := by decide +kernel
theorem dX7_reset_14 : decode cX7_reset 14 = .ok (.aload_n 0, 1) := by decide +kernel
theorem dX7_reset_15 : decode cX7_reset 15 = .ok (.getfield 53, 3) := by decide +kernel
theorem dX7_reset_18 : decode cX7_reset 18 = .ok (.iload_n 1, 1) := by decide +kernel
theorem dX7_reset_19 : decode cX7_reset 19 = .ok (.invokevirtual 115, 3) := by decide +kernel
theorem dX7_reset_22 : decode cX7_reset 22 = .ok (.iconst 0, 1) := by decide +kernel
theorem dX7_reset_23 : decode cX7_reset 23 = .ok (.ireturn, 1) := by decide +kernel
theorem dX7_state_0 : decode cX7_state 0 = .ok (.aload_n 0, 1) := by decide +kernel
theorem dX7_state_1 : decode cX7_state 1 = .ok (.getfield 53, 3) := by decide +kernel
theorem dX7_state_4 : decode cX7_state 4 = .ok (.iload_n 1, 1) := by decide +kernel
theorem dX7_state_5 : decode cX7_state 5 = .ok (.aload_n 0, 1) := by decide +kernel
theorem dX7_state_6 : decode cX7_state 6 = .ok (.getfield 10, 3) := by decide +kernel
theorem dX7_state_9 : decode cX7_state 9 = .ok (.aload_n 0, 1) := by decide +kernel
theorem dX7_state_10 : decode cX7_state 10 = .ok (.getfield 47, 3) := by decide +kernel
theorem dX7_state_13 : decode cX7_state 13 = .ok (.invokevirtual 118, 3) := by decide +kernel
theorem dX7_state_16 : decode cX7_state 16 = .ok (.aload_n 0, 1) := by decide +kernel
theorem dX7_state_17 : decode cX7_state 17 = .ok (.aload_n 0, 1) := by decide +kernel
theorem dX7_state_18 : decode cX7_state 18 = .ok (.getfield 47, 3) := by decide +kernel
theorem dX7_state_21 : decode cX7_state 21 = .ok (.bipush 32, 2) := by decide +kernel
theorem dX7_state_23 : decode cX7_state 23 = .ok (.invokevirtual 103, 3) := by decide +kernel
theorem dX7_state_26 : decode cX7_state 26 = .ok (.ireturn, 1) := by decide +kernel
theorem dX7_quote_0 : decode cX7_quote 0 = .ok (.iconst (-1), 1) := by decide +kernel
theorem dX7_quote_1 : decode cX7_quote 1 = .ok (.istore_n 2, 1) := by decide +kernel
theorem dX7_quote_2 : decode cX7_quote 2 = .ok (.aload_n 0, 1) := by decide +kernel
theorem dX7_quote_3 : decode cX7_quote 3 = .ok (.getfield 30, 3) := by decide +kernel
theorem dX7_quote_6 : decode cX7_quote 6 = .ok (.getfield 89, 3) := by decide +kernel
theorem dX7_quote_9 : decode cX7_quote 9 = .ok (.bipush 32, 2) := by decide +kernel
theorem dX7_quote_11 : decode cX7_quote 11 = .ok (.if_icmp .gt 119, 3) := by decide +kernel
theorem dX7_quote_14 : decode cX7_quote 14 = .ok (.aload_n 0, 1) := by decide +kernel
theorem dX7_quote_15 : decode cX7_quote 15 = .ok (.getfield 53, 3) := by decide +kernel
theorem dX7_quote_18 : decode cX7_quote 18 = .ok (.iload_n 1, 1) := by decide +kernel
theorem dX7_quote_19 : decode cX7_quote 19 = .ok (.aload_n 0, 1) := by decide +kernel
theorem dX7_quote_20 : decode cX7_quote 20 = .ok (.getfield 10, 3) := by decide +kernel
theorem dX7_quote_23 : decode cX7_quote 23 = .ok (.aload_n 0, 1) := by decide +kernel
theorem dX7_quote_24 : decode cX7_quote 24 = .ok (.getfield 47, 3) := by decide +kernel
theorem dX7_quote_27 : decode cX7_quote 27 = .ok (.invokevirtual 118, 3) := by decide +kernel
theorem dX7_quote_30 : decode cX7_quote 30 = .ok (.aload_n 0, 1) := by decide +kernel
theorem dX7_quote_31 : decode cX7_quote 31 = .ok (.getfield 34, 3) := by decide +kernel
theorem dX7_quote_34 : decode cX7_quote 34 = .ok (.iconst 0, 1) := by decide +kernel
theorem dX7_quote_35 : decode cX7_quote 35 = .ok (.putfield 89, 3) := by decide +kernel
theorem dX7_quote_38 : decode cX7_quote 38 = .ok (.aload_n 0, 1) := by decide +kernel
theorem dX7_quote_39 : decode cX7_quote 39 = .ok (.getfield 34, 3) := by decide +kernel
theorem dX7_quote_42 : decode cX7_quote 42 = .ok (.bipush 81, 2) := by decide +kernel
theorem dX7_quote_44 : decode cX7_quote 44 = .ok (.invokevirtual 122, 3) := by decide +kernel
theorem dX7_quote_47 : decode cX7_quote 47 = .ok (.aload_n 0, 1) := by decide +kernel
theorem dX7_quote_48 : decode cX7_quote 48 = .ok (.getfield 34, 3) := by decide +kernel
theorem dX7_quote_51 : decode cX7_quote 51 = .ok (.iload_n 1, 1) := by decide +kernel
theorem dX7_quote_52 : decode cX7_quote 52 = .ok (.invokevirtual 122, 3) := by decide +kernel
theorem dX7_quote_55 : decode cX7_quote 55 = .ok (.aload_n 0, 1) := by decide +kernel
theorem dX7_quote_56 : decode cX7_quote 56 = .ok (.getfield 34, 3) := by decide +kernel
theorem dX7_quote_59 : decode cX7_quote 59 = .ok (.aload_n 0, 1) := by decide +kernel
theorem dX7_quote_60 : decode cX7_quote 60 = .ok (.getfield 47, 3) := by decide +kernel
theorem dX7_quote_63 : decode cX7_quote 63 = .ok (.bipush 32, 2) := by decide +kernel
theorem dX7_quote_65 : decode cX7_quote 65 = .ok (.invokevirtual 96, 3) := by decide +kernel
theorem dX7_quote_68 : decode cX7_quote 68 = .ok (.aload_n 0, 1) := by decide +kernel
theorem dX7_quote_69 : decode cX7_quote 69 = .ok (.getfield 34, 3) := by decide +kernel
theorem dX7_quote_72 : decode cX7_quote 72 = .ok (.aload_n 0, 1) := by decide +kernel
theorem dX7_quote_73 : decode cX7_quote 73 = .ok (.getfield 125, 3) := by decide +kernel
theorem dX7_quote_76 : decode cX7_quote 76 = .ok (.invokevirtual 86, 3) := by decide +kernel
theorem dX7_quote_79 : decode cX7_quote 79 = .ok (.aload_n 0, 1) := by decide +kernel
theorem dX7_quote_80 : decode cX7_quote 80 = .ok (.getfield 34, 3) := by decide +kernel
theorem dX7_quote_83 : decode cX7_quote 83 = .ok (.aload_n 0, 1) := by decide +kernel
theorem dX7_quote_84 : decode cX7_quote 84 = .ok (.getfield 128, 3) := by decide +kernel
theorem dX7_quote_87 : decode cX7_quote 87 = .ok (.invokevirtual 86, 3) := by decide +kernel
theorem dX7_quote_90 : decode cX7_quote 90 = .ok (.aload_n 0, 1) := by decide +kernel
theorem dX7_quote_91 : decode cX7_quote 91 = .ok (.getfield 34, 3) := by decide +kernel
theorem dX7_quote_94 : decode cX7_quote 94 = .ok (.aload_n 0, 1) := by decide +kernel
theorem dX7_quote_95 : decode cX7_quote 95 = .ok (.getfield 30, 3) := by decide +kernel
theorem dX7_quote_98 : decode cX7_quote 98 = .ok (.getfield 93, 3) := by decide +kernel
theorem dX7_quote_101 : decode cX7_quote 101 = .ok (.aload_n 0, 1) := by decide +kernel
theorem dX7_quote_102 : decode cX7_quote 102 = .ok (.getfield 30, 3) := by decide +kernel
theorem dX7_quote_105 : decode cX7_quote 105 = .ok (.getfield 89, 3) := by decide +kernel
theorem dX7_quote_108 : decode cX7_quote 108 = .ok (.invokevirtual 96, 3) := by decide +kernel
theorem dX7_quote_111 : decode cX7_quote 111 = .ok (.aload_n 0, 1) := by decide +kernel
theorem dX7_quote_112 : decode cX7_quote 112 = .ok (.getfield 21, 3) := by decide +kernel
theorem dX7_quote_115 : decode cX7_quote 115 = .ok (.aload_n 0, 1) := by decide +kernel
theorem dX7_quote_116 : decode cX7_quote 116 = .ok (.getfield 34, 3) := by decide +kernel
theorem dX7_quote_119 : decode cX7_quote 119 = .ok (.invokevirtual 131, 3) := by decide +kernel
theorem dX7_quote_122 : decode cX7_quote 122 = .ok (.aload_n 0, 1) := by decide +kernel
theorem dX7_quote_123 : decode cX7_quote 123 = .ok (.getfield 34, 3) := by decide +kernel
theorem dX7_quote_126 : decode cX7_quote 126 = .ok (.getfield 89, 3) := by decide +kernel
theorem dX7_quote_129 : decode cX7_quote 129 = .ok (.istore_n 2, 1) := by decide +kernel
theorem dX7_quote_130 : decode cX7_quote 130 = .ok (.aload_n 0, 1) := by decide +kernel
theorem dX7_quote_131 : decode cX7_quote 131 = .ok (.getfield 30, 3) := by decide +kernel
theorem dX7_quote_134 : decode cX7_quote 134 = .ok (.iconst 0, 1) := by decide +kernel
theorem dX7_quote_135 : decode cX7_quote 135 = .ok (.putfield 89, 3) := by decide +kernel
theorem dX7_quote_138 : decode cX7_quote 138 = .ok (.iload_n 2, 1) := by decide +kernel
theorem dX7_quote_139 : decode cX7_quote 139 = .ok (.ireturn, 1) := by decide +kernel
theorem dX7_open_0 : decode cX7_open 0 = .ok (.iload_n 1, 1) := by decide +kernel
theorem dX7_open_1 : decode cX7_open 1 = .ok (.ifCond .lt 8, 3) := by decide +kernel
theorem dX7_open_4 : decode cX7_open 4 = .ok (.iload_n 1, 1) := by decide +kernel
theorem dX7_open_5 : decode cX7_open 5 = .ok (.iconst 4, 1) := by decide +kernel
theorem dX7_open_6 : decode cX7_open 6 = .ok (.if_icmp .lt 5, 3) := by decide +kernel
theorem dX7_open_9 : decode cX7_open 9 = .ok (.iconst (-1), 1) := by decide +kernel
theorem dX7_open_10 : decode cX7_open 10 = .ok (.ireturn, 1) := by decide +kernel
theorem dX7_open_11 : decode cX7_open 11 = .ok (.aload_n 0, 1) := by decide +kernel
theorem dX7_open_12 : decode cX7_open 12 = .ok (.getfield 59, 3) := by decide +kernel
theorem dX7_open_15 : decode cX7_open 15 = .ok (.iload_n 1, 1) := by decide +kernel
theorem dX7_open_16 : decode cX7_open 16 = .ok (.aaload, 1) := by decide +kernel
theorem dX7_open_17 : decode cX7_open 17 = .ok (.invokevirtual 135, 3) := by decide +kernel
theorem dX7_open_20 : decode cX7_open 20 = .ok (.iconst 0, 1) := by decide +kernel
theorem dX7_open_21 : decode cX7_open 21 = .ok (.ireturn, 1) := by decide +kernel
theorem dX7_policyState_0 : decode cX7_policyState 0 = .ok (.aload_n 0, 1) := by decide +kernel
theorem dX7_policyState_1 : decode cX7_policyState 1 = .ok (.iload_n 1, 1) := by decide +kernel
theorem dX7_policyState_2 : decode cX7_policyState 2 = .ok (.invokevirtual 138, 3) := by decide +kernel
theorem dX7_policyState_5 : decode cX7_policyState 5 = .ok (.astore_n 3, 1) := by decide +kernel
theorem dX7_policyState_6 : decode cX7_policyState 6 = .ok (.aload_n 3, 1) := by decide +kernel
theorem dX7_policyState_7 : decode cX7_policyState 7 = .ok (.ifnonnull 5, 3) := by decide +kernel
theorem dX7_policyState_10 : decode cX7_policyState 10 = .ok (.iconst (-1), 1) := by decide +kernel
theorem dX7_policyState_11 : decode cX7_policyState 11 = .ok (.ireturn, 1) := by decide +kernel
theorem dX7_policyState_12 : decode cX7_policyState 12 = .ok (.aload_n 0, 1) := by decide +kernel
theorem dX7_policyState_13 : decode cX7_policyState 13 = .ok (.getfield 53, 3) := by decide +kernel
theorem dX7_policyState_16 : decode cX7_policyState 16 = .ok (.iload_n 2, 1) := by decide +kernel
theorem dX7_policyState_17 : decode cX7_policyState 17 = .ok (.aload_n 0, 1) := by decide +kernel
theorem dX7_policyState_18 : decode cX7_policyState 18 = .ok (.getfield 10, 3) := by decide +kernel
theorem dX7_policyState_21 : decode cX7_policyState 21 = .ok (.aload_n 0, 1) := by decide +kernel
theorem dX7_policyState_22 : decode cX7_policyState 22 = .ok (.getfield 47, 3) := by decide +kernel
theorem dX7_policyState_25 : decode cX7_policyState 25 = .ok (.invokevirtual 118, 3) := by decide +kernel
theorem dX7_policyState_28 : decode cX7_policyState 28 = .ok (.aload_n 3, 1) := by decide +kernel
theorem dX7_policyState_29 : decode cX7_policyState 29 = .ok (.aload_n 0, 1) := by decide +kernel
theorem dX7_policyState_30 : decode cX7_policyState 30 = .ok (.getfield 10, 3) := by decide +kernel
theorem dX7_policyState_33 : decode cX7_policyState 33 = .ok (.iconst 1, 1) := by decide +kernel
theorem dX7_policyState_34 : decode cX7_policyState 34 = .ok (.invokevirtual 142, 3) := by decide +kernel
theorem dX7_policyState_37 : decode cX7_policyState 37 = .ok (.astore 4, 2) := by decide +kernel
theorem dX7_policyState_39 : decode cX7_policyState 39 = .ok (.aload 4, 2) := by decide +kernel
theorem dX7_policyState_41 : decode cX7_policyState 41 = .ok (.iload_n 2, 1) := by decide +kernel
theorem dX7_policyState_42 : decode cX7_policyState 42 = .ok (.invokevirtual 122, 3) := by decide +kernel
theorem dX7_policyState_45 : decode cX7_policyState 45 = .ok (.aload 4, 2) := by decide +kernel
theorem dX7_policyState_47 : decode cX7_policyState 47 = .ok (.aload_n 0, 1) := by decide +kernel
theorem dX7_policyState_48 : decode cX7_policyState 48 = .ok (.getfield 47, 3) := by decide +kernel
theorem dX7_policyState_51 : decode cX7_policyState 51 = .ok (.bipush 32, 2) := by decide +kernel
theorem dX7_policyState_53 : decode cX7_policyState 53 = .ok (.invokevirtual 96, 3) := by decide +kernel
theorem dX7_policyState_56 : decode cX7_policyState 56 = .ok (.aload_n 0, 1) := by decide +kernel
theorem dX7_policyState_57 : decode cX7_policyState 57 = .ok (.getfield 10, 3) := by decide +kernel
theorem dX7_policyState_60 : decode cX7_policyState 60 = .ok (.aload_n 3, 1) := by decide +kernel
theorem dX7_policyState_61 : decode cX7_policyState 61 = .ok (.getfield 146, 3) := by decide +kernel
theorem dX7_policyState_64 : decode cX7_policyState 64 = .ok (.invokevirtual 149, 3) := by decide +kernel
theorem dX7_policyState_67 : decode cX7_policyState 67 = .ok (.aload_n 3, 1) := by decide +kernel
theorem dX7_policyState_68 : decode cX7_policyState 68 = .ok (.aload_n 0, 1) := by decide +kernel
theorem dX7_policyState_69 : decode cX7_policyState 69 = .ok (.getfield 53, 3) := by decide +kernel
theorem dX7_policyState_72 : decode cX7_policyState 72 = .ok (.getfield 152, 3) := by decide +kernel
theorem dX7_policyState_75 : decode cX7_policyState 75 = .ok (.invokevirtual 155, 3) := by decide +kernel
theorem dX7_policyState_78 : decode cX7_policyState 78 = .ok (.iconst 0, 1) := by decide +kernel
theorem dX7_policyState_79 : decode cX7_policyState 79 = .ok (.ireturn, 1) := by decide +kernel
theorem dX7_policyAuth_0 : decode cX7_policyAuth 0 = .ok (.aload_n 0, 1) := by decide +kernel
theorem dX7_policyAuth_1 : decode cX7_policyAuth 1 = .ok (.iload_n 1, 1) := by decide +kernel
theorem dX7_policyAuth_2 : decode cX7_policyAuth 2 = .ok (.invokevirtual 138, 3) := by decide +kernel
theorem dX7_policyAuth_5 : decode cX7_policyAuth 5 = .ok (.astore_n 2, 1) := by decide +kernel
theorem dX7_policyAuth_6 : decode cX7_policyAuth 6 = .ok (.aload_n 2, 1) := by decide +kernel
theorem dX7_policyAuth_7 : decode cX7_policyAuth 7 = .ok (.ifnonnull 5, 3) := by decide +kernel
theorem dX7_policyAuth_10 : decode cX7_policyAuth 10 = .ok (.iconst (-1), 1) := by decide +kernel
theorem dX7_policyAuth_11 : decode cX7_policyAuth 11 = .ok (.ireturn, 1) := by decide +kernel
theorem dX7_policyAuth_12 : decode cX7_policyAuth 12 = .ok (.aload_n 2, 1) := by decide +kernel
theorem dX7_policyAuth_13 : decode cX7_policyAuth 13 = .ok (.aload_n 0, 1) := by decide +kernel
theorem dX7_policyAuth_14 : decode cX7_policyAuth 14 = .ok (.getfield 10, 3) := by decide +kernel
theorem dX7_policyAuth_17 : decode cX7_policyAuth 17 = .ok (.iconst 2, 1) := by decide +kernel
theorem dX7_policyAuth_18 : decode cX7_policyAuth 18 = .ok (.invokevirtual 142, 3) := by decide +kernel
theorem dX7_policyAuth_21 : decode cX7_policyAuth 21 = .ok (.pop, 1) := by decide +kernel
theorem dX7_policyAuth_22 : decode cX7_policyAuth 22 = .ok (.aload_n 0, 1) := by decide +kernel
theorem dX7_policyAuth_23 : decode cX7_policyAuth 23 = .ok (.getfield 10, 3) := by decide +kernel
theorem dX7_policyAuth_26 : decode cX7_policyAuth 26 = .ok (.aload_n 2, 1) := by decide +kernel
theorem dX7_policyAuth_27 : decode cX7_policyAuth 27 = .ok (.getfield 146, 3) := by decide +kernel
theorem dX7_policyAuth_30 : decode cX7_policyAuth 30 = .ok (.invokevirtual 149, 3) := by decide +kernel
theorem dX7_policyAuth_33 : decode cX7_policyAuth 33 = .ok (.aload_n 2, 1) := by decide +kernel
theorem dX7_policyAuth_34 : decode cX7_policyAuth 34 = .ok (.iconst 1, 1) := by decide +kernel
theorem dX7_policyAuth_35 : decode cX7_policyAuth 35 = .ok (.putfield 158, 3) := by decide +kernel
theorem dX7_policyAuth_38 : decode cX7_policyAuth 38 = .ok (.iconst 0, 1) := by decide +kernel
theorem dX7_policyAuth_39 : decode cX7_policyAuth 39 = .ok (.ireturn, 1) := by decide +kernel
theorem dX7_policyCode_0 : decode cX7_policyCode 0 = .ok (.aload_n 0, 1) := by decide +kernel
theorem dX7_policyCode_1 : decode cX7_policyCode 1 = .ok (.iload_n 1, 1) := by decide +kernel
theorem dX7_policyCode_2 : decode cX7_policyCode 2 = .ok (.invokevirtual 138, 3) := by decide +kernel
theorem dX7_policyCode_5 : decode cX7_policyCode 5 = .ok (.astore_n 3, 1) := by decide +kernel
theorem dX7_policyCode_6 : decode cX7_policyCode 6 = .ok (.aload_n 3, 1) := by decide +kernel
theorem dX7_policyCode_7 : decode cX7_policyCode 7 = .ok (.ifnull 21, 3) := by decide +kernel
theorem dX7_policyCode_10 : decode cX7_policyCode 10 = .ok (.aload_n 3, 1) := by decide +kernel
theorem dX7_policyCode_11 : decode cX7_policyCode 11 = .ok (.getfield 162, 3) := by decide +kernel
theorem dX7_policyCode_14 : decode cX7_policyCode 14 = .ok (.ifCond .ne 14, 3) := by decide +kernel
theorem dX7_policyCode_17 : decode cX7_policyCode 17 = .ok (.iload_n 2, 1) := by decide +kernel
theorem dX7_policyCode_18 : decode cX7_policyCode 18 = .ok (.iconst 1, 1) := by decide +kernel
theorem dX7_policyCode_19 : decode cX7_policyCode 19 = .ok (.if_icmp .lt 9, 3) := by decide +kernel
theorem dX7_policyCode_22 : decode cX7_policyCode 22 = .ok (.iload_n 2, 1) := by decide +kernel
theorem dX7_policyCode_23 : decode cX7_policyCode 23 = .ok (.bipush 6, 2) := by decide +kernel
theorem dX7_policyCode_25 : decode cX7_policyCode 25 = .ok (.if_icmp .le 5, 3) := by decide +kernel
theorem dX7_policyCode_28 : decode cX7_policyCode 28 = .ok (.iconst (-1), 1) := by decide +kernel
theorem dX7_policyCode_29 : decode cX7_policyCode 29 = .ok (.ireturn, 1) := by decide +kernel
theorem dX7_policyCode_30 : decode cX7_policyCode 30 = .ok (.aload_n 3, 1) := by decide +kernel
theorem dX7_policyCode_31 : decode cX7_policyCode 31 = .ok (.aload_n 0, 1) := by decide +kernel
theorem dX7_policyCode_32 : decode cX7_policyCode 32 = .ok (.getfield 10, 3) := by decide +kernel
theorem dX7_policyCode_35 : decode cX7_policyCode 35 = .ok (.iconst 3, 1) := by decide +kernel
theorem dX7_policyCode_36 : decode cX7_policyCode 36 = .ok (.invokevirtual 142, 3) := by decide +kernel
theorem dX7_policyCode_39 : decode cX7_policyCode 39 = .ok (.iload_n 2, 1) := by decide +kernel
theorem dX7_policyCode_40 : decode cX7_policyCode 40 = .ok (.invokevirtual 122, 3) := by decide +kernel
theorem dX7_policyCode_43 : decode cX7_policyCode 43 = .ok (.aload_n 0, 1) := by decide +kernel
theorem dX7_policyCode_44 : decode cX7_policyCode 44 = .ok (.getfield 10, 3) := by decide +kernel
theorem dX7_policyCode_47 : decode cX7_policyCode 47 = .ok (.aload_n 3, 1) := by decide +kernel
theorem dX7_policyCode_48 : decode cX7_policyCode 48 = .ok (.getfield 146, 3) := by decide +kernel
theorem dX7_policyCode_51 : decode cX7_policyCode 51 = .ok (.invokevirtual 149, 3) := by decide +kernel
theorem dX7_policyCode_54 : decode cX7_policyCode 54 = .ok (.aload_n 3, 1) := by decide +kernel
theorem dX7_policyCode_55 : decode cX7_policyCode 55 = .ok (.iload_n 2, 1) := by decide +kernel
theorem dX7_policyCode_56 : decode cX7_policyCode 56 = .ok (.putfield 162, 3) := by decide +kernel
theorem dX7_policyCode_59 : decode cX7_policyCode 59 = .ok (.iconst 0, 1) := by decide +kernel
theorem dX7_policyCode_60 : decode cX7_policyCode 60 = .ok (.ireturn, 1) := by decide +kernel
theorem dX7_policyTime_0 : decode cX7_policyTime 0 = .ok (.aload_n 0, 1) := by decide +kernel
theorem dX7_policyTime_1 : decode cX7_policyTime 1 = .ok (.iload_n 1, 1) := by decide +kernel
theorem dX7_policyTime_2 : decode cX7_policyTime 2 = .ok (.invokevirtual 138, 3) := by decide +kernel
theorem dX7_policyTime_5 : decode cX7_policyTime 5 = .ok (.astore_n 3, 1) := by decide +kernel
theorem dX7_policyTime_6 : decode cX7_policyTime 6 = .ok (.aload_n 3, 1) := by decide +kernel
theorem dX7_policyTime_7 : decode cX7_policyTime 7 = .ok (.ifnonnull 5, 3) := by decide +kernel
theorem dX7_policyTime_10 : decode cX7_policyTime 10 = .ok (.iconst (-1), 1) := by decide +kernel
theorem dX7_policyTime_11 : decode cX7_policyTime 11 = .ok (.ireturn, 1) := by decide +kernel
theorem dX7_policyTime_12 : decode cX7_policyTime 12 = .ok (.aload_n 3, 1) := by decide +kernel
theorem dX7_policyTime_13 : decode cX7_policyTime 13 = .ok (.aload_n 0, 1) := by decide +kernel
theorem dX7_policyTime_14 : decode cX7_policyTime 14 = .ok (.getfield 10, 3) := by decide +kernel
theorem dX7_policyTime_17 : decode cX7_policyTime 17 = .ok (.iconst 4, 1) := by decide +kernel
theorem dX7_policyTime_18 : decode cX7_policyTime 18 = .ok (.invokevirtual 142, 3) := by decide +kernel
theorem dX7_policyTime_21 : decode cX7_policyTime 21 = .ok (.iload_n 2, 1) := by decide +kernel
theorem dX7_policyTime_22 : decode cX7_policyTime 22 = .ok (.invokevirtual 86, 3) := by decide +kernel
theorem dX7_policyTime_25 : decode cX7_policyTime 25 = .ok (.aload_n 0, 1) := by decide +kernel
theorem dX7_policyTime_26 : decode cX7_policyTime 26 = .ok (.getfield 10, 3) := by decide +kernel
theorem dX7_policyTime_29 : decode cX7_policyTime 29 = .ok (.aload_n 3, 1) := by decide +kernel
theorem dX7_policyTime_30 : decode cX7_policyTime 30 = .ok (.getfield 146, 3) := by decide +kernel
theorem dX7_policyTime_33 : decode cX7_policyTime 33 = .ok (.invokevirtual 149, 3) := by decide +kernel
theorem dX7_policyTime_36 : decode cX7_policyTime 36 = .ok (.aload_n 3, 1) := by decide +kernel
theorem dX7_policyTime_37 : decode cX7_policyTime 37 = .ok (.iload_n 2, 1) := by decide +kernel
theorem dX7_policyTime_38 : decode cX7_policyTime 38 = .ok (.invokevirtual 165, 3) := by decide +kernel
theorem dX7_policyTime_41 : decode cX7_policyTime 41 = .ok (.iconst 0, 1) := by decide +kernel
theorem dX7_policyTime_42 : decode cX7_policyTime 42 = .ok (.ireturn, 1) := by decide +kernel
theorem dX7_policyOr_0 : decode cX7_policyOr 0 = .ok (.aload_n 0, 1) := by decide +kernel
theorem dX7_policyOr_1 : decode cX7_policyOr 1 = .ok (.aload_n 0, 1) := by decide +kernel
theorem dX7_policyOr_2 : decode cX7_policyOr 2 = .ok (.iload_n 1, 1) := by decide +kernel
theorem dX7_policyOr_3 : decode cX7_policyOr 3 = .ok (.invokevirtual 138, 3) := by decide +kernel
theorem dX7_policyOr_6 : decode cX7_policyOr 6 = .ok (.invokevirtual 168, 3) := by decide +kernel
theorem dX7_policyOr_9 : decode cX7_policyOr 9 = .ok (.istore_n 2, 1) := by decide +kernel
theorem dX7_policyOr_10 : decode cX7_policyOr 10 = .ok (.aload_n 0, 1) := by decide +kernel
theorem dX7_policyOr_11 : decode cX7_policyOr 11 = .ok (.getfield 30, 3) := by decide +kernel
theorem dX7_policyOr_14 : decode cX7_policyOr 14 = .ok (.iconst 0, 1) := by decide +kernel
theorem dX7_policyOr_15 : decode cX7_policyOr 15 = .ok (.putfield 89, 3) := by decide +kernel
theorem dX7_policyOr_18 : decode cX7_policyOr 18 = .ok (.iload_n 2, 1) := by decide +kernel
theorem dX7_policyOr_19 : decode cX7_policyOr 19 = .ok (.ireturn, 1) := by decide +kernel
theorem dX7_digest_0 : decode cX7_digest 0 = .ok (.aload_n 0, 1) := by decide +kernel
theorem dX7_digest_1 : decode cX7_digest 1 = .ok (.iload_n 1, 1) := by decide +kernel
theorem dX7_digest_2 : decode cX7_digest 2 = .ok (.invokevirtual 138, 3) := by decide +kernel
theorem dX7_digest_5 : decode cX7_digest 5 = .ok (.astore_n 2, 1) := by decide +kernel
theorem dX7_digest_6 : decode cX7_digest 6 = .ok (.aload_n 2, 1) := by decide +kernel
theorem dX7_digest_7 : decode cX7_digest 7 = .ok (.ifnonnull 5, 3) := by decide +kernel
theorem dX7_digest_10 : decode cX7_digest 10 = .ok (.iconst (-1), 1) := by decide +kernel
theorem dX7_digest_11 : decode cX7_digest 11 = .ok (.ireturn, 1) := by decide +kernel
theorem dX7_digest_12 : decode cX7_digest 12 = .ok (.aload_n 0, 1) := by decide +kernel
theorem dX7_digest_13 : decode cX7_digest 13 = .ok (.aload_n 2, 1) := by decide +kernel
theorem dX7_digest_14 : decode cX7_digest 14 = .ok (.getfield 146, 3) := by decide +kernel
theorem dX7_digest_17 : decode cX7_digest 17 = .ok (.bipush 32, 2) := by decide +kernel
theorem dX7_digest_19 : decode cX7_digest 19 = .ok (.invokevirtual 103, 3) := by decide +kernel
theorem dX7_digest_22 : decode cX7_digest 22 = .ok (.ireturn, 1) := by decide +kernel
theorem dX7_seal_0 : decode cX7_seal 0 = .ok (.aload_n 0, 1) := by decide +kernel
theorem dX7_seal_1 : decode cX7_seal 1 = .ok (.iload_n 1, 1) := by decide +kernel
theorem dX7_seal_2 : decode cX7_seal 2 = .ok (.invokevirtual 172, 3) := by decide +kernel
theorem dX7_seal_5 : decode cX7_seal 5 = .ok (.astore_n 2, 1) := by decide +kernel
theorem dX7_seal_6 : decode cX7_seal 6 = .ok (.iconst (-1), 1) := by decide +kernel
theorem dX7_seal_7 : decode cX7_seal 7 = .ok (.istore_n 3, 1) := by decide +kernel
theorem dX7_seal_8 : decode cX7_seal 8 = .ok (.aload_n 2, 1) := by decide +kernel
theorem dX7_seal_9 : decode cX7_seal 9 = .ok (.ifnull 44, 3) := by decide +kernel
theorem dX7_seal_12 : decode cX7_seal 12 = .ok (.aload_n 0, 1) := by decide +kernel
theorem dX7_seal_13 : decode cX7_seal 13 = .ok (.getfield 30, 3) := by decide +kernel
theorem dX7_seal_16 : decode cX7_seal 16 = .ok (.getfield 89, 3) := by decide +kernel
theorem dX7_seal_19 : decode cX7_seal 19 = .ok (.sipush 128, 3) := by decide +kernel
theorem dX7_seal_22 : decode cX7_seal 22 = .ok (.if_icmp .gt 31, 3) := by decide +kernel
theorem dX7_seal_25 : decode cX7_seal 25 = .ok (.aload_n 0, 1) := by decide +kernel
theorem dX7_seal_26 : decode cX7_seal 26 = .ok (.getfield 21, 3) := by decide +kernel
theorem dX7_seal_29 : decode cX7_seal 29 = .ok (.aload_n 0, 1) := by decide +kernel
theorem dX7_seal_30 : decode cX7_seal 30 = .ok (.getfield 30, 3) := by decide +kernel
theorem dX7_seal_33 : decode cX7_seal 33 = .ok (.aload_n 0, 1) := by decide +kernel
theorem dX7_seal_34 : decode cX7_seal 34 = .ok (.getfield 37, 3) := by decide +kernel
theorem dX7_seal_37 : decode cX7_seal 37 = .ok (.aload_n 2, 1) := by decide +kernel
theorem dX7_seal_38 : decode cX7_seal 38 = .ok (.aload_n 0, 1) := by decide +kernel
theorem dX7_seal_39 : decode cX7_seal 39 = .ok (.getfield 34, 3) := by decide +kernel
theorem dX7_seal_42 : decode cX7_seal 42 = .ok (.invokevirtual 176, 3) := by decide +kernel
theorem dX7_seal_45 : decode cX7_seal 45 = .ok (.aload_n 0, 1) := by decide +kernel
theorem dX7_seal_46 : decode cX7_seal 46 = .ok (.getfield 34, 3) := by decide +kernel
theorem dX7_seal_49 : decode cX7_seal 49 = .ok (.getfield 89, 3) := by decide +kernel
theorem dX7_seal_52 : decode cX7_seal 52 = .ok (.istore_n 3, 1) := by decide +kernel
theorem dX7_seal_53 : decode cX7_seal 53 = .ok (.aload_n 0, 1) := by decide +kernel
theorem dX7_seal_54 : decode cX7_seal 54 = .ok (.getfield 30, 3) := by decide +kernel
theorem dX7_seal_57 : decode cX7_seal 57 = .ok (.iconst 0, 1) := by decide +kernel
theorem dX7_seal_58 : decode cX7_seal 58 = .ok (.putfield 89, 3) := by decide +kernel
theorem dX7_seal_61 : decode cX7_seal 61 = .ok (.iload_n 3, 1) := by decide +kernel
theorem dX7_seal_62 : decode cX7_seal 62 = .ok (.ireturn, 1) := by decide +kernel
theorem dX7_load_0 : decode cX7_load 0 = .ok (.bipush (-6), 2) := by decide +kernel
theorem dX7_load_2 : decode cX7_load 2 = .ok (.istore_n 1, 1) := by decide +kernel
theorem dX7_load_3 : decode cX7_load 3 = .ok (.aload_n 0, 1) := by decide +kernel
theorem dX7_load_4 : decode cX7_load 4 = .ok (.getfield 21, 3) := by decide +kernel
theorem dX7_load_7 : decode cX7_load 7 = .ok (.aload_n 0, 1) := by decide +kernel
theorem dX7_load_8 : decode cX7_load 8 = .ok (.getfield 30, 3) := by decide +kernel
theorem dX7_load_11 : decode cX7_load 11 = .ok (.invokevirtual 180, 3) := by decide +kernel
theorem dX7_load_14 : decode cX7_load 14 = .ok (.ifCond .eq 8, 3) := by decide +kernel
theorem dX7_load_17 : decode cX7_load 17 = .ok (.aload_n 0, 1) := by decide +kernel
theorem dX7_load_18 : decode cX7_load 18 = .ok (.invokevirtual 184, 3) := by decide +kernel
theorem dX7_load_21 : decode cX7_load 21 = .ok (.istore_n 1, 1) := by decide +kernel
theorem dX7_load_22 : decode cX7_load 22 = .ok (.aload_n 0, 1) := by decide +kernel
theorem dX7_load_23 : decode cX7_load 23 = .ok (.getfield 30, 3) := by decide +kernel
theorem dX7_load_26 : decode cX7_load 26 = .ok (.iconst 0, 1) := by decide +kernel
theorem dX7_load_27 : decode cX7_load 27 = .ok (.putfield 89, 3) := by decide +kernel
theorem dX7_load_30 : decode cX7_load 30 = .ok (.iload_n 1, 1) := by decide +kernel
theorem dX7_load_31 : decode cX7_load 31 = .ok (.ireturn, 1) := by decide +kernel
theorem dX7_unseal_0 : decode cX7_unseal 0 = .ok (.aload_n 0, 1) := by decide +kernel
theorem dX7_unseal_1 : decode cX7_unseal 1 = .ok (.iload_n 1, 1) := by decide +kernel
theorem dX7_unseal_2 : decode cX7_unseal 2 = .ok (.invokevirtual 188, 3) := by decide +kernel
theorem dX7_unseal_5 : decode cX7_unseal 5 = .ok (.astore_n 3, 1) := by decide +kernel
theorem dX7_unseal_6 : decode cX7_unseal 6 = .ok (.aload_n 3, 1) := by decide +kernel
theorem dX7_unseal_7 : decode cX7_unseal 7 = .ok (.ifnonnull 6, 3) := by decide +kernel
theorem dX7_unseal_10 : decode cX7_unseal 10 = .ok (.bipush (-2), 2) := by decide +kernel
theorem dX7_unseal_12 : decode cX7_unseal 12 = .ok (.ireturn, 1) := by decide +kernel
theorem dX7_unseal_13 : decode cX7_unseal 13 = .ok (.aload_n 0, 1) := by decide +kernel
theorem dX7_unseal_14 : decode cX7_unseal 14 = .ok (.aload_n 3, 1) := by decide +kernel
theorem dX7_unseal_15 : decode cX7_unseal 15 = .ok (.iload_n 2, 1) := by decide +kernel
theorem dX7_unseal_16 : decode cX7_unseal 16 = .ok (.iconst 1, 1) := by decide +kernel
theorem dX7_unseal_17 : decode cX7_unseal 17 = .ok (.invokevirtual 192, 3) := by decide +kernel
theorem dX7_unseal_20 : decode cX7_unseal 20 = .ok (.istore 4, 2) := by decide +kernel
theorem dX7_unseal_22 : decode cX7_unseal 22 = .ok (.iload 4, 2) := by decide +kernel
theorem dX7_unseal_24 : decode cX7_unseal 24 = .ok (.ifCond .eq 6, 3) := by decide +kernel
theorem dX7_unseal_27 : decode cX7_unseal 27 = .ok (.iload 4, 2) := by decide +kernel
theorem dX7_unseal_29 : decode cX7_unseal 29 = .ok (.ireturn, 1) := by decide +kernel
theorem dX7_unseal_30 : decode cX7_unseal 30 = .ok (.aload_n 0, 1) := by decide +kernel
theorem dX7_unseal_31 : decode cX7_unseal 31 = .ok (.aload_n 3, 1) := by decide +kernel
theorem dX7_unseal_32 : decode cX7_unseal 32 = .ok (.getfield 196, 3) := by decide +kernel
theorem dX7_unseal_35 : decode cX7_unseal 35 = .ok (.getfield 93, 3) := by decide +kernel
theorem dX7_unseal_38 : decode cX7_unseal 38 = .ok (.aload_n 3, 1) := by decide +kernel
theorem dX7_unseal_39 : decode cX7_unseal 39 = .ok (.getfield 196, 3) := by decide +kernel
theorem dX7_unseal_42 : decode cX7_unseal 42 = .ok (.getfield 89, 3) := by decide +kernel
theorem dX7_unseal_45 : decode cX7_unseal 45 = .ok (.invokevirtual 103, 3) := by decide +kernel
theorem dX7_unseal_48 : decode cX7_unseal 48 = .ok (.ireturn, 1) := by decide +kernel
theorem dX7_flush_0 : decode cX7_flush 0 = .ok (.aload_n 0, 1) := by decide +kernel
theorem dX7_flush_1 : decode cX7_flush 1 = .ok (.iload_n 1, 1) := by decide +kernel
theorem dX7_flush_2 : decode cX7_flush 2 = .ok (.invokevirtual 188, 3) := by decide +kernel
theorem dX7_flush_5 : decode cX7_flush 5 = .ok (.astore_n 2, 1) := by decide +kernel
theorem dX7_flush_6 : decode cX7_flush 6 = .ok (.aload_n 2, 1) := by decide +kernel
theorem dX7_flush_7 : decode cX7_flush 7 = .ok (.ifnonnull 6, 3) := by decide +kernel
theorem dX7_flush_10 : decode cX7_flush 10 = .ok (.bipush (-2), 2) := by decide +kernel
theorem dX7_flush_12 : decode cX7_flush 12 = .ok (.ireturn, 1) := by decide +kernel
theorem dX7_flush_13 : decode cX7_flush 13 = .ok (.aload_n 2, 1) := by decide +kernel
theorem dX7_flush_14 : decode cX7_flush 14 = .ok (.iconst 0, 1) := by decide +kernel
theorem dX7_flush_15 : decode cX7_flush 15 = .ok (.putfield 199, 3) := by decide +kernel
theorem dX7_flush_18 : decode cX7_flush 18 = .ok (.iconst 0, 1) := by decide +kernel
theorem dX7_flush_19 : decode cX7_flush 19 = .ok (.ireturn, 1) := by decide +kernel
theorem dX7_define_0 : decode cX7_define 0 = .ok (.aload_n 0, 1) := by decide +kernel
theorem dX7_define_1 : decode cX7_define 1 = .ok (.invokevirtual 100, 3) := by decide +kernel
theorem dX7_define_4 : decode cX7_define 4 = .ok (.aload_n 0, 1) := by decide +kernel
theorem dX7_define_5 : decode cX7_define 5 = .ok (.iload 4, 2) := by decide +kernel
theorem dX7_define_7 : decode cX7_define 7 = .ok (.invokevirtual 172, 3) := by decide +kernel
theorem dX7_define_10 : decode cX7_define 10 = .ok (.astore 5, 2) := by decide +kernel
theorem dX7_define_12 : decode cX7_define 12 = .ok (.aload 5, 2) := by decide +kernel
theorem dX7_define_14 : decode cX7_define 14 = .ok (.ifnull 21, 3) := by decide +kernel
theorem dX7_define_17 : decode cX7_define 17 = .ok (.iload_n 1, 1) := by decide +kernel
theorem dX7_define_18 : decode cX7_define 18 = .ok (.ifCond .lt 17, 3) := by decide +kernel
theorem dX7_define_21 : decode cX7_define 21 = .ok (.iload_n 1, 1) := by decide +kernel
theorem dX7_define_22 : decode cX7_define 22 = .ok (.bipush 8, 2) := by decide +kernel
theorem dX7_define_24 : decode cX7_define 24 = .ok (.if_icmp .ge 11, 3) := by decide +kernel
theorem dX7_define_27 : decode cX7_define 27 = .ok (.iload_n 2, 1) := by decide +kernel
theorem dX7_define_28 : decode cX7_define 28 = .ok (.iload_n 3, 1) := by decide +kernel
theorem dX7_define_29 : decode cX7_define 29 = .ok (.invokestatic 202, 3) := by decide +kernel
theorem dX7_define_32 : decode cX7_define 32 = .ok (.ifCond .ne 5, 3) := by decide +kernel
theorem dX7_define_35 : decode cX7_define 35 = .ok (.iconst (-1), 1) := by decide +kernel
theorem dX7_define_36 : decode cX7_define 36 = .ok (.ireturn, 1) := by decide +kernel
theorem dX7_define_37 : decode cX7_define 37 = .ok (.aload_n 0, 1) := by decide +kernel
theorem dX7_define_38 : decode cX7_define 38 = .ok (.getfield 73, 3) := by decide +kernel
theorem dX7_define_41 : decode cX7_define 41 = .ok (.iload_n 1, 1) := by decide +kernel
theorem dX7_define_42 : decode cX7_define 42 = .ok (.aaload, 1) := by decide +kernel
theorem dX7_define_43 : decode cX7_define 43 = .ok (.getfield 206, 3) := by decide +kernel
theorem dX7_define_46 : decode cX7_define 46 = .ok (.getfield 199, 3) := by decide +kernel
theorem dX7_define_49 : decode cX7_define 49 = .ok (.ifCond .eq 6, 3) := by decide +kernel
theorem dX7_define_52 : decode cX7_define 52 = .ok (.bipush (-2), 2) := by decide +kernel
theorem dX7_define_54 : decode cX7_define 54 = .ok (.ireturn, 1) := by decide +kernel
theorem dX7_define_55 : decode cX7_define 55 = .ok (.aload_n 0, 1) := by decide +kernel
theorem dX7_define_56 : decode cX7_define 56 = .ok (.aload_n 0, 1) := by decide +kernel
theorem dX7_define_57 : decode cX7_define 57 = .ok (.getfield 41, 3) := by decide +kernel
theorem dX7_define_60 : decode cX7_define 60 = .ok (.invokevirtual 210, 3) := by decide +kernel
theorem dX7_define_63 : decode cX7_define 63 = .ok (.istore 6, 2) := by decide +kernel
theorem dX7_define_65 : decode cX7_define 65 = .ok (.iload 6, 2) := by decide +kernel
theorem dX7_define_67 : decode cX7_define 67 = .ok (.ifCond .eq 6, 3) := by decide +kernel
theorem dX7_define_70 : decode cX7_define 70 = .ok (.iload 6, 2) := by decide +kernel
theorem dX7_define_72 : decode cX7_define 72 = .ok (.ireturn, 1) := by decide +kernel
theorem dX7_define_73 : decode cX7_define 73 = .ok (.aload_n 0, 1) := by decide +kernel
theorem dX7_define_74 : decode cX7_define 74 = .ok (.getfield 73, 3) := by decide +kernel
theorem dX7_define_77 : decode cX7_define 77 = .ok (.iload_n 1, 1) := by decide +kernel
theorem dX7_define_78 : decode cX7_define 78 = .ok (.aaload, 1) := by decide +kernel
theorem dX7_define_79 : decode cX7_define 79 = .ok (.iload_n 2, 1) := by decide +kernel
theorem dX7_define_80 : decode cX7_define 80 = .ok (.iload_n 3, 1) := by decide +kernel
theorem dX7_define_81 : decode cX7_define 81 = .ok (.invokevirtual 214, 3) := by decide +kernel
theorem dX7_define_84 : decode cX7_define 84 = .ok (.aload_n 0, 1) := by decide +kernel
theorem dX7_define_85 : decode cX7_define 85 = .ok (.getfield 47, 3) := by decide +kernel
theorem dX7_define_88 : decode cX7_define 88 = .ok (.aload_n 0, 1) := by decide +kernel
theorem dX7_define_89 : decode cX7_define 89 = .ok (.getfield 73, 3) := by decide +kernel
theorem dX7_define_92 : decode cX7_define 92 = .ok (.iload_n 1, 1) := by decide +kernel
theorem dX7_define_93 : decode cX7_define 93 = .ok (.aaload, 1) := by decide +kernel
theorem dX7_define_94 : decode cX7_define 94 = .ok (.getfield 206, 3) := by decide +kernel
theorem dX7_define_97 : decode cX7_define 97 = .ok (.getfield 217, 3) := by decide +kernel
theorem dX7_define_100 : decode cX7_define 100 = .ok (.invokestatic 107, 3) := by decide +kernel
theorem dX7_define_103 : decode cX7_define 103 = .ok (.aload 5, 2) := by decide +kernel
theorem dX7_define_105 : decode cX7_define 105 = .ok (.aload_n 0, 1) := by decide +kernel
theorem dX7_define_106 : decode cX7_define 106 = .ok (.getfield 73, 3) := by decide +kernel
theorem dX7_define_109 : decode cX7_define 109 = .ok (.iload_n 1, 1) := by decide +kernel
theorem dX7_define_110 : decode cX7_define 110 = .ok (.aaload, 1) := by decide +kernel
theorem dX7_define_111 : decode cX7_define 111 = .ok (.getfield 206, 3) := by decide +kernel
theorem dX7_define_114 : decode cX7_define 114 = .ok (.getfield 220, 3) := by decide +kernel
theorem dX7_define_117 : decode cX7_define 117 = .ok (.invokestatic 107, 3) := by decide +kernel
theorem dX7_define_120 : decode cX7_define 120 = .ok (.iconst 0, 1) := by decide +kernel
theorem dX7_define_121 : decode cX7_define 121 = .ok (.ireturn, 1) := by decide +kernel
theorem dX7_undefine_0 : decode cX7_undefine 0 = .ok (.aload_n 0, 1) := by decide +kernel
theorem dX7_undefine_1 : decode cX7_undefine 1 = .ok (.iload_n 1, 1) := by decide +kernel
theorem dX7_undefine_2 : decode cX7_undefine 2 = .ok (.invokevirtual 223, 3) := by decide +kernel
theorem dX7_undefine_5 : decode cX7_undefine 5 = .ok (.astore_n 2, 1) := by decide +kernel
theorem dX7_undefine_6 : decode cX7_undefine 6 = .ok (.aload_n 2, 1) := by decide +kernel
theorem dX7_undefine_7 : decode cX7_undefine 7 = .ok (.ifnonnull 6, 3) := by decide +kernel
theorem dX7_undefine_10 : decode cX7_undefine 10 = .ok (.bipush (-2), 2) := by decide +kernel
theorem dX7_undefine_12 : decode cX7_undefine 12 = .ok (.ireturn, 1) := by decide +kernel
theorem dX7_undefine_13 : decode cX7_undefine 13 = .ok (.aload_n 0, 1) := by decide +kernel
theorem dX7_undefine_14 : decode cX7_undefine 14 = .ok (.aload_n 0, 1) := by decide +kernel
theorem dX7_undefine_15 : decode cX7_undefine 15 = .ok (.getfield 41, 3) := by decide +kernel
theorem dX7_undefine_18 : decode cX7_undefine 18 = .ok (.invokevirtual 210, 3) := by decide +kernel
theorem dX7_undefine_21 : decode cX7_undefine 21 = .ok (.istore_n 3, 1) := by decide +kernel
theorem dX7_undefine_22 : decode cX7_undefine 22 = .ok (.iload_n 3, 1) := by decide +kernel
theorem dX7_undefine_23 : decode cX7_undefine 23 = .ok (.ifCond .eq 5, 3) := by decide +kernel
theorem dX7_undefine_26 : decode cX7_undefine 26 = .ok (.iload_n 3, 1) := by decide +kernel
theorem dX7_undefine_27 : decode cX7_undefine 27 = .ok (.ireturn, 1) := by decide +kernel
theorem dX7_undefine_28 : decode cX7_undefine 28 = .ok (.aload_n 2, 1) := by decide +kernel
theorem dX7_undefine_29 : decode cX7_undefine 29 = .ok (.getfield 206, 3) := by decide +kernel
theorem dX7_undefine_32 : decode cX7_undefine 32 = .ok (.iconst 0, 1) := by decide +kernel
theorem dX7_undefine_33 : decode cX7_undefine 33 = .ok (.putfield 199, 3) := by decide +kernel
theorem dX7_undefine_36 : decode cX7_undefine 36 = .ok (.iconst 0, 1) := by decide +kernel
theorem dX7_undefine_37 : decode cX7_undefine 37 = .ok (.ireturn, 1) := by decide +kernel
theorem dX7_write_0 : decode cX7_write 0 = .ok (.aload_n 0, 1) := by decide +kernel
theorem dX7_write_1 : decode cX7_write 1 = .ok (.aload_n 0, 1) := by decide +kernel
theorem dX7_write_2 : decode cX7_write 2 = .ok (.iload_n 1, 1) := by decide +kernel
theorem dX7_write_3 : decode cX7_write 3 = .ok (.iconst 0, 1) := by decide +kernel
theorem dX7_write_4 : decode cX7_write 4 = .ok (.invokevirtual 227, 3) := by decide +kernel
theorem dX7_write_7 : decode cX7_write 7 = .ok (.iload_n 2, 1) := by decide +kernel
theorem dX7_write_8 : decode cX7_write 8 = .ok (.iload_n 3, 1) := by decide +kernel
theorem dX7_write_9 : decode cX7_write 9 = .ok (.invokevirtual 231, 3) := by decide +kernel
theorem dX7_write_12 : decode cX7_write 12 = .ok (.istore 4, 2) := by decide +kernel
theorem dX7_write_14 : decode cX7_write 14 = .ok (.aload_n 0, 1) := by decide +kernel
theorem dX7_write_15 : decode cX7_write 15 = .ok (.getfield 30, 3) := by decide +kernel
theorem dX7_write_18 : decode cX7_write 18 = .ok (.iconst 0, 1) := by decide +kernel
theorem dX7_write_19 : decode cX7_write 19 = .ok (.putfield 89, 3) := by decide +kernel
theorem dX7_write_22 : decode cX7_write 22 = .ok (.iload 4, 2) := by decide +kernel
theorem dX7_write_24 : decode cX7_write 24 = .ok (.ireturn, 1) := by decide +kernel
theorem dX7_count_0 : decode cX7_count 0 = .ok (.aload_n 0, 1) := by decide +kernel
theorem dX7_count_1 : decode cX7_count 1 = .ok (.iload_n 1, 1) := by decide +kernel
theorem dX7_count_2 : decode cX7_count 2 = .ok (.iconst 1, 1) := by decide +kernel
theorem dX7_count_3 : decode cX7_count 3 = .ok (.invokevirtual 227, 3) := by decide +kernel
theorem dX7_count_6 : decode cX7_count 6 = .ok (.astore_n 3, 1) := by decide +kernel
theorem dX7_count_7 : decode cX7_count 7 = .ok (.aload_n 3, 1) := by decide +kernel
theorem dX7_count_8 : decode cX7_count 8 = .ok (.ifnonnull 6, 3) := by decide +kernel
theorem dX7_count_11 : decode cX7_count 11 = .ok (.bipush (-2), 2) := by decide +kernel
theorem dX7_count_13 : decode cX7_count 13 = .ok (.ireturn, 1) := by decide +kernel
theorem dX7_count_14 : decode cX7_count 14 = .ok (.aload_n 0, 1) := by decide +kernel
theorem dX7_count_15 : decode cX7_count 15 = .ok (.aload_n 3, 1) := by decide +kernel
theorem dX7_count_16 : decode cX7_count 16 = .ok (.iload_n 2, 1) := by decide +kernel
theorem dX7_count_17 : decode cX7_count 17 = .ok (.iconst 3, 1) := by decide +kernel
theorem dX7_count_18 : decode cX7_count 18 = .ok (.invokevirtual 235, 3) := by decide +kernel
theorem dX7_count_21 : decode cX7_count 21 = .ok (.istore 4, 2) := by decide +kernel
theorem dX7_count_23 : decode cX7_count 23 = .ok (.iload 4, 2) := by decide +kernel
theorem dX7_count_25 : decode cX7_count 25 = .ok (.ifCond .eq 6, 3) := by decide +kernel
theorem dX7_count_28 : decode cX7_count 28 = .ok (.iload 4, 2) := by decide +kernel
theorem dX7_count_30 : decode cX7_count 30 = .ok (.ireturn, 1) := by decide +kernel
theorem dX7_count_31 : decode cX7_count 31 = .ok (.aload_n 3, 1) := by decide +kernel
theorem dX7_count_32 : decode cX7_count 32 = .ok (.aload_n 3, 1) := by decide +kernel
theorem dX7_count_33 : decode cX7_count 33 = .ok (.getfield 238, 3) := by decide +kernel
theorem dX7_count_36 : decode cX7_count 36 = .ok (.ifCond .eq 10, 3) := by decide +kernel
theorem dX7_count_39 : decode cX7_count 39 = .ok (.aload_n 3, 1) := by decide +kernel
theorem dX7_count_40 : decode cX7_count 40 = .ok (.getfield 241, 3) := by decide +kernel
theorem dX7_count_43 : decode cX7_count 43 = .ok (.goto 7, 3) := by decide +kernel
theorem dX7_count_46 : decode cX7_count 46 = .ok (.aload_n 0, 1) := by decide +kernel
theorem dX7_count_47 : decode cX7_count 47 = .ok (.getfield 245, 3) := by decide +kernel
theorem dX7_count_50 : decode cX7_count 50 = .ok (.lconst 1, 1) := by decide +kernel
theorem dX7_count_51 : decode cX7_count 51 = .ok (.ladd, 1) := by decide +kernel
theorem dX7_count_52 : decode cX7_count 52 = .ok (.putfield 241, 3) := by decide +kernel
theorem dX7_count_55 : decode cX7_count 55 = .ok (.aload_n 3, 1) := by decide +kernel
theorem dX7_count_56 : decode cX7_count 56 = .ok (.iconst 1, 1) := by decide +kernel
theorem dX7_count_57 : decode cX7_count 57 = .ok (.putfield 238, 3) := by decide +kernel
theorem dX7_count_60 : decode cX7_count 60 = .ok (.aload_n 3, 1) := by decide +kernel
theorem dX7_count_61 : decode cX7_count 61 = .ok (.invokevirtual 248, 3) := by decide +kernel
theorem dX7_count_64 : decode cX7_count 64 = .ok (.aload_n 0, 1) := by decide +kernel
theorem dX7_count_65 : decode cX7_count 65 = .ok (.aload_n 0, 1) := by decide +kernel
theorem dX7_count_66 : decode cX7_count 66 = .ok (.getfield 245, 3) := by decide +kernel
theorem dX7_count_69 : decode cX7_count 69 = .ok (.aload_n 3, 1) := by decide +kernel
theorem dX7_count_70 : decode cX7_count 70 = .ok (.getfield 241, 3) := by decide +kernel
theorem dX7_count_73 : decode cX7_count 73 = .ok (.invokestatic 251, 3) := by decide +kernel
theorem dX7_count_76 : decode cX7_count 76 = .ok (.putfield 245, 3) := by decide +kernel
theorem dX7_count_79 : decode cX7_count 79 = .ok (.aload_n 3, 1) := by decide +kernel
theorem dX7_count_80 : decode cX7_count 80 = .ok (.getfield 241, 3) := by decide +kernel
theorem dX7_count_83 : decode cX7_count 83 = .ok (.ldc2_w 257, 3) := by decide +kernel
theorem dX7_count_86 : decode cX7_count 86 = .ok (.land, 1) := by decide +kernel
theorem dX7_count_87 : decode cX7_count 87 = .ok (.l2i, 1) := by decide +kernel
theorem dX7_count_88 : decode cX7_count 88 = .ok (.ireturn, 1) := by decide +kernel
theorem dX7_chain_0 : decode cX7_chain 0 = .ok (.aload_n 0, 1) := by decide +kernel
theorem dX7_chain_1 : decode cX7_chain 1 = .ok (.aload_n 0, 1) := by decide +kernel
theorem dX7_chain_2 : decode cX7_chain 2 = .ok (.iload_n 1, 1) := by decide +kernel
theorem dX7_chain_3 : decode cX7_chain 3 = .ok (.iconst 2, 1) := by decide +kernel
theorem dX7_chain_4 : decode cX7_chain 4 = .ok (.invokevirtual 227, 3) := by decide +kernel
theorem dX7_chain_7 : decode cX7_chain 7 = .ok (.iload_n 2, 1) := by decide +kernel
theorem dX7_chain_8 : decode cX7_chain 8 = .ok (.invokevirtual 259, 3) := by decide +kernel
theorem dX7_chain_11 : decode cX7_chain 11 = .ok (.istore_n 3, 1) := by decide +kernel
theorem dX7_chain_12 : decode cX7_chain 12 = .ok (.aload_n 0, 1) := by decide +kernel
theorem dX7_chain_13 : decode cX7_chain 13 = .ok (.getfield 30, 3) := by decide +kernel
theorem dX7_chain_16 : decode cX7_chain 16 = .ok (.iconst 0, 1) := by decide +kernel
theorem dX7_chain_17 : decode cX7_chain 17 = .ok (.putfield 89, 3) := by decide +kernel
theorem dX7_chain_20 : decode cX7_chain 20 = .ok (.iload_n 3, 1) := by decide +kernel
theorem dX7_chain_21 : decode cX7_chain 21 = .ok (.ireturn, 1) := by decide +kernel
theorem dX7_read_0 : decode cX7_read 0 = .ok (.aload_n 0, 1) := by decide +kernel
theorem dX7_read_1 : decode cX7_read 1 = .ok (.iload_n 1, 1) := by decide +kernel
theorem dX7_read_2 : decode cX7_read 2 = .ok (.invokevirtual 223, 3) := by decide +kernel
theorem dX7_read_5 : decode cX7_read 5 = .ok (.astore_n 3, 1) := by decide +kernel
theorem dX7_read_6 : decode cX7_read 6 = .ok (.aload_n 3, 1) := by decide +kernel
theorem dX7_read_7 : decode cX7_read 7 = .ok (.ifnonnull 6, 3) := by decide +kernel
theorem dX7_read_10 : decode cX7_read 10 = .ok (.bipush (-2), 2) := by decide +kernel
theorem dX7_read_12 : decode cX7_read 12 = .ok (.ireturn, 1) := by decide +kernel
theorem dX7_read_13 : decode cX7_read 13 = .ok (.aload_n 3, 1) := by decide +kernel
theorem dX7_read_14 : decode cX7_read 14 = .ok (.getfield 238, 3) := by decide +kernel
theorem dX7_read_17 : decode cX7_read 17 = .ok (.ifCond .ne 6, 3) := by decide +kernel
theorem dX7_read_20 : decode cX7_read 20 = .ok (.bipush (-3), 2) := by decide +kernel
theorem dX7_read_22 : decode cX7_read 22 = .ok (.ireturn, 1) := by decide +kernel
theorem dX7_read_23 : decode cX7_read 23 = .ok (.aload_n 0, 1) := by decide +kernel
theorem dX7_read_24 : decode cX7_read 24 = .ok (.aload_n 3, 1) := by decide +kernel
theorem dX7_read_25 : decode cX7_read 25 = .ok (.getfield 206, 3) := by decide +kernel
theorem dX7_read_28 : decode cX7_read 28 = .ok (.iload_n 2, 1) := by decide +kernel
theorem dX7_read_29 : decode cX7_read 29 = .ok (.iconst 5, 1) := by decide +kernel
theorem dX7_read_30 : decode cX7_read 30 = .ok (.invokevirtual 192, 3) := by decide +kernel
theorem dX7_read_33 : decode cX7_read 33 = .ok (.istore 4, 2) := by decide +kernel
theorem dX7_read_35 : decode cX7_read 35 = .ok (.iload 4, 2) := by decide +kernel
theorem dX7_read_37 : decode cX7_read 37 = .ok (.ifCond .eq 6, 3) := by decide +kernel
theorem dX7_read_40 : decode cX7_read 40 = .ok (.iload 4, 2) := by decide +kernel
theorem dX7_read_42 : decode cX7_read 42 = .ok (.ireturn, 1) := by decide +kernel
theorem dX7_read_43 : decode cX7_read 43 = .ok (.aload_n 0, 1) := by decide +kernel
theorem dX7_read_44 : decode cX7_read 44 = .ok (.aload_n 3, 1) := by decide +kernel
theorem dX7_read_45 : decode cX7_read 45 = .ok (.getfield 206, 3) := by decide +kernel
theorem dX7_read_48 : decode cX7_read 48 = .ok (.getfield 196, 3) := by decide +kernel
theorem dX7_read_51 : decode cX7_read 51 = .ok (.getfield 93, 3) := by decide +kernel
theorem dX7_read_54 : decode cX7_read 54 = .ok (.aload_n 3, 1) := by decide +kernel
theorem dX7_read_55 : decode cX7_read 55 = .ok (.getfield 206, 3) := by decide +kernel
theorem dX7_read_58 : decode cX7_read 58 = .ok (.getfield 196, 3) := by decide +kernel
theorem dX7_read_61 : decode cX7_read 61 = .ok (.getfield 89, 3) := by decide +kernel
theorem dX7_read_64 : decode cX7_read 64 = .ok (.invokevirtual 103, 3) := by decide +kernel
theorem dX7_read_67 : decode cX7_read 67 = .ok (.ireturn, 1) := by decide +kernel
theorem dX7_shut_0 : decode cX7_shut 0 = .ok (.aload_n 0, 1) := by decide +kernel
theorem dX7_shut_1 : decode cX7_shut 1 = .ok (.iload_n 1, 1) := by decide +kernel
theorem dX7_shut_2 : decode cX7_shut 2 = .ok (.invokevirtual 223, 3) := by decide +kernel
theorem dX7_shut_5 : decode cX7_shut 5 = .ok (.astore_n 3, 1) := by decide +kernel
theorem dX7_shut_6 : decode cX7_shut 6 = .ok (.aload_n 3, 1) := by decide +kernel
theorem dX7_shut_7 : decode cX7_shut 7 = .ok (.ifnonnull 6, 3) := by decide +kernel
theorem dX7_shut_10 : decode cX7_shut 10 = .ok (.bipush (-2), 2) := by decide +kernel
theorem dX7_shut_12 : decode cX7_shut 12 = .ok (.ireturn, 1) := by decide +kernel
theorem dX7_shut_13 : decode cX7_shut 13 = .ok (.aload_n 0, 1) := by decide +kernel
theorem dX7_shut_14 : decode cX7_shut 14 = .ok (.aload_n 3, 1) := by decide +kernel
theorem dX7_shut_15 : decode cX7_shut 15 = .ok (.getfield 206, 3) := by decide +kernel
theorem dX7_shut_18 : decode cX7_shut 18 = .ok (.iload_n 2, 1) := by decide +kernel
theorem dX7_shut_19 : decode cX7_shut 19 = .ok (.bipush 6, 2) := by decide +kernel
theorem dX7_shut_21 : decode cX7_shut 21 = .ok (.invokevirtual 192, 3) := by decide +kernel
theorem dX7_shut_24 : decode cX7_shut 24 = .ok (.istore 4, 2) := by decide +kernel
theorem dX7_shut_26 : decode cX7_shut 26 = .ok (.iload 4, 2) := by decide +kernel
theorem dX7_shut_28 : decode cX7_shut 28 = .ok (.ifCond .eq 6, 3) := by decide +kernel
theorem dX7_shut_31 : decode cX7_shut 31 = .ok (.iload 4, 2) := by decide +kernel
theorem dX7_shut_33 : decode cX7_shut 33 = .ok (.ireturn, 1) := by decide +kernel
theorem dX7_shut_34 : decode cX7_shut 34 = .ok (.aload_n 3, 1) := by decide +kernel
theorem dX7_shut_35 : decode cX7_shut 35 = .ok (.iconst 1, 1) := by decide +kernel
theorem dX7_shut_36 : decode cX7_shut 36 = .ok (.putfield 263, 3) := by decide +kernel
theorem dX7_shut_39 : decode cX7_shut 39 = .ok (.iconst 0, 1) := by decide +kernel
theorem dX7_shut_40 : decode cX7_shut 40 = .ok (.ireturn, 1) := by decide +kernel
theorem dX7_own_0 : decode cX7_own 0 = .ok (.aload_n 0, 1) := by decide +kernel
theorem dX7_own_1 : decode cX7_own 1 = .ok (.invokevirtual 100, 3) := by decide +kernel
theorem dX7_own_4 : decode cX7_own 4 = .ok (.aload_n 0, 1) := by decide +kernel
theorem dX7_own_5 : decode cX7_own 5 = .ok (.aload_n 0, 1) := by decide +kernel
theorem dX7_own_6 : decode cX7_own 6 = .ok (.getfield 41, 3) := by decide +kernel
theorem dX7_own_9 : decode cX7_own 9 = .ok (.invokevirtual 210, 3) := by decide +kernel
theorem dX7_own_12 : decode cX7_own 12 = .ok (.istore_n 1, 1) := by decide +kernel
theorem dX7_own_13 : decode cX7_own 13 = .ok (.iload_n 1, 1) := by decide +kernel
theorem dX7_own_14 : decode cX7_own 14 = .ok (.ifCond .eq 5, 3) := by decide +kernel
theorem dX7_own_17 : decode cX7_own 17 = .ok (.iload_n 1, 1) := by decide +kernel
theorem dX7_own_18 : decode cX7_own 18 = .ok (.ireturn, 1) := by decide +kernel
theorem dX7_own_19 : decode cX7_own 19 = .ok (.aload_n 0, 1) := by decide +kernel
theorem dX7_own_20 : decode cX7_own 20 = .ok (.getfield 47, 3) := by decide +kernel
theorem dX7_own_23 : decode cX7_own 23 = .ok (.aload_n 0, 1) := by decide +kernel
theorem dX7_own_24 : decode cX7_own 24 = .ok (.getfield 41, 3) := by decide +kernel
theorem dX7_own_27 : decode cX7_own 27 = .ok (.invokestatic 107, 3) := by decide +kernel
theorem dX7_own_30 : decode cX7_own 30 = .ok (.iconst 0, 1) := by decide +kernel
theorem dX7_own_31 : decode cX7_own 31 = .ok (.ireturn, 1) := by decide +kernel
theorem dX7_unlock_0 : decode cX7_unlock 0 = .ok (.aload_n 0, 1) := by decide +kernel
theorem dX7_unlock_1 : decode cX7_unlock 1 = .ok (.getfield 37, 3) := by decide +kernel
theorem dX7_unlock_4 : decode cX7_unlock 4 = .ok (.aload_n 0, 1) := by decide +kernel
theorem dX7_unlock_5 : decode cX7_unlock 5 = .ok (.getfield 41, 3) := by decide +kernel
theorem dX7_unlock_8 : decode cX7_unlock 8 = .ok (.invokestatic 266, 3) := by decide +kernel
theorem dX7_unlock_11 : decode cX7_unlock 11 = .ok (.ifCond .ne 16, 3) := by decide +kernel
theorem dX7_unlock_14 : decode cX7_unlock 14 = .ok (.aload_n 0, 1) := by decide +kernel
theorem dX7_unlock_15 : decode cX7_unlock 15 = .ok (.dup, 1) := by decide +kernel
theorem dX7_unlock_16 : decode cX7_unlock 16 = .ok (.getfield 270, 3) := by decide +kernel
theorem dX7_unlock_19 : decode cX7_unlock 19 = .ok (.iconst 1, 1) := by decide +kernel
theorem dX7_unlock_20 : decode cX7_unlock 20 = .ok (.iadd, 1) := by decide +kernel
theorem dX7_unlock_21 : decode cX7_unlock 21 = .ok (.putfield 270, 3) := by decide +kernel
theorem dX7_unlock_24 : decode cX7_unlock 24 = .ok (.bipush (-4), 2) := by decide +kernel
theorem dX7_unlock_26 : decode cX7_unlock 26 = .ok (.ireturn, 1) := by decide +kernel
theorem dX7_unlock_27 : decode cX7_unlock 27 = .ok (.aload_n 0, 1) := by decide +kernel
theorem dX7_unlock_28 : decode cX7_unlock 28 = .ok (.iconst 0, 1) := by decide +kernel
theorem dX7_unlock_29 : decode cX7_unlock 29 = .ok (.putfield 270, 3) := by decide +kernel
theorem dX7_unlock_32 : decode cX7_unlock 32 = .ok (.iconst 0, 1) := by decide +kernel
theorem dX7_unlock_33 : decode cX7_unlock 33 = .ok (.ireturn, 1) := by decide +kernel
theorem dX7_clear_0 : decode cX7_clear 0 = .ok (.aload_n 0, 1) := by decide +kernel
theorem dX7_clear_1 : decode cX7_clear 1 = .ok (.aload_n 0, 1) := by decide +kernel
theorem dX7_clear_2 : decode cX7_clear 2 = .ok (.getfield 41, 3) := by decide +kernel
theorem dX7_clear_5 : decode cX7_clear 5 = .ok (.invokevirtual 210, 3) := by decide +kernel
theorem dX7_clear_8 : decode cX7_clear 8 = .ok (.istore_n 1, 1) := by decide +kernel
theorem dX7_clear_9 : decode cX7_clear 9 = .ok (.iload_n 1, 1) := by decide +kernel
theorem dX7_clear_10 : decode cX7_clear 10 = .ok (.ifCond .eq 5, 3) := by decide +kernel
theorem dX7_clear_13 : decode cX7_clear 13 = .ok (.iload_n 1, 1) := by decide +kernel
theorem dX7_clear_14 : decode cX7_clear 14 = .ok (.ireturn, 1) := by decide +kernel
theorem dX7_clear_15 : decode cX7_clear 15 = .ok (.aload_n 0, 1) := by decide +kernel
theorem dX7_clear_16 : decode cX7_clear 16 = .ok (.getfield 21, 3) := by decide +kernel
theorem dX7_clear_19 : decode cX7_clear 19 = .ok (.invokevirtual 273, 3) := by decide +kernel
theorem dX7_clear_22 : decode cX7_clear 22 = .ok (.iconst 0, 1) := by decide +kernel
theorem dX7_clear_23 : decode cX7_clear 23 = .ok (.istore_n 2, 1) := by decide +kernel
theorem dX7_clear_24 : decode cX7_clear 24 = .ok (.iload_n 2, 1) := by decide +kernel
theorem dX7_clear_25 : decode cX7_clear 25 = .ok (.bipush 8, 2) := by decide +kernel
theorem dX7_clear_27 : decode cX7_clear 27 = .ok (.if_icmp .ge 22, 3) := by decide +kernel
theorem dX7_clear_30 : decode cX7_clear 30 = .ok (.aload_n 0, 1) := by decide +kernel
theorem dX7_clear_31 : decode cX7_clear 31 = .ok (.getfield 73, 3) := by decide +kernel
theorem dX7_clear_34 : decode cX7_clear 34 = .ok (.iload_n 2, 1) := by decide +kernel
theorem dX7_clear_35 : decode cX7_clear 35 = .ok (.aaload, 1) := by decide +kernel
theorem dX7_clear_36 : decode cX7_clear 36 = .ok (.getfield 206, 3) := by decide +kernel
theorem dX7_clear_39 : decode cX7_clear 39 = .ok (.iconst 0, 1) := by decide +kernel
theorem dX7_clear_40 : decode cX7_clear 40 = .ok (.putfield 199, 3) := by decide +kernel
theorem dX7_clear_43 : decode cX7_clear 43 = .ok (.iinc 2 1, 3) := by decide +kernel
theorem dX7_clear_46 : decode cX7_clear 46 = .ok (.goto (-22), 3) := by decide +kernel
theorem dX7_clear_49 : decode cX7_clear 49 = .ok (.aload_n 0, 1) := by decide +kernel
theorem dX7_clear_50 : decode cX7_clear 50 = .ok (.invokevirtual 276, 3) := by decide +kernel
theorem dX7_clear_53 : decode cX7_clear 53 = .ok (.aload_n 0, 1) := by decide +kernel
theorem dX7_clear_54 : decode cX7_clear 54 = .ok (.aload_n 0, 1) := by decide +kernel
theorem dX7_clear_55 : decode cX7_clear 55 = .ok (.getfield 41, 3) := by decide +kernel
theorem dX7_clear_58 : decode cX7_clear 58 = .ok (.invokevirtual 78, 3) := by decide +kernel
theorem dX7_clear_61 : decode cX7_clear 61 = .ok (.iconst 0, 1) := by decide +kernel
theorem dX7_clear_62 : decode cX7_clear 62 = .ok (.ireturn, 1) := by decide +kernel
theorem dX7_tick_0 : decode cX7_tick 0 = .ok (.iload_n 1, 1) := by decide +kernel
theorem dX7_tick_1 : decode cX7_tick 1 = .ok (.ifCond .lt 22, 3) := by decide +kernel
theorem dX7_tick_4 : decode cX7_tick 4 = .ok (.iload_n 1, 1) := by decide +kernel
theorem dX7_tick_5 : decode cX7_tick 5 = .ok (.ldc_w 279, 3) := by decide +kernel
theorem dX7_tick_8 : decode cX7_tick 8 = .ok (.if_icmp .gt 15, 3) := by decide +kernel
theorem dX7_tick_11 : decode cX7_tick 11 = .ok (.iload_n 1, 1) := by decide +kernel
theorem dX7_tick_12 : decode cX7_tick 12 = .ok (.ldc_w 280, 3) := by decide +kernel
theorem dX7_tick_15 : decode cX7_tick 15 = .ok (.aload_n 0, 1) := by decide +kernel
theorem dX7_tick_16 : decode cX7_tick 16 = .ok (.getfield 125, 3) := by decide +kernel
theorem dX7_tick_19 : decode cX7_tick 19 = .ok (.isub, 1) := by decide +kernel
theorem dX7_tick_20 : decode cX7_tick 20 = .ok (.if_icmp .le 5, 3) := by decide +kernel
theorem dX7_tick_23 : decode cX7_tick 23 = .ok (.iconst (-1), 1) := by decide +kernel
theorem dX7_tick_24 : decode cX7_tick 24 = .ok (.ireturn, 1) := by decide +kernel
theorem dX7_tick_25 : decode cX7_tick 25 = .ok (.aload_n 0, 1) := by decide +kernel
theorem dX7_tick_26 : decode cX7_tick 26 = .ok (.getfield 125, 3) := by decide +kernel
theorem dX7_tick_29 : decode cX7_tick 29 = .ok (.iload_n 1, 1) := by decide +kernel
theorem dX7_tick_30 : decode cX7_tick 30 = .ok (.iadd, 1) := by decide +kernel
theorem dX7_tick_31 : decode cX7_tick 31 = .ok (.istore_n 2, 1) := by decide +kernel
theorem dX7_tick_32 : decode cX7_tick 32 = .ok (.iload_n 2, 1) := by decide +kernel
theorem dX7_tick_33 : decode cX7_tick 33 = .ok (.bipush 100, 2) := by decide +kernel
theorem dX7_tick_35 : decode cX7_tick 35 = .ok (.idiv, 1) := by decide +kernel
theorem dX7_tick_36 : decode cX7_tick 36 = .ok (.aload_n 0, 1) := by decide +kernel
theorem dX7_tick_37 : decode cX7_tick 37 = .ok (.getfield 125, 3) := by decide +kernel
theorem dX7_tick_40 : decode cX7_tick 40 = .ok (.bipush 100, 2) := by decide +kernel
theorem dX7_tick_42 : decode cX7_tick 42 = .ok (.idiv, 1) := by decide +kernel
theorem dX7_tick_43 : decode cX7_tick 43 = .ok (.isub, 1) := by decide +kernel
theorem dX7_tick_44 : decode cX7_tick 44 = .ok (.istore_n 3, 1) := by decide +kernel
theorem dX7_tick_45 : decode cX7_tick 45 = .ok (.aload_n 0, 1) := by decide +kernel
theorem dX7_tick_46 : decode cX7_tick 46 = .ok (.iconst 0, 1) := by decide +kernel
theorem dX7_tick_47 : decode cX7_tick 47 = .ok (.aload_n 0, 1) := by decide +kernel
theorem dX7_tick_48 : decode cX7_tick 48 = .ok (.getfield 270, 3) := by decide +kernel
theorem dX7_tick_51 : decode cX7_tick 51 = .ok (.iload_n 3, 1) := by decide +kernel
theorem dX7_tick_52 : decode cX7_tick 52 = .ok (.isub, 1) := by decide +kernel
theorem dX7_tick_53 : decode cX7_tick 53 = .ok (.invokestatic 281, 3) := by decide +kernel
theorem dX7_tick_56 : decode cX7_tick 56 = .ok (.putfield 270, 3) := by decide +kernel
theorem dX7_tick_59 : decode cX7_tick 59 = .ok (.aload_n 0, 1) := by decide +kernel
theorem dX7_tick_60 : decode cX7_tick 60 = .ok (.iload_n 2, 1) := by decide +kernel
theorem dX7_tick_61 : decode cX7_tick 61 = .ok (.putfield 125, 3) := by decide +kernel
theorem dX7_tick_64 : decode cX7_tick 64 = .ok (.aload_n 0, 1) := by decide +kernel
theorem dX7_tick_65 : decode cX7_tick 65 = .ok (.getfield 125, 3) := by decide +kernel
theorem dX7_tick_68 : decode cX7_tick 68 = .ok (.ireturn, 1) := by decide +kernel
