theorem dX8_policyState_0 : decode cX8_policyState 0 = .ok (.aload_n 0, 1) := by decide +kernel
theorem dX8_policyState_1 : decode cX8_policyState 1 = .ok (.iload_n 1, 1) := by decide +kernel
theorem dX8_policyState_2 : decode cX8_policyState 2 = .ok (.invokevirtual 182, 3) := by decide +kernel
theorem dX8_policyState_5 : decode cX8_policyState 5 = .ok (.ifCond .ne 5, 3) := by decide +kernel
theorem dX8_policyState_8 : decode cX8_policyState 8 = .ok (.iconst (-1), 1) := by decide +kernel
theorem dX8_policyState_9 : decode cX8_policyState 9 = .ok (.ireturn, 1) := by decide +kernel
theorem dX8_policyState_10 : decode cX8_policyState 10 = .ok (.aload_n 0, 1) := by decide +kernel
theorem dX8_policyState_11 : decode cX8_policyState 11 = .ok (.iload_n 2, 1) := by decide +kernel
theorem dX8_policyState_12 : decode cX8_policyState 12 = .ok (.aload_n 0, 1) := by decide +kernel
theorem dX8_policyState_13 : decode cX8_policyState 13 = .ok (.getfield 29, 3) := by decide +kernel
theorem dX8_policyState_16 : decode cX8_policyState 16 = .ok (.iconst 0, 1) := by decide +kernel
theorem dX8_policyState_17 : decode cX8_policyState 17 = .ok (.invokevirtual 156, 3) := by decide +kernel
theorem dX8_policyState_20 : decode cX8_policyState 20 = .ok (.aload_n 0, 1) := by decide +kernel
theorem dX8_policyState_21 : decode cX8_policyState 21 = .ok (.iload_n 1, 1) := by decide +kernel
theorem dX8_policyState_22 : decode cX8_policyState 22 = .ok (.iconst 1, 1) := by decide +kernel
theorem dX8_policyState_23 : decode cX8_policyState 23 = .ok (.invokevirtual 185, 3) := by decide +kernel
theorem dX8_policyState_26 : decode cX8_policyState 26 = .ok (.aload_n 0, 1) := by decide +kernel
theorem dX8_policyState_27 : decode cX8_policyState 27 = .ok (.iload_n 2, 1) := by decide +kernel
theorem dX8_policyState_28 : decode cX8_policyState 28 = .ok (.invokevirtual 104, 3) := by decide +kernel
theorem dX8_policyState_31 : decode cX8_policyState 31 = .ok (.aload_n 0, 1) := by decide +kernel
theorem dX8_policyState_32 : decode cX8_policyState 32 = .ok (.aload_n 0, 1) := by decide +kernel
theorem dX8_policyState_33 : decode cX8_policyState 33 = .ok (.getfield 29, 3) := by decide +kernel
theorem dX8_policyState_36 : decode cX8_policyState 36 = .ok (.iconst 0, 1) := by decide +kernel
theorem dX8_policyState_37 : decode cX8_policyState 37 = .ok (.bipush 32, 2) := by decide +kernel
theorem dX8_policyState_39 : decode cX8_policyState 39 = .ok (.invokevirtual 134, 3) := by decide +kernel
theorem dX8_policyState_42 : decode cX8_policyState 42 = .ok (.aload_n 0, 1) := by decide +kernel
theorem dX8_policyState_43 : decode cX8_policyState 43 = .ok (.aload_n 0, 1) := by decide +kernel
theorem dX8_policyState_44 : decode cX8_policyState 44 = .ok (.getfield 51, 3) := by decide +kernel
theorem dX8_policyState_47 : decode cX8_policyState 47 = .ok (.bipush 32, 2) := by decide +kernel
theorem dX8_policyState_49 : decode cX8_policyState 49 = .ok (.iload_n 1, 1) := by decide +kernel
theorem dX8_policyState_50 : decode cX8_policyState 50 = .ok (.imul, 1) := by decide +kernel
theorem dX8_policyState_51 : decode cX8_policyState 51 = .ok (.invokevirtual 111, 3) := by decide +kernel
theorem dX8_policyState_54 : decode cX8_policyState 54 = .ok (.aload_n 0, 1) := by decide +kernel
theorem dX8_policyState_55 : decode cX8_policyState 55 = .ok (.getfield 54, 3) := by decide +kernel
theorem dX8_policyState_58 : decode cX8_policyState 58 = .ok (.iload_n 1, 1) := by decide +kernel
theorem dX8_policyState_59 : decode cX8_policyState 59 = .ok (.iconst 1, 1) := by decide +kernel
theorem dX8_policyState_60 : decode cX8_policyState 60 = .ok (.bastore, 1) := by decide +kernel
theorem dX8_policyState_61 : decode cX8_policyState 61 = .ok (.iconst 0, 1) := by decide +kernel
theorem dX8_policyState_62 : decode cX8_policyState 62 = .ok (.ireturn, 1) := by decide +kernel
theorem dX8_policyAuth_0 : decode cX8_policyAuth 0 = .ok (.aload_n 0, 1) := by decide +kernel
theorem dX8_policyAuth_1 : decode cX8_policyAuth 1 = .ok (.iload_n 1, 1) := by decide +kernel
theorem dX8_policyAuth_2 : decode cX8_policyAuth 2 = .ok (.invokevirtual 182, 3) := by decide +kernel
theorem dX8_policyAuth_5 : decode cX8_policyAuth 5 = .ok (.ifCond .ne 5, 3) := by decide +kernel
theorem dX8_policyAuth_8 : decode cX8_policyAuth 8 = .ok (.iconst (-1), 1) := by decide +kernel
theorem dX8_policyAuth_9 : decode cX8_policyAuth 9 = .ok (.ireturn, 1) := by decide +kernel
theorem dX8_policyAuth_10 : decode cX8_policyAuth 10 = .ok (.aload_n 0, 1) := by decide +kernel
theorem dX8_policyAuth_11 : decode cX8_policyAuth 11 = .ok (.iload_n 1, 1) := by decide +kernel
theorem dX8_policyAuth_12 : decode cX8_policyAuth 12 = .ok (.iconst 2, 1) := by decide +kernel
theorem dX8_policyAuth_13 : decode cX8_policyAuth 13 = .ok (.invokevirtual 185, 3) := by decide +kernel
theorem dX8_policyAuth_16 : decode cX8_policyAuth 16 = .ok (.aload_n 0, 1) := by decide +kernel
theorem dX8_policyAuth_17 : decode cX8_policyAuth 17 = .ok (.aload_n 0, 1) := by decide +kernel
theorem dX8_policyAuth_18 : decode cX8_policyAuth 18 = .ok (.getfield 51, 3) := by decide +kernel
theorem dX8_policyAuth_21 : decode cX8_policyAuth 21 = .ok (.bipush 32, 2) := by decide +kernel
theorem dX8_policyAuth_23 : decode cX8_policyAuth 23 = .ok (.iload_n 1, 1) := by decide +kernel
theorem dX8_policyAuth_24 : decode cX8_policyAuth 24 = .ok (.imul, 1) := by decide +kernel
theorem dX8_policyAuth_25 : decode cX8_policyAuth 25 = .ok (.invokevirtual 111, 3) := by decide +kernel
theorem dX8_policyAuth_28 : decode cX8_policyAuth 28 = .ok (.aload_n 0, 1) := by decide +kernel
theorem dX8_policyAuth_29 : decode cX8_policyAuth 29 = .ok (.getfield 60, 3) := by decide +kernel
theorem dX8_policyAuth_32 : decode cX8_policyAuth 32 = .ok (.iload_n 1, 1) := by decide +kernel
theorem dX8_policyAuth_33 : decode cX8_policyAuth 33 = .ok (.iconst 1, 1) := by decide +kernel
theorem dX8_policyAuth_34 : decode cX8_policyAuth 34 = .ok (.bastore, 1) := by decide +kernel
theorem dX8_policyAuth_35 : decode cX8_policyAuth 35 = .ok (.iconst 0, 1) := by decide +kernel
theorem dX8_policyAuth_36 : decode cX8_policyAuth 36 = .ok (.ireturn, 1) := by decide +kernel
theorem dX8_policyCode_0 : decode cX8_policyCode 0 = .ok (.aload_n 0, 1) := by decide +kernel
theorem dX8_policyCode_1 : decode cX8_policyCode 1 = .ok (.iload_n 1, 1) := by decide +kernel
theorem dX8_policyCode_2 : decode cX8_policyCode 2 = .ok (.invokevirtual 182, 3) := by decide +kernel
theorem dX8_policyCode_5 : decode cX8_policyCode 5 = .ok (.ifCond .eq 23, 3) := by decide +kernel
theorem dX8_policyCode_8 : decode cX8_policyCode 8 = .ok (.iload_n 2, 1) := by decide +kernel
theorem dX8_policyCode_9 : decode cX8_policyCode 9 = .ok (.iconst 1, 1) := by decide +kernel
theorem dX8_policyCode_10 : decode cX8_policyCode 10 = .ok (.if_icmp .lt 18, 3) := by decide +kernel
theorem dX8_policyCode_13 : decode cX8_policyCode 13 = .ok (.iload_n 2, 1) := by decide +kernel
theorem dX8_policyCode_14 : decode cX8_policyCode 14 = .ok (.bipush 6, 2) := by decide +kernel
theorem dX8_policyCode_16 : decode cX8_policyCode 16 = .ok (.if_icmp .gt 12, 3) := by decide +kernel
theorem dX8_policyCode_19 : decode cX8_policyCode 19 = .ok (.aload_n 0, 1) := by decide +kernel
theorem dX8_policyCode_20 : decode cX8_policyCode 20 = .ok (.getfield 66, 3) := by decide +kernel
theorem dX8_policyCode_23 : decode cX8_policyCode 23 = .ok (.iload_n 1, 1) := by decide +kernel
theorem dX8_policyCode_24 : decode cX8_policyCode 24 = .ok (.iaload, 1) := by decide +kernel
theorem dX8_policyCode_25 : decode cX8_policyCode 25 = .ok (.ifCond .eq 5, 3) := by decide +kernel
theorem dX8_policyCode_28 : decode cX8_policyCode 28 = .ok (.iconst (-1), 1) := by decide +kernel
theorem dX8_policyCode_29 : decode cX8_policyCode 29 = .ok (.ireturn, 1) := by decide +kernel
theorem dX8_policyCode_30 : decode cX8_policyCode 30 = .ok (.aload_n 0, 1) := by decide +kernel
theorem dX8_policyCode_31 : decode cX8_policyCode 31 = .ok (.iload_n 1, 1) := by decide +kernel
theorem dX8_policyCode_32 : decode cX8_policyCode 32 = .ok (.iconst 3, 1) := by decide +kernel
theorem dX8_policyCode_33 : decode cX8_policyCode 33 = .ok (.invokevirtual 185, 3) := by decide +kernel
theorem dX8_policyCode_36 : decode cX8_policyCode 36 = .ok (.aload_n 0, 1) := by decide +kernel
theorem dX8_policyCode_37 : decode cX8_policyCode 37 = .ok (.iload_n 2, 1) := by decide +kernel
theorem dX8_policyCode_38 : decode cX8_policyCode 38 = .ok (.invokevirtual 104, 3) := by decide +kernel
theorem dX8_policyCode_41 : decode cX8_policyCode 41 = .ok (.aload_n 0, 1) := by decide +kernel
theorem dX8_policyCode_42 : decode cX8_policyCode 42 = .ok (.aload_n 0, 1) := by decide +kernel
theorem dX8_policyCode_43 : decode cX8_policyCode 43 = .ok (.getfield 51, 3) := by decide +kernel
theorem dX8_policyCode_46 : decode cX8_policyCode 46 = .ok (.bipush 32, 2) := by decide +kernel
theorem dX8_policyCode_48 : decode cX8_policyCode 48 = .ok (.iload_n 1, 1) := by decide +kernel
theorem dX8_policyCode_49 : decode cX8_policyCode 49 = .ok (.imul, 1) := by decide +kernel
theorem dX8_policyCode_50 : decode cX8_policyCode 50 = .ok (.invokevirtual 111, 3) := by decide +kernel
theorem dX8_policyCode_53 : decode cX8_policyCode 53 = .ok (.aload_n 0, 1) := by decide +kernel
theorem dX8_policyCode_54 : decode cX8_policyCode 54 = .ok (.getfield 66, 3) := by decide +kernel
theorem dX8_policyCode_57 : decode cX8_policyCode 57 = .ok (.iload_n 1, 1) := by decide +kernel
theorem dX8_policyCode_58 : decode cX8_policyCode 58 = .ok (.iload_n 2, 1) := by decide +kernel
theorem dX8_policyCode_59 : decode cX8_policyCode 59 = .ok (.iastore, 1) := by decide +kernel
theorem dX8_policyCode_60 : decode cX8_policyCode 60 = .ok (.iconst 0, 1) := by decide +kernel
theorem dX8_policyCode_61 : decode cX8_policyCode 61 = .ok (.ireturn, 1) := by decide +kernel
theorem dX8_policyTime_0 : decode cX8_policyTime 0 = .ok (.aload_n 0, 1) := by decide +kernel
theorem dX8_policyTime_1 : decode cX8_policyTime 1 = .ok (.iload_n 1, 1) := by decide +kernel
theorem dX8_policyTime_2 : decode cX8_policyTime 2 = .ok (.invokevirtual 182, 3) := by decide +kernel
theorem dX8_policyTime_5 : decode cX8_policyTime 5 = .ok (.ifCond .ne 5, 3) := by decide +kernel
theorem dX8_policyTime_8 : decode cX8_policyTime 8 = .ok (.iconst (-1), 1) := by decide +kernel
theorem dX8_policyTime_9 : decode cX8_policyTime 9 = .ok (.ireturn, 1) := by decide +kernel
theorem dX8_policyTime_10 : decode cX8_policyTime 10 = .ok (.aload_n 0, 1) := by decide +kernel
theorem dX8_policyTime_11 : decode cX8_policyTime 11 = .ok (.iload_n 1, 1) := by decide +kernel
theorem dX8_policyTime_12 : decode cX8_policyTime 12 = .ok (.iconst 4, 1) := by decide +kernel
theorem dX8_policyTime_13 : decode cX8_policyTime 13 = .ok (.invokevirtual 185, 3) := by decide +kernel
theorem dX8_policyTime_16 : decode cX8_policyTime 16 = .ok (.aload_n 0, 1) := by decide +kernel
theorem dX8_policyTime_17 : decode cX8_policyTime 17 = .ok (.iload_n 2, 1) := by decide +kernel
theorem dX8_policyTime_18 : decode cX8_policyTime 18 = .ok (.invokevirtual 108, 3) := by decide +kernel
theorem dX8_policyTime_21 : decode cX8_policyTime 21 = .ok (.aload_n 0, 1) := by decide +kernel
theorem dX8_policyTime_22 : decode cX8_policyTime 22 = .ok (.aload_n 0, 1) := by decide +kernel
theorem dX8_policyTime_23 : decode cX8_policyTime 23 = .ok (.getfield 51, 3) := by decide +kernel
theorem dX8_policyTime_26 : decode cX8_policyTime 26 = .ok (.bipush 32, 2) := by decide +kernel
theorem dX8_policyTime_28 : decode cX8_policyTime 28 = .ok (.iload_n 1, 1) := by decide +kernel
theorem dX8_policyTime_29 : decode cX8_policyTime 29 = .ok (.imul, 1) := by decide +kernel
theorem dX8_policyTime_30 : decode cX8_policyTime 30 = .ok (.invokevirtual 111, 3) := by decide +kernel
theorem dX8_policyTime_33 : decode cX8_policyTime 33 = .ok (.aload_n 0, 1) := by decide +kernel
theorem dX8_policyTime_34 : decode cX8_policyTime 34 = .ok (.getfield 63, 3) := by decide +kernel
theorem dX8_policyTime_37 : decode cX8_policyTime 37 = .ok (.iload_n 1, 1) := by decide +kernel
theorem dX8_policyTime_38 : decode cX8_policyTime 38 = .ok (.baload, 1) := by decide +kernel
theorem dX8_policyTime_39 : decode cX8_policyTime 39 = .ok (.ifCond .eq 13, 3) := by decide +kernel
theorem dX8_policyTime_42 : decode cX8_policyTime 42 = .ok (.iload_n 2, 1) := by decide +kernel
theorem dX8_policyTime_43 : decode cX8_policyTime 43 = .ok (.aload_n 0, 1) := by decide +kernel
theorem dX8_policyTime_44 : decode cX8_policyTime 44 = .ok (.getfield 70, 3) := by decide +kernel
theorem dX8_policyTime_47 : decode cX8_policyTime 47 = .ok (.iload_n 1, 1) := by decide +kernel
theorem dX8_policyTime_48 : decode cX8_policyTime 48 = .ok (.iaload, 1) := by decide +kernel
theorem dX8_policyTime_49 : decode cX8_policyTime 49 = .ok (.if_icmp .ge 10, 3) := by decide +kernel
theorem dX8_policyTime_52 : decode cX8_policyTime 52 = .ok (.aload_n 0, 1) := by decide +kernel
theorem dX8_policyTime_53 : decode cX8_policyTime 53 = .ok (.getfield 70, 3) := by decide +kernel
theorem dX8_policyTime_56 : decode cX8_policyTime 56 = .ok (.iload_n 1, 1) := by decide +kernel
theorem dX8_policyTime_57 : decode cX8_policyTime 57 = .ok (.iload_n 2, 1) := by decide +kernel
theorem dX8_policyTime_58 : decode cX8_policyTime 58 = .ok (.iastore, 1) := by decide +kernel
theorem dX8_policyTime_59 : decode cX8_policyTime 59 = .ok (.aload_n 0, 1) := by decide +kernel
theorem dX8_policyTime_60 : decode cX8_policyTime 60 = .ok (.getfield 63, 3) := by decide +kernel
theorem dX8_policyTime_63 : decode cX8_policyTime 63 = .ok (.iload_n 1, 1) := by decide +kernel
theorem dX8_policyTime_64 : decode cX8_policyTime 64 = .ok (.iconst 1, 1) := by decide +kernel
theorem dX8_policyTime_65 : decode cX8_policyTime 65 = .ok (.bastore, 1) := by decide +kernel
theorem dX8_policyTime_66 : decode cX8_policyTime 66 = .ok (.iconst 0, 1) := by decide +kernel
theorem dX8_policyTime_67 : decode cX8_policyTime 67 = .ok (.ireturn, 1) := by decide +kernel
theorem dX8_policyOr_0 : decode cX8_policyOr 0 = .ok (.aload_n 0, 1) := by decide +kernel
theorem dX8_policyOr_1 : decode cX8_policyOr 1 = .ok (.getfield 137, 3) := by decide +kernel
theorem dX8_policyOr_4 : decode cX8_policyOr 4 = .ok (.istore_n 2, 1) := by decide +kernel
theorem dX8_policyOr_5 : decode cX8_policyOr 5 = .ok (.aload_n 0, 1) := by decide +kernel
theorem dX8_policyOr_6 : decode cX8_policyOr 6 = .ok (.iconst 0, 1) := by decide +kernel
theorem dX8_policyOr_7 : decode cX8_policyOr 7 = .ok (.putfield 137, 3) := by decide +kernel
theorem dX8_policyOr_10 : decode cX8_policyOr 10 = .ok (.aload_n 0, 1) := by decide +kernel
theorem dX8_policyOr_11 : decode cX8_policyOr 11 = .ok (.iload_n 1, 1) := by decide +kernel
theorem dX8_policyOr_12 : decode cX8_policyOr 12 = .ok (.invokevirtual 182, 3) := by decide +kernel
theorem dX8_policyOr_15 : decode cX8_policyOr 15 = .ok (.ifCond .eq 23, 3) := by decide +kernel
theorem dX8_policyOr_18 : decode cX8_policyOr 18 = .ok (.iload_n 2, 1) := by decide +kernel
theorem dX8_policyOr_19 : decode cX8_policyOr 19 = .ok (.bipush 32, 2) := by decide +kernel
theorem dX8_policyOr_21 : decode cX8_policyOr 21 = .ok (.irem, 1) := by decide +kernel
theorem dX8_policyOr_22 : decode cX8_policyOr 22 = .ok (.ifCond .ne 16, 3) := by decide +kernel
theorem dX8_policyOr_25 : decode cX8_policyOr 25 = .ok (.iload_n 2, 1) := by decide +kernel
theorem dX8_policyOr_26 : decode cX8_policyOr 26 = .ok (.bipush 64, 2) := by decide +kernel
theorem dX8_policyOr_28 : decode cX8_policyOr 28 = .ok (.if_icmp .lt 10, 3) := by decide +kernel
theorem dX8_policyOr_31 : decode cX8_policyOr 31 = .ok (.iload_n 2, 1) := by decide +kernel
theorem dX8_policyOr_32 : decode cX8_policyOr 32 = .ok (.sipush 256, 3) := by decide +kernel
theorem dX8_policyOr_35 : decode cX8_policyOr 35 = .ok (.if_icmp .le 5, 3) := by decide +kernel
theorem dX8_policyOr_38 : decode cX8_policyOr 38 = .ok (.iconst (-1), 1) := by decide +kernel
theorem dX8_policyOr_39 : decode cX8_policyOr 39 = .ok (.ireturn, 1) := by decide +kernel
theorem dX8_policyOr_40 : decode cX8_policyOr 40 = .ok (.iconst 0, 1) := by decide +kernel
theorem dX8_policyOr_41 : decode cX8_policyOr 41 = .ok (.istore_n 3, 1) := by decide +kernel
theorem dX8_policyOr_42 : decode cX8_policyOr 42 = .ok (.iconst 0, 1) := by decide +kernel
theorem dX8_policyOr_43 : decode cX8_policyOr 43 = .ok (.istore 4, 2) := by decide +kernel
theorem dX8_policyOr_45 : decode cX8_policyOr 45 = .ok (.iload 4, 2) := by decide +kernel
theorem dX8_policyOr_47 : decode cX8_policyOr 47 = .ok (.iload_n 2, 1) := by decide +kernel
theorem dX8_policyOr_48 : decode cX8_policyOr 48 = .ok (.if_icmp .ge 39, 3) := by decide +kernel
theorem dX8_policyOr_51 : decode cX8_policyOr 51 = .ok (.iload_n 3, 1) := by decide +kernel
theorem dX8_policyOr_52 : decode cX8_policyOr 52 = .ok (.ifCond .ne 23, 3) := by decide +kernel
theorem dX8_policyOr_55 : decode cX8_policyOr 55 = .ok (.aload_n 0, 1) := by decide +kernel
theorem dX8_policyOr_56 : decode cX8_policyOr 56 = .ok (.getfield 9, 3) := by decide +kernel
theorem dX8_policyOr_59 : decode cX8_policyOr 59 = .ok (.iload 4, 2) := by decide +kernel
theorem dX8_policyOr_61 : decode cX8_policyOr 61 = .ok (.aload_n 0, 1) := by decide +kernel
theorem dX8_policyOr_62 : decode cX8_policyOr 62 = .ok (.getfield 51, 3) := by decide +kernel
theorem dX8_policyOr_65 : decode cX8_policyOr 65 = .ok (.bipush 32, 2) := by decide +kernel
theorem dX8_policyOr_67 : decode cX8_policyOr 67 = .ok (.iload_n 1, 1) := by decide +kernel
theorem dX8_policyOr_68 : decode cX8_policyOr 68 = .ok (.imul, 1) := by decide +kernel
theorem dX8_policyOr_69 : decode cX8_policyOr 69 = .ok (.invokestatic 189, 3) := by decide +kernel
theorem dX8_policyOr_72 : decode cX8_policyOr 72 = .ok (.ifCond .eq 7, 3) := by decide +kernel
theorem dX8_policyOr_75 : decode cX8_policyOr 75 = .ok (.iconst 1, 1) := by decide +kernel
theorem dX8_policyOr_76 : decode cX8_policyOr 76 = .ok (.goto 4, 3) := by decide +kernel
theorem dX8_policyOr_79 : decode cX8_policyOr 79 = .ok (.iconst 0, 1) := by decide +kernel
theorem dX8_policyOr_80 : decode cX8_policyOr 80 = .ok (.istore_n 3, 1) := by decide +kernel
theorem dX8_policyOr_81 : decode cX8_policyOr 81 = .ok (.iinc 4 32, 3) := by decide +kernel
theorem dX8_policyOr_84 : decode cX8_policyOr 84 = .ok (.goto (-39), 3) := by decide +kernel
theorem dX8_policyOr_87 : decode cX8_policyOr 87 = .ok (.iload_n 3, 1) := by decide +kernel
theorem dX8_policyOr_88 : decode cX8_policyOr 88 = .ok (.ifCond .ne 6, 3) := by decide +kernel
theorem dX8_policyOr_91 : decode cX8_policyOr 91 = .ok (.bipush (-7), 2) := by decide +kernel
theorem dX8_policyOr_93 : decode cX8_policyOr 93 = .ok (.ireturn, 1) := by decide +kernel
theorem dX8_policyOr_94 : decode cX8_policyOr 94 = .ok (.aload_n 0, 1) := by decide +kernel
theorem dX8_policyOr_95 : decode cX8_policyOr 95 = .ok (.iconst 0, 1) := by decide +kernel
theorem dX8_policyOr_96 : decode cX8_policyOr 96 = .ok (.putfield 100, 3) := by decide +kernel
theorem dX8_policyOr_99 : decode cX8_policyOr 99 = .ok (.iconst 0, 1) := by decide +kernel
theorem dX8_policyOr_100 : decode cX8_policyOr 100 = .ok (.istore 4, 2) := by decide +kernel
theorem dX8_policyOr_102 : decode cX8_policyOr 102 = .ok (.iload 4, 2) := by decide +kernel
theorem dX8_policyOr_104 : decode cX8_policyOr 104 = .ok (.bipush 32, 2) := by decide +kernel
theorem dX8_policyOr_106 : decode cX8_policyOr 106 = .ok (.if_icmp .ge 14, 3) := by decide +kernel
theorem dX8_policyOr_109 : decode cX8_policyOr 109 = .ok (.aload_n 0, 1) := by decide +kernel
theorem dX8_policyOr_110 : decode cX8_policyOr 110 = .ok (.iconst 0, 1) := by decide +kernel
theorem dX8_policyOr_111 : decode cX8_policyOr 111 = .ok (.invokevirtual 104, 3) := by decide +kernel
theorem dX8_policyOr_114 : decode cX8_policyOr 114 = .ok (.iinc 4 1, 3) := by decide +kernel
theorem dX8_policyOr_117 : decode cX8_policyOr 117 = .ok (.goto (-15), 3) := by decide +kernel
theorem dX8_policyOr_120 : decode cX8_policyOr 120 = .ok (.aload_n 0, 1) := by decide +kernel
theorem dX8_policyOr_121 : decode cX8_policyOr 121 = .ok (.iconst 5, 1) := by decide +kernel
theorem dX8_policyOr_122 : decode cX8_policyOr 122 = .ok (.invokevirtual 104, 3) := by decide +kernel
theorem dX8_policyOr_125 : decode cX8_policyOr 125 = .ok (.aload_n 0, 1) := by decide +kernel
theorem dX8_policyOr_126 : decode cX8_policyOr 126 = .ok (.aload_n 0, 1) := by decide +kernel
theorem dX8_policyOr_127 : decode cX8_policyOr 127 = .ok (.getfield 9, 3) := by decide +kernel
theorem dX8_policyOr_130 : decode cX8_policyOr 130 = .ok (.iconst 0, 1) := by decide +kernel
theorem dX8_policyOr_131 : decode cX8_policyOr 131 = .ok (.iload_n 2, 1) := by decide +kernel
theorem dX8_policyOr_132 : decode cX8_policyOr 132 = .ok (.invokevirtual 134, 3) := by decide +kernel
theorem dX8_policyOr_135 : decode cX8_policyOr 135 = .ok (.aload_n 0, 1) := by decide +kernel
theorem dX8_policyOr_136 : decode cX8_policyOr 136 = .ok (.aload_n 0, 1) := by decide +kernel
theorem dX8_policyOr_137 : decode cX8_policyOr 137 = .ok (.getfield 51, 3) := by decide +kernel
theorem dX8_policyOr_140 : decode cX8_policyOr 140 = .ok (.bipush 32, 2) := by decide +kernel
theorem dX8_policyOr_142 : decode cX8_policyOr 142 = .ok (.iload_n 1, 1) := by decide +kernel
theorem dX8_policyOr_143 : decode cX8_policyOr 143 = .ok (.imul, 1) := by decide +kernel
theorem dX8_policyOr_144 : decode cX8_policyOr 144 = .ok (.invokevirtual 111, 3) := by decide +kernel
theorem dX8_policyOr_147 : decode cX8_policyOr 147 = .ok (.iconst 0, 1) := by decide +kernel
theorem dX8_policyOr_148 : decode cX8_policyOr 148 = .ok (.ireturn, 1) := by decide +kernel
theorem dX8_digest_0 : decode cX8_digest 0 = .ok (.aload_n 0, 1) := by decide +kernel
theorem dX8_digest_1 : decode cX8_digest 1 = .ok (.iload_n 1, 1) := by decide +kernel
theorem dX8_digest_2 : decode cX8_digest 2 = .ok (.invokevirtual 182, 3) := by decide +kernel
theorem dX8_digest_5 : decode cX8_digest 5 = .ok (.ifCond .ne 5, 3) := by decide +kernel
theorem dX8_digest_8 : decode cX8_digest 8 = .ok (.iconst (-1), 1) := by decide +kernel
theorem dX8_digest_9 : decode cX8_digest 9 = .ok (.ireturn, 1) := by decide +kernel
theorem dX8_digest_10 : decode cX8_digest 10 = .ok (.iconst 0, 1) := by decide +kernel
theorem dX8_digest_11 : decode cX8_digest 11 = .ok (.istore_n 2, 1) := by decide +kernel
theorem dX8_digest_12 : decode cX8_digest 12 = .ok (.iload_n 2, 1) := by decide +kernel
theorem dX8_digest_13 : decode cX8_digest 13 = .ok (.bipush 32, 2) := by decide +kernel
theorem dX8_digest_15 : decode cX8_digest 15 = .ok (.if_icmp .ge 26, 3) := by decide +kernel
theorem dX8_digest_18 : decode cX8_digest 18 = .ok (.aload_n 0, 1) := by decide +kernel
theorem dX8_digest_19 : decode cX8_digest 19 = .ok (.getfield 13, 3) := by decide +kernel
theorem dX8_digest_22 : decode cX8_digest 22 = .ok (.iload_n 2, 1) := by decide +kernel
theorem dX8_digest_23 : decode cX8_digest 23 = .ok (.aload_n 0, 1) := by decide +kernel
theorem dX8_digest_24 : decode cX8_digest 24 = .ok (.getfield 51, 3) := by decide +kernel
theorem dX8_digest_27 : decode cX8_digest 27 = .ok (.bipush 32, 2) := by decide +kernel
theorem dX8_digest_29 : decode cX8_digest 29 = .ok (.iload_n 1, 1) := by decide +kernel
theorem dX8_digest_30 : decode cX8_digest 30 = .ok (.imul, 1) := by decide +kernel
theorem dX8_digest_31 : decode cX8_digest 31 = .ok (.iload_n 2, 1) := by decide +kernel
theorem dX8_digest_32 : decode cX8_digest 32 = .ok (.iadd, 1) := by decide +kernel
theorem dX8_digest_33 : decode cX8_digest 33 = .ok (.baload, 1) := by decide +kernel
theorem dX8_digest_34 : decode cX8_digest 34 = .ok (.bastore, 1) := by decide +kernel
theorem dX8_digest_35 : decode cX8_digest 35 = .ok (.iinc 2 1, 3) := by decide +kernel
theorem dX8_digest_38 : decode cX8_digest 38 = .ok (.goto (-26), 3) := by decide +kernel
theorem dX8_digest_41 : decode cX8_digest 41 = .ok (.aload_n 0, 1) := by decide +kernel
theorem dX8_digest_42 : decode cX8_digest 42 = .ok (.invokevirtual 149, 3) := by decide +kernel
theorem dX8_digest_45 : decode cX8_digest 45 = .ok (.ireturn, 1) := by decide +kernel
theorem dX8_compared_0 : decode cX8_compared 0 = .ok (.aload_n 0, 1) := by decide +kernel
theorem dX8_compared_1 : decode cX8_compared 1 = .ok (.getfield 193, 3) := by decide +kernel
theorem dX8_compared_4 : decode cX8_compared 4 = .ok (.iconst 4, 1) := by decide +kernel
theorem dX8_compared_5 : decode cX8_compared 5 = .ok (.if_icmp .lt 6, 3) := by decide +kernel
theorem dX8_compared_8 : decode cX8_compared 8 = .ok (.bipush (-5), 2) := by decide +kernel
theorem dX8_compared_10 : decode cX8_compared 10 = .ok (.ireturn, 1) := by decide +kernel
theorem dX8_compared_11 : decode cX8_compared 11 = .ok (.aload_n 0, 1) := by decide +kernel
theorem dX8_compared_12 : decode cX8_compared 12 = .ok (.getfield 38, 3) := by decide +kernel
theorem dX8_compared_15 : decode cX8_compared 15 = .ok (.iconst 0, 1) := by decide +kernel
theorem dX8_compared_16 : decode cX8_compared 16 = .ok (.aload_n 1, 1) := by decide +kernel
theorem dX8_compared_17 : decode cX8_compared 17 = .ok (.iload_n 2, 1) := by decide +kernel
theorem dX8_compared_18 : decode cX8_compared 18 = .ok (.invokestatic 189, 3) := by decide +kernel
theorem dX8_compared_21 : decode cX8_compared 21 = .ok (.ifCond .eq 5, 3) := by decide +kernel
theorem dX8_compared_24 : decode cX8_compared 24 = .ok (.iconst 0, 1) := by decide +kernel
theorem dX8_compared_25 : decode cX8_compared 25 = .ok (.ireturn, 1) := by decide +kernel
theorem dX8_compared_26 : decode cX8_compared 26 = .ok (.aload_n 0, 1) := by decide +kernel
theorem dX8_compared_27 : decode cX8_compared 27 = .ok (.dup, 1) := by decide +kernel
theorem dX8_compared_28 : decode cX8_compared 28 = .ok (.getfield 193, 3) := by decide +kernel
theorem dX8_compared_31 : decode cX8_compared 31 = .ok (.iconst 1, 1) := by decide +kernel
theorem dX8_compared_32 : decode cX8_compared 32 = .ok (.iadd, 1) := by decide +kernel
theorem dX8_compared_33 : decode cX8_compared 33 = .ok (.putfield 193, 3) := by decide +kernel
theorem dX8_compared_36 : decode cX8_compared 36 = .ok (.bipush (-4), 2) := by decide +kernel
theorem dX8_compared_38 : decode cX8_compared 38 = .ok (.ireturn, 1) := by decide +kernel
theorem dX8_by_0 : decode cX8_by 0 = .ok (.iload_n 2, 1) := by decide +kernel
theorem dX8_by_1 : decode cX8_by 1 = .ok (.iconst (-1), 1) := by decide +kernel
theorem dX8_by_2 : decode cX8_by 2 = .ok (.if_icmp .ne 16, 3) := by decide +kernel
theorem dX8_by_5 : decode cX8_by 5 = .ok (.aload_n 0, 1) := by decide +kernel
theorem dX8_by_6 : decode cX8_by 6 = .ok (.aload_n 0, 1) := by decide +kernel
theorem dX8_by_7 : decode cX8_by 7 = .ok (.getfield 76, 3) := by decide +kernel
theorem dX8_by_10 : decode cX8_by 10 = .ok (.bipush 32, 2) := by decide +kernel
theorem dX8_by_12 : decode cX8_by 12 = .ok (.iload_n 1, 1) := by decide +kernel
theorem dX8_by_13 : decode cX8_by 13 = .ok (.imul, 1) := by decide +kernel
theorem dX8_by_14 : decode cX8_by 14 = .ok (.invokevirtual 196, 3) := by decide +kernel
theorem dX8_by_17 : decode cX8_by 17 = .ok (.ireturn, 1) := by decide +kernel
theorem dX8_by_18 : decode cX8_by 18 = .ok (.aload_n 0, 1) := by decide +kernel
theorem dX8_by_19 : decode cX8_by 19 = .ok (.iload_n 2, 1) := by decide +kernel
theorem dX8_by_20 : decode cX8_by 20 = .ok (.invokevirtual 182, 3) := by decide +kernel
theorem dX8_by_23 : decode cX8_by 23 = .ok (.ifCond .ne 5, 3) := by decide +kernel
theorem dX8_by_26 : decode cX8_by 26 = .ok (.iconst (-1), 1) := by decide +kernel
theorem dX8_by_27 : decode cX8_by 27 = .ok (.ireturn, 1) := by decide +kernel
theorem dX8_by_28 : decode cX8_by 28 = .ok (.iconst 1, 1) := by decide +kernel
theorem dX8_by_29 : decode cX8_by 29 = .ok (.istore 4, 2) := by decide +kernel
theorem dX8_by_31 : decode cX8_by 31 = .ok (.iconst 0, 1) := by decide +kernel
theorem dX8_by_32 : decode cX8_by 32 = .ok (.istore 5, 2) := by decide +kernel
theorem dX8_by_34 : decode cX8_by 34 = .ok (.iload 5, 2) := by decide +kernel
theorem dX8_by_36 : decode cX8_by 36 = .ok (.bipush 32, 2) := by decide +kernel
theorem dX8_by_38 : decode cX8_by 38 = .ok (.if_icmp .ge 36, 3) := by decide +kernel
theorem dX8_by_41 : decode cX8_by 41 = .ok (.iload 4, 2) := by decide +kernel
theorem dX8_by_43 : decode cX8_by 43 = .ok (.ifCond .eq 22, 3) := by decide +kernel
theorem dX8_by_46 : decode cX8_by 46 = .ok (.aload_n 0, 1) := by decide +kernel
theorem dX8_by_47 : decode cX8_by 47 = .ok (.getfield 79, 3) := by decide +kernel
theorem dX8_by_50 : decode cX8_by 50 = .ok (.bipush 32, 2) := by decide +kernel
theorem dX8_by_52 : decode cX8_by 52 = .ok (.iload_n 1, 1) := by decide +kernel
theorem dX8_by_53 : decode cX8_by 53 = .ok (.imul, 1) := by decide +kernel
theorem dX8_by_54 : decode cX8_by 54 = .ok (.iload 5, 2) := by decide +kernel
theorem dX8_by_56 : decode cX8_by 56 = .ok (.iadd, 1) := by decide +kernel
theorem dX8_by_57 : decode cX8_by 57 = .ok (.baload, 1) := by decide +kernel
theorem dX8_by_58 : decode cX8_by 58 = .ok (.ifCond .ne 7, 3) := by decide +kernel
theorem dX8_by_61 : decode cX8_by 61 = .ok (.iconst 1, 1) := by decide +kernel
theorem dX8_by_62 : decode cX8_by 62 = .ok (.goto 4, 3) := by decide +kernel
theorem dX8_by_65 : decode cX8_by 65 = .ok (.iconst 0, 1) := by decide +kernel
theorem dX8_by_66 : decode cX8_by 66 = .ok (.istore 4, 2) := by decide +kernel
theorem dX8_by_68 : decode cX8_by 68 = .ok (.iinc 5 1, 3) := by decide +kernel
theorem dX8_by_71 : decode cX8_by 71 = .ok (.goto (-37), 3) := by decide +kernel
theorem dX8_by_74 : decode cX8_by 74 = .ok (.iload 4, 2) := by decide +kernel
theorem dX8_by_76 : decode cX8_by 76 = .ok (.ifCond .ne 25, 3) := by decide +kernel
theorem dX8_by_79 : decode cX8_by 79 = .ok (.aload_n 0, 1) := by decide +kernel
theorem dX8_by_80 : decode cX8_by 80 = .ok (.getfield 79, 3) := by decide +kernel
theorem dX8_by_83 : decode cX8_by 83 = .ok (.bipush 32, 2) := by decide +kernel
theorem dX8_by_85 : decode cX8_by 85 = .ok (.iload_n 1, 1) := by decide +kernel
theorem dX8_by_86 : decode cX8_by 86 = .ok (.imul, 1) := by decide +kernel
theorem dX8_by_87 : decode cX8_by 87 = .ok (.aload_n 0, 1) := by decide +kernel
theorem dX8_by_88 : decode cX8_by 88 = .ok (.getfield 51, 3) := by decide +kernel
theorem dX8_by_91 : decode cX8_by 91 = .ok (.bipush 32, 2) := by decide +kernel
theorem dX8_by_93 : decode cX8_by 93 = .ok (.iload_n 2, 1) := by decide +kernel
theorem dX8_by_94 : decode cX8_by 94 = .ok (.imul, 1) := by decide +kernel
theorem dX8_by_95 : decode cX8_by 95 = .ok (.invokestatic 189, 3) := by decide +kernel
theorem dX8_by_98 : decode cX8_by 98 = .ok (.ifCond .ne 6, 3) := by decide +kernel
theorem dX8_by_101 : decode cX8_by 101 = .ok (.bipush (-7), 2) := by decide +kernel
theorem dX8_by_103 : decode cX8_by 103 = .ok (.ireturn, 1) := by decide +kernel
theorem dX8_by_104 : decode cX8_by 104 = .ok (.aload_n 0, 1) := by decide +kernel
theorem dX8_by_105 : decode cX8_by 105 = .ok (.getfield 54, 3) := by decide +kernel
theorem dX8_by_108 : decode cX8_by 108 = .ok (.iload_n 2, 1) := by decide +kernel
theorem dX8_by_109 : decode cX8_by 109 = .ok (.baload, 1) := by decide +kernel
theorem dX8_by_110 : decode cX8_by 110 = .ok (.ifCond .eq 12, 3) := by decide +kernel
theorem dX8_by_113 : decode cX8_by 113 = .ok (.aload_n 0, 1) := by decide +kernel
theorem dX8_by_114 : decode cX8_by 114 = .ok (.getfield 57, 3) := by decide +kernel
theorem dX8_by_117 : decode cX8_by 117 = .ok (.iload_n 2, 1) := by decide +kernel
theorem dX8_by_118 : decode cX8_by 118 = .ok (.baload, 1) := by decide +kernel
theorem dX8_by_119 : decode cX8_by 119 = .ok (.ifCond .ne 44, 3) := by decide +kernel
theorem dX8_by_122 : decode cX8_by 122 = .ok (.aload_n 0, 1) := by decide +kernel
theorem dX8_by_123 : decode cX8_by 123 = .ok (.getfield 66, 3) := by decide +kernel
theorem dX8_by_126 : decode cX8_by 126 = .ok (.iload_n 2, 1) := by decide +kernel
theorem dX8_by_127 : decode cX8_by 127 = .ok (.iaload, 1) := by decide +kernel
theorem dX8_by_128 : decode cX8_by 128 = .ok (.ifCond .eq 13, 3) := by decide +kernel
theorem dX8_by_131 : decode cX8_by 131 = .ok (.aload_n 0, 1) := by decide +kernel
theorem dX8_by_132 : decode cX8_by 132 = .ok (.getfield 66, 3) := by decide +kernel
theorem dX8_by_135 : decode cX8_by 135 = .ok (.iload_n 2, 1) := by decide +kernel
theorem dX8_by_136 : decode cX8_by 136 = .ok (.iaload, 1) := by decide +kernel
theorem dX8_by_137 : decode cX8_by 137 = .ok (.iload_n 3, 1) := by decide +kernel
theorem dX8_by_138 : decode cX8_by 138 = .ok (.if_icmp .ne 25, 3) := by decide +kernel
theorem dX8_by_141 : decode cX8_by 141 = .ok (.aload_n 0, 1) := by decide +kernel
theorem dX8_by_142 : decode cX8_by 142 = .ok (.getfield 63, 3) := by decide +kernel
theorem dX8_by_145 : decode cX8_by 145 = .ok (.iload_n 2, 1) := by decide +kernel
theorem dX8_by_146 : decode cX8_by 146 = .ok (.baload, 1) := by decide +kernel
theorem dX8_by_147 : decode cX8_by 147 = .ok (.ifCond .eq 19, 3) := by decide +kernel
theorem dX8_by_150 : decode cX8_by 150 = .ok (.aload_n 0, 1) := by decide +kernel
theorem dX8_by_151 : decode cX8_by 151 = .ok (.getfield 163, 3) := by decide +kernel
theorem dX8_by_154 : decode cX8_by 154 = .ok (.aload_n 0, 1) := by decide +kernel
theorem dX8_by_155 : decode cX8_by 155 = .ok (.getfield 70, 3) := by decide +kernel
theorem dX8_by_158 : decode cX8_by 158 = .ok (.iload_n 2, 1) := by decide +kernel
theorem dX8_by_159 : decode cX8_by 159 = .ok (.iaload, 1) := by decide +kernel
theorem dX8_by_160 : decode cX8_by 160 = .ok (.if_icmp .le 6, 3) := by decide +kernel
theorem dX8_by_163 : decode cX8_by 163 = .ok (.bipush (-7), 2) := by decide +kernel
theorem dX8_by_165 : decode cX8_by 165 = .ok (.ireturn, 1) := by decide +kernel
theorem dX8_by_166 : decode cX8_by 166 = .ok (.aload_n 0, 1) := by decide +kernel
theorem dX8_by_167 : decode cX8_by 167 = .ok (.getfield 60, 3) := by decide +kernel
theorem dX8_by_170 : decode cX8_by 170 = .ok (.iload_n 2, 1) := by decide +kernel
theorem dX8_by_171 : decode cX8_by 171 = .ok (.baload, 1) := by decide +kernel
theorem dX8_by_172 : decode cX8_by 172 = .ok (.ifCond .eq 18, 3) := by decide +kernel
theorem dX8_by_175 : decode cX8_by 175 = .ok (.aload_n 0, 1) := by decide +kernel
theorem dX8_by_176 : decode cX8_by 176 = .ok (.aload_n 0, 1) := by decide +kernel
theorem dX8_by_177 : decode cX8_by 177 = .ok (.getfield 76, 3) := by decide +kernel
theorem dX8_by_180 : decode cX8_by 180 = .ok (.bipush 32, 2) := by decide +kernel
theorem dX8_by_182 : decode cX8_by 182 = .ok (.iload_n 1, 1) := by decide +kernel
theorem dX8_by_183 : decode cX8_by 183 = .ok (.imul, 1) := by decide +kernel
theorem dX8_by_184 : decode cX8_by 184 = .ok (.invokevirtual 196, 3) := by decide +kernel
theorem dX8_by_187 : decode cX8_by 187 = .ok (.goto 4, 3) := by decide +kernel
theorem dX8_by_190 : decode cX8_by 190 = .ok (.iconst 0, 1) := by decide +kernel
theorem dX8_by_191 : decode cX8_by 191 = .ok (.istore 5, 2) := by decide +kernel
theorem dX8_by_193 : decode cX8_by 193 = .ok (.iload 5, 2) := by decide +kernel
theorem dX8_by_195 : decode cX8_by 195 = .ok (.ifCond .ne 10, 3) := by decide +kernel
theorem dX8_by_198 : decode cX8_by 198 = .ok (.aload_n 0, 1) := by decide +kernel
theorem dX8_by_199 : decode cX8_by 199 = .ok (.getfield 47, 3) := by decide +kernel
theorem dX8_by_202 : decode cX8_by 202 = .ok (.iload_n 2, 1) := by decide +kernel
theorem dX8_by_203 : decode cX8_by 203 = .ok (.iconst 0, 1) := by decide +kernel
theorem dX8_by_204 : decode cX8_by 204 = .ok (.bastore, 1) := by decide +kernel
theorem dX8_by_205 : decode cX8_by 205 = .ok (.iload 5, 2) := by decide +kernel
theorem dX8_by_207 : decode cX8_by 207 = .ok (.ireturn, 1) := by decide +kernel
theorem dX8_owners_0 : decode cX8_owners 0 = .ok (.aload_n 0, 1) := by decide +kernel
theorem dX8_owners_1 : decode cX8_owners 1 = .ok (.aload_n 0, 1) := by decide +kernel
theorem dX8_owners_2 : decode cX8_owners 2 = .ok (.getfield 41, 3) := by decide +kernel
theorem dX8_owners_5 : decode cX8_owners 5 = .ok (.iconst 0, 1) := by decide +kernel
theorem dX8_owners_6 : decode cX8_owners 6 = .ok (.invokevirtual 196, 3) := by decide +kernel
theorem dX8_owners_9 : decode cX8_owners 9 = .ok (.ireturn, 1) := by decide +kernel
theorem dX8_number_0 : decode cX8_number 0 = .ok (.bipush 24, 2) := by decide +kernel
theorem dX8_number_2 : decode cX8_number 2 = .ok (.istore_n 2, 1) := by decide +kernel
theorem dX8_number_3 : decode cX8_number 3 = .ok (.iload_n 2, 1) := by decide +kernel
theorem dX8_number_4 : decode cX8_number 4 = .ok (.ifCond .lt 32, 3) := by decide +kernel
theorem dX8_number_7 : decode cX8_number 7 = .ok (.aload_n 0, 1) := by decide +kernel
theorem dX8_number_8 : decode cX8_number 8 = .ok (.getfield 32, 3) := by decide +kernel
theorem dX8_number_11 : decode cX8_number 11 = .ok (.aload_n 0, 1) := by decide +kernel
theorem dX8_number_12 : decode cX8_number 12 = .ok (.getfield 131, 3) := by decide +kernel
theorem dX8_number_15 : decode cX8_number 15 = .ok (.iload_n 1, 1) := by decide +kernel
theorem dX8_number_16 : decode cX8_number 16 = .ok (.iload_n 2, 1) := by decide +kernel
theorem dX8_number_17 : decode cX8_number 17 = .ok (.ishr, 1) := by decide +kernel
theorem dX8_number_18 : decode cX8_number 18 = .ok (.i2b, 1) := by decide +kernel
theorem dX8_number_19 : decode cX8_number 19 = .ok (.bastore, 1) := by decide +kernel
theorem dX8_number_20 : decode cX8_number 20 = .ok (.aload_n 0, 1) := by decide +kernel
theorem dX8_number_21 : decode cX8_number 21 = .ok (.dup, 1) := by decide +kernel
theorem dX8_number_22 : decode cX8_number 22 = .ok (.getfield 131, 3) := by decide +kernel
theorem dX8_number_25 : decode cX8_number 25 = .ok (.iconst 1, 1) := by decide +kernel
theorem dX8_number_26 : decode cX8_number 26 = .ok (.iadd, 1) := by decide +kernel
theorem dX8_number_27 : decode cX8_number 27 = .ok (.putfield 131, 3) := by decide +kernel
theorem dX8_number_30 : decode cX8_number 30 = .ok (.iinc 2 (-8), 3) := by decide +kernel
theorem dX8_number_33 : decode cX8_number 33 = .ok (.goto (-30), 3) := by decide +kernel
theorem dX8_number_36 : decode cX8_number 36 = .ok (.return_, 1) := by decide +kernel
theorem dX8_mix_0 : decode cX8_mix 0 = .ok (.aload_n 0, 1) := by decide +kernel
theorem dX8_mix_1 : decode cX8_mix 1 = .ok (.bipush 69, 2) := by decide +kernel
theorem dX8_mix_3 : decode cX8_mix 3 = .ok (.invokevirtual 172, 3) := by decide +kernel
theorem dX8_mix_6 : decode cX8_mix 6 = .ok (.aload_n 0, 1) := by decide +kernel
theorem dX8_mix_7 : decode cX8_mix 7 = .ok (.iload 4, 2) := by decide +kernel
theorem dX8_mix_9 : decode cX8_mix 9 = .ok (.invokevirtual 200, 3) := by decide +kernel
theorem dX8_mix_12 : decode cX8_mix 12 = .ok (.aload_n 0, 1) := by decide +kernel
theorem dX8_mix_13 : decode cX8_mix 13 = .ok (.aload_n 0, 1) := by decide +kernel
theorem dX8_mix_14 : decode cX8_mix 14 = .ok (.getfield 29, 3) := by decide +kernel
theorem dX8_mix_17 : decode cX8_mix 17 = .ok (.iconst 0, 1) := by decide +kernel
theorem dX8_mix_18 : decode cX8_mix 18 = .ok (.invokevirtual 175, 3) := by decide +kernel
theorem dX8_mix_21 : decode cX8_mix 21 = .ok (.iconst 0, 1) := by decide +kernel
theorem dX8_mix_22 : decode cX8_mix 22 = .ok (.istore 5, 2) := by decide +kernel
theorem dX8_mix_24 : decode cX8_mix 24 = .ok (.iload 5, 2) := by decide +kernel
theorem dX8_mix_26 : decode cX8_mix 26 = .ok (.iload_n 3, 1) := by decide +kernel
theorem dX8_mix_27 : decode cX8_mix 27 = .ok (.if_icmp .ge 71, 3) := by decide +kernel
theorem dX8_mix_30 : decode cX8_mix 30 = .ok (.iload 5, 2) := by decide +kernel
theorem dX8_mix_32 : decode cX8_mix 32 = .ok (.bipush 32, 2) := by decide +kernel
theorem dX8_mix_34 : decode cX8_mix 34 = .ok (.irem, 1) := by decide +kernel
theorem dX8_mix_35 : decode cX8_mix 35 = .ok (.ifCond .ne 37, 3) := by decide +kernel
theorem dX8_mix_38 : decode cX8_mix 38 = .ok (.aload_n 0, 1) := by decide +kernel
theorem dX8_mix_39 : decode cX8_mix 39 = .ok (.iconst 0, 1) := by decide +kernel
theorem dX8_mix_40 : decode cX8_mix 40 = .ok (.putfield 100, 3) := by decide +kernel
theorem dX8_mix_43 : decode cX8_mix 43 = .ok (.aload_n 0, 1) := by decide +kernel
theorem dX8_mix_44 : decode cX8_mix 44 = .ok (.aload_n 0, 1) := by decide +kernel
theorem dX8_mix_45 : decode cX8_mix 45 = .ok (.getfield 29, 3) := by decide +kernel
theorem dX8_mix_48 : decode cX8_mix 48 = .ok (.iconst 0, 1) := by decide +kernel
theorem dX8_mix_49 : decode cX8_mix 49 = .ok (.bipush 32, 2) := by decide +kernel
theorem dX8_mix_51 : decode cX8_mix 51 = .ok (.invokevirtual 134, 3) := by decide +kernel
theorem dX8_mix_54 : decode cX8_mix 54 = .ok (.aload_n 0, 1) := by decide +kernel
theorem dX8_mix_55 : decode cX8_mix 55 = .ok (.iload 5, 2) := by decide +kernel
theorem dX8_mix_57 : decode cX8_mix 57 = .ok (.bipush 32, 2) := by decide +kernel
theorem dX8_mix_59 : decode cX8_mix 59 = .ok (.idiv, 1) := by decide +kernel
theorem dX8_mix_60 : decode cX8_mix 60 = .ok (.invokevirtual 104, 3) := by decide +kernel
theorem dX8_mix_63 : decode cX8_mix 63 = .ok (.aload_n 0, 1) := by decide +kernel
theorem dX8_mix_64 : decode cX8_mix 64 = .ok (.aload_n 0, 1) := by decide +kernel
theorem dX8_mix_65 : decode cX8_mix 65 = .ok (.getfield 26, 3) := by decide +kernel
theorem dX8_mix_68 : decode cX8_mix 68 = .ok (.iconst 0, 1) := by decide +kernel
theorem dX8_mix_69 : decode cX8_mix 69 = .ok (.invokevirtual 111, 3) := by decide +kernel
theorem dX8_mix_72 : decode cX8_mix 72 = .ok (.aload_n 1, 1) := by decide +kernel
theorem dX8_mix_73 : decode cX8_mix 73 = .ok (.iload_n 2, 1) := by decide +kernel
theorem dX8_mix_74 : decode cX8_mix 74 = .ok (.iload 5, 2) := by decide +kernel
theorem dX8_mix_76 : decode cX8_mix 76 = .ok (.iadd, 1) := by decide +kernel
theorem dX8_mix_77 : decode cX8_mix 77 = .ok (.dup2, 1) := by decide +kernel
theorem dX8_mix_78 : decode cX8_mix 78 = .ok (.baload, 1) := by decide +kernel
theorem dX8_mix_79 : decode cX8_mix 79 = .ok (.aload_n 0, 1) := by decide +kernel
theorem dX8_mix_80 : decode cX8_mix 80 = .ok (.getfield 26, 3) := by decide +kernel
theorem dX8_mix_83 : decode cX8_mix 83 = .ok (.iload 5, 2) := by decide +kernel
theorem dX8_mix_85 : decode cX8_mix 85 = .ok (.bipush 32, 2) := by decide +kernel
theorem dX8_mix_87 : decode cX8_mix 87 = .ok (.irem, 1) := by decide +kernel
theorem dX8_mix_88 : decode cX8_mix 88 = .ok (.baload, 1) := by decide +kernel
theorem dX8_mix_89 : decode cX8_mix 89 = .ok (.ixor, 1) := by decide +kernel
theorem dX8_mix_90 : decode cX8_mix 90 = .ok (.i2b, 1) := by decide +kernel
theorem dX8_mix_91 : decode cX8_mix 91 = .ok (.bastore, 1) := by decide +kernel
theorem dX8_mix_92 : decode cX8_mix 92 = .ok (.iinc 5 1, 3) := by decide +kernel
theorem dX8_mix_95 : decode cX8_mix 95 = .ok (.goto (-71), 3) := by decide +kernel
theorem dX8_mix_98 : decode cX8_mix 98 = .ok (.return_, 1) := by decide +kernel
theorem dX8_sealTo_0 : decode cX8_sealTo 0 = .ok (.aload_n 0, 1) := by decide +kernel
theorem dX8_sealTo_1 : decode cX8_sealTo 1 = .ok (.bipush 77, 2) := by decide +kernel
theorem dX8_sealTo_3 : decode cX8_sealTo 3 = .ok (.invokevirtual 172, 3) := by decide +kernel
theorem dX8_sealTo_6 : decode cX8_sealTo 6 = .ok (.aload_n 0, 1) := by decide +kernel
theorem dX8_sealTo_7 : decode cX8_sealTo 7 = .ok (.iload_n 3, 1) := by decide +kernel
theorem dX8_sealTo_8 : decode cX8_sealTo 8 = .ok (.invokevirtual 200, 3) := by decide +kernel
theorem dX8_sealTo_11 : decode cX8_sealTo 11 = .ok (.aload_n 0, 1) := by decide +kernel
theorem dX8_sealTo_12 : decode cX8_sealTo 12 = .ok (.aload_n 0, 1) := by decide +kernel
theorem dX8_sealTo_13 : decode cX8_sealTo 13 = .ok (.getfield 29, 3) := by decide +kernel
theorem dX8_sealTo_16 : decode cX8_sealTo 16 = .ok (.iconst 0, 1) := by decide +kernel
theorem dX8_sealTo_17 : decode cX8_sealTo 17 = .ok (.invokevirtual 175, 3) := by decide +kernel
theorem dX8_sealTo_20 : decode cX8_sealTo 20 = .ok (.aload_n 0, 1) := by decide +kernel
theorem dX8_sealTo_21 : decode cX8_sealTo 21 = .ok (.iload_n 2, 1) := by decide +kernel
theorem dX8_sealTo_22 : decode cX8_sealTo 22 = .ok (.putfield 131, 3) := by decide +kernel
theorem dX8_sealTo_25 : decode cX8_sealTo 25 = .ok (.iconst 0, 1) := by decide +kernel
theorem dX8_sealTo_26 : decode cX8_sealTo 26 = .ok (.istore 6, 2) := by decide +kernel
theorem dX8_sealTo_28 : decode cX8_sealTo 28 = .ok (.iload 6, 2) := by decide +kernel
theorem dX8_sealTo_30 : decode cX8_sealTo 30 = .ok (.iload_n 2, 1) := by decide +kernel
theorem dX8_sealTo_31 : decode cX8_sealTo 31 = .ok (.if_icmp .ge 20, 3) := by decide +kernel
theorem dX8_sealTo_34 : decode cX8_sealTo 34 = .ok (.aload_n 0, 1) := by decide +kernel
theorem dX8_sealTo_35 : decode cX8_sealTo 35 = .ok (.getfield 32, 3) := by decide +kernel
theorem dX8_sealTo_38 : decode cX8_sealTo 38 = .ok (.iload 6, 2) := by decide +kernel
theorem dX8_sealTo_40 : decode cX8_sealTo 40 = .ok (.aload_n 1, 1) := by decide +kernel
theorem dX8_sealTo_41 : decode cX8_sealTo 41 = .ok (.iload 6, 2) := by decide +kernel
theorem dX8_sealTo_43 : decode cX8_sealTo 43 = .ok (.baload, 1) := by decide +kernel
theorem dX8_sealTo_44 : decode cX8_sealTo 44 = .ok (.bastore, 1) := by decide +kernel
theorem dX8_sealTo_45 : decode cX8_sealTo 45 = .ok (.iinc 6 1, 3) := by decide +kernel
theorem dX8_sealTo_48 : decode cX8_sealTo 48 = .ok (.goto (-20), 3) := by decide +kernel
theorem dX8_sealTo_51 : decode cX8_sealTo 51 = .ok (.aload_n 0, 1) := by decide +kernel
theorem dX8_sealTo_52 : decode cX8_sealTo 52 = .ok (.aload 4, 2) := by decide +kernel
theorem dX8_sealTo_54 : decode cX8_sealTo 54 = .ok (.iload 5, 2) := by decide +kernel
theorem dX8_sealTo_56 : decode cX8_sealTo 56 = .ok (.invokevirtual 175, 3) := by decide +kernel
theorem dX8_sealTo_59 : decode cX8_sealTo 59 = .ok (.return_, 1) := by decide +kernel
theorem dX8_seal_0 : decode cX8_seal 0 = .ok (.aload_n 0, 1) := by decide +kernel
theorem dX8_seal_1 : decode cX8_seal 1 = .ok (.getfield 137, 3) := by decide +kernel
theorem dX8_seal_4 : decode cX8_seal 4 = .ok (.istore_n 2, 1) := by decide +kernel
theorem dX8_seal_5 : decode cX8_seal 5 = .ok (.aload_n 0, 1) := by decide +kernel
theorem dX8_seal_6 : decode cX8_seal 6 = .ok (.iconst 0, 1) := by decide +kernel
theorem dX8_seal_7 : decode cX8_seal 7 = .ok (.putfield 137, 3) := by decide +kernel
theorem dX8_seal_10 : decode cX8_seal 10 = .ok (.iload_n 1, 1) := by decide +kernel
theorem dX8_seal_11 : decode cX8_seal 11 = .ok (.iconst (-1), 1) := by decide +kernel
theorem dX8_seal_12 : decode cX8_seal 12 = .ok (.if_icmp .eq 11, 3) := by decide +kernel
theorem dX8_seal_15 : decode cX8_seal 15 = .ok (.aload_n 0, 1) := by decide +kernel
theorem dX8_seal_16 : decode cX8_seal 16 = .ok (.iload_n 1, 1) := by decide +kernel
theorem dX8_seal_17 : decode cX8_seal 17 = .ok (.invokevirtual 182, 3) := by decide +kernel
theorem dX8_seal_20 : decode cX8_seal 20 = .ok (.ifCond .eq 10, 3) := by decide +kernel
theorem dX8_seal_23 : decode cX8_seal 23 = .ok (.iload_n 2, 1) := by decide +kernel
theorem dX8_seal_24 : decode cX8_seal 24 = .ok (.sipush 128, 3) := by decide +kernel
theorem dX8_seal_27 : decode cX8_seal 27 = .ok (.if_icmp .le 5, 3) := by decide +kernel
theorem dX8_seal_30 : decode cX8_seal 30 = .ok (.iconst (-1), 1) := by decide +kernel
theorem dX8_seal_31 : decode cX8_seal 31 = .ok (.ireturn, 1) := by decide +kernel
theorem dX8_seal_32 : decode cX8_seal 32 = .ok (.aload_n 0, 1) := by decide +kernel
theorem dX8_seal_33 : decode cX8_seal 33 = .ok (.iconst 0, 1) := by decide +kernel
theorem dX8_seal_34 : decode cX8_seal 34 = .ok (.putfield 143, 3) := by decide +kernel
theorem dX8_seal_37 : decode cX8_seal 37 = .ok (.aload_n 0, 1) := by decide +kernel
theorem dX8_seal_38 : decode cX8_seal 38 = .ok (.aload_n 0, 1) := by decide +kernel
theorem dX8_seal_39 : decode cX8_seal 39 = .ok (.getfield 203, 3) := by decide +kernel
theorem dX8_seal_42 : decode cX8_seal 42 = .ok (.invokevirtual 166, 3) := by decide +kernel
theorem dX8_seal_45 : decode cX8_seal 45 = .ok (.iconst 0, 1) := by decide +kernel
theorem dX8_seal_46 : decode cX8_seal 46 = .ok (.istore_n 3, 1) := by decide +kernel
theorem dX8_seal_47 : decode cX8_seal 47 = .ok (.iload_n 3, 1) := by decide +kernel
theorem dX8_seal_48 : decode cX8_seal 48 = .ok (.bipush 32, 2) := by decide +kernel
theorem dX8_seal_50 : decode cX8_seal 50 = .ok (.if_icmp .ge 32, 3) := by decide +kernel
theorem dX8_seal_53 : decode cX8_seal 53 = .ok (.aload_n 0, 1) := by decide +kernel
theorem dX8_seal_54 : decode cX8_seal 54 = .ok (.iload_n 1, 1) := by decide +kernel
theorem dX8_seal_55 : decode cX8_seal 55 = .ok (.ifCond .ge 7, 3) := by decide +kernel
theorem dX8_seal_58 : decode cX8_seal 58 = .ok (.iconst 0, 1) := by decide +kernel
theorem dX8_seal_59 : decode cX8_seal 59 = .ok (.goto 14, 3) := by decide +kernel
theorem dX8_seal_62 : decode cX8_seal 62 = .ok (.aload_n 0, 1) := by decide +kernel
theorem dX8_seal_63 : decode cX8_seal 63 = .ok (.getfield 51, 3) := by decide +kernel
theorem dX8_seal_66 : decode cX8_seal 66 = .ok (.bipush 32, 2) := by decide +kernel
theorem dX8_seal_68 : decode cX8_seal 68 = .ok (.iload_n 1, 1) := by decide +kernel
theorem dX8_seal_69 : decode cX8_seal 69 = .ok (.imul, 1) := by decide +kernel
theorem dX8_seal_70 : decode cX8_seal 70 = .ok (.iload_n 3, 1) := by decide +kernel
theorem dX8_seal_71 : decode cX8_seal 71 = .ok (.iadd, 1) := by decide +kernel
theorem dX8_seal_72 : decode cX8_seal 72 = .ok (.baload, 1) := by decide +kernel
theorem dX8_seal_73 : decode cX8_seal 73 = .ok (.invokevirtual 160, 3) := by decide +kernel
theorem dX8_seal_76 : decode cX8_seal 76 = .ok (.iinc 3 1, 3) := by decide +kernel
theorem dX8_seal_79 : decode cX8_seal 79 = .ok (.goto (-32), 3) := by decide +kernel
theorem dX8_seal_82 : decode cX8_seal 82 = .ok (.iconst 0, 1) := by decide +kernel
theorem dX8_seal_83 : decode cX8_seal 83 = .ok (.istore_n 3, 1) := by decide +kernel
theorem dX8_seal_84 : decode cX8_seal 84 = .ok (.iload_n 3, 1) := by decide +kernel
theorem dX8_seal_85 : decode cX8_seal 85 = .ok (.bipush 32, 2) := by decide +kernel
theorem dX8_seal_87 : decode cX8_seal 87 = .ok (.if_icmp .ge 19, 3) := by decide +kernel
theorem dX8_seal_90 : decode cX8_seal 90 = .ok (.aload_n 0, 1) := by decide +kernel
theorem dX8_seal_91 : decode cX8_seal 91 = .ok (.aload_n 0, 1) := by decide +kernel
theorem dX8_seal_92 : decode cX8_seal 92 = .ok (.getfield 38, 3) := by decide +kernel
theorem dX8_seal_95 : decode cX8_seal 95 = .ok (.iload_n 3, 1) := by decide +kernel
theorem dX8_seal_96 : decode cX8_seal 96 = .ok (.baload, 1) := by decide +kernel
theorem dX8_seal_97 : decode cX8_seal 97 = .ok (.invokevirtual 160, 3) := by decide +kernel
theorem dX8_seal_100 : decode cX8_seal 100 = .ok (.iinc 3 1, 3) := by decide +kernel
theorem dX8_seal_103 : decode cX8_seal 103 = .ok (.goto (-19), 3) := by decide +kernel
theorem dX8_seal_106 : decode cX8_seal 106 = .ok (.aload_n 0, 1) := by decide +kernel
theorem dX8_seal_107 : decode cX8_seal 107 = .ok (.iload_n 2, 1) := by decide +kernel
theorem dX8_seal_108 : decode cX8_seal 108 = .ok (.invokevirtual 160, 3) := by decide +kernel
theorem dX8_seal_111 : decode cX8_seal 111 = .ok (.iconst 0, 1) := by decide +kernel
theorem dX8_seal_112 : decode cX8_seal 112 = .ok (.istore_n 3, 1) := by decide +kernel
theorem dX8_seal_113 : decode cX8_seal 113 = .ok (.iload_n 3, 1) := by decide +kernel
theorem dX8_seal_114 : decode cX8_seal 114 = .ok (.iload_n 2, 1) := by decide +kernel
theorem dX8_seal_115 : decode cX8_seal 115 = .ok (.if_icmp .ge 19, 3) := by decide +kernel
theorem dX8_seal_118 : decode cX8_seal 118 = .ok (.aload_n 0, 1) := by decide +kernel
theorem dX8_seal_119 : decode cX8_seal 119 = .ok (.aload_n 0, 1) := by decide +kernel
theorem dX8_seal_120 : decode cX8_seal 120 = .ok (.getfield 9, 3) := by decide +kernel
theorem dX8_seal_123 : decode cX8_seal 123 = .ok (.iload_n 3, 1) := by decide +kernel
theorem dX8_seal_124 : decode cX8_seal 124 = .ok (.baload, 1) := by decide +kernel
theorem dX8_seal_125 : decode cX8_seal 125 = .ok (.invokevirtual 160, 3) := by decide +kernel
theorem dX8_seal_128 : decode cX8_seal 128 = .ok (.iinc 3 1, 3) := by decide +kernel
theorem dX8_seal_131 : decode cX8_seal 131 = .ok (.goto (-18), 3) := by decide +kernel
theorem dX8_seal_134 : decode cX8_seal 134 = .ok (.aload_n 0, 1) := by decide +kernel
theorem dX8_seal_135 : decode cX8_seal 135 = .ok (.aload_n 0, 1) := by decide +kernel
theorem dX8_seal_136 : decode cX8_seal 136 = .ok (.getfield 13, 3) := by decide +kernel
theorem dX8_seal_139 : decode cX8_seal 139 = .ok (.bipush 36, 2) := by decide +kernel
theorem dX8_seal_141 : decode cX8_seal 141 = .ok (.bipush 33, 2) := by decide +kernel
theorem dX8_seal_143 : decode cX8_seal 143 = .ok (.iload_n 2, 1) := by decide +kernel
theorem dX8_seal_144 : decode cX8_seal 144 = .ok (.iadd, 1) := by decide +kernel
theorem dX8_seal_145 : decode cX8_seal 145 = .ok (.aload_n 0, 1) := by decide +kernel
theorem dX8_seal_146 : decode cX8_seal 146 = .ok (.getfield 203, 3) := by decide +kernel
theorem dX8_seal_149 : decode cX8_seal 149 = .ok (.invokevirtual 206, 3) := by decide +kernel
theorem dX8_seal_152 : decode cX8_seal 152 = .ok (.aload_n 0, 1) := by decide +kernel
theorem dX8_seal_153 : decode cX8_seal 153 = .ok (.aload_n 0, 1) := by decide +kernel
theorem dX8_seal_154 : decode cX8_seal 154 = .ok (.getfield 13, 3) := by decide +kernel
theorem dX8_seal_157 : decode cX8_seal 157 = .ok (.aload_n 0, 1) := by decide +kernel
theorem dX8_seal_158 : decode cX8_seal 158 = .ok (.getfield 143, 3) := by decide +kernel
theorem dX8_seal_161 : decode cX8_seal 161 = .ok (.aload_n 0, 1) := by decide +kernel
theorem dX8_seal_162 : decode cX8_seal 162 = .ok (.getfield 203, 3) := by decide +kernel
theorem dX8_seal_165 : decode cX8_seal 165 = .ok (.aload_n 0, 1) := by decide +kernel
theorem dX8_seal_166 : decode cX8_seal 166 = .ok (.getfield 13, 3) := by decide +kernel
theorem dX8_seal_169 : decode cX8_seal 169 = .ok (.aload_n 0, 1) := by decide +kernel
theorem dX8_seal_170 : decode cX8_seal 170 = .ok (.getfield 143, 3) := by decide +kernel
theorem dX8_seal_173 : decode cX8_seal 173 = .ok (.invokevirtual 210, 3) := by decide +kernel
theorem dX8_seal_176 : decode cX8_seal 176 = .ok (.aload_n 0, 1) := by decide +kernel
theorem dX8_seal_177 : decode cX8_seal 177 = .ok (.dup, 1) := by decide +kernel
theorem dX8_seal_178 : decode cX8_seal 178 = .ok (.getfield 143, 3) := by decide +kernel
theorem dX8_seal_181 : decode cX8_seal 181 = .ok (.bipush 32, 2) := by decide +kernel
theorem dX8_seal_183 : decode cX8_seal 183 = .ok (.iadd, 1) := by decide +kernel
theorem dX8_seal_184 : decode cX8_seal 184 = .ok (.putfield 143, 3) := by decide +kernel
theorem dX8_seal_187 : decode cX8_seal 187 = .ok (.aload_n 0, 1) := by decide +kernel
theorem dX8_seal_188 : decode cX8_seal 188 = .ok (.dup, 1) := by decide +kernel
theorem dX8_seal_189 : decode cX8_seal 189 = .ok (.getfield 203, 3) := by decide +kernel
theorem dX8_seal_192 : decode cX8_seal 192 = .ok (.iconst 1, 1) := by decide +kernel
theorem dX8_seal_193 : decode cX8_seal 193 = .ok (.iadd, 1) := by decide +kernel
theorem dX8_seal_194 : decode cX8_seal 194 = .ok (.putfield 203, 3) := by decide +kernel
theorem dX8_seal_197 : decode cX8_seal 197 = .ok (.aload_n 0, 1) := by decide +kernel
theorem dX8_seal_198 : decode cX8_seal 198 = .ok (.getfield 143, 3) := by decide +kernel
theorem dX8_seal_201 : decode cX8_seal 201 = .ok (.ireturn, 1) := by decide +kernel
theorem dX8_load_0 : decode cX8_load 0 = .ok (.aload_n 0, 1) := by decide +kernel
theorem dX8_load_1 : decode cX8_load 1 = .ok (.getfield 137, 3) := by decide +kernel
theorem dX8_load_4 : decode cX8_load 4 = .ok (.istore_n 1, 1) := by decide +kernel
theorem dX8_load_5 : decode cX8_load 5 = .ok (.aload_n 0, 1) := by decide +kernel
theorem dX8_load_6 : decode cX8_load 6 = .ok (.iconst 0, 1) := by decide +kernel
theorem dX8_load_7 : decode cX8_load 7 = .ok (.putfield 137, 3) := by decide +kernel
theorem dX8_load_10 : decode cX8_load 10 = .ok (.iload_n 1, 1) := by decide +kernel
theorem dX8_load_11 : decode cX8_load 11 = .ok (.bipush 101, 2) := by decide +kernel
theorem dX8_load_13 : decode cX8_load 13 = .ok (.if_icmp .lt 10, 3) := by decide +kernel
theorem dX8_load_16 : decode cX8_load 16 = .ok (.iload_n 1, 1) := by decide +kernel
theorem dX8_load_17 : decode cX8_load 17 = .ok (.sipush 229, 3) := by decide +kernel
theorem dX8_load_20 : decode cX8_load 20 = .ok (.if_icmp .le 6, 3) := by decide +kernel
theorem dX8_load_23 : decode cX8_load 23 = .ok (.bipush (-6), 2) := by decide +kernel
theorem dX8_load_25 : decode cX8_load 25 = .ok (.ireturn, 1) := by decide +kernel
theorem dX8_load_26 : decode cX8_load 26 = .ok (.aload_n 0, 1) := by decide +kernel
theorem dX8_load_27 : decode cX8_load 27 = .ok (.getfield 9, 3) := by decide +kernel
theorem dX8_load_30 : decode cX8_load 30 = .ok (.iconst 0, 1) := by decide +kernel
theorem dX8_load_31 : decode cX8_load 31 = .ok (.baload, 1) := by decide +kernel
theorem dX8_load_32 : decode cX8_load 32 = .ok (.sipush 255, 3) := by decide +kernel
theorem dX8_load_35 : decode cX8_load 35 = .ok (.iand, 1) := by decide +kernel
theorem dX8_load_36 : decode cX8_load 36 = .ok (.bipush 24, 2) := by decide +kernel
theorem dX8_load_38 : decode cX8_load 38 = .ok (.ishl, 1) := by decide +kernel
theorem dX8_load_39 : decode cX8_load 39 = .ok (.aload_n 0, 1) := by decide +kernel
theorem dX8_load_40 : decode cX8_load 40 = .ok (.getfield 9, 3) := by decide +kernel
theorem dX8_load_43 : decode cX8_load 43 = .ok (.iconst 1, 1) := by decide +kernel
theorem dX8_load_44 : decode cX8_load 44 = .ok (.baload, 1) := by decide +kernel
theorem dX8_load_45 : decode cX8_load 45 = .ok (.sipush 255, 3) := by decide +kernel
theorem dX8_load_48 : decode cX8_load 48 = .ok (.iand, 1) := by decide +kernel
theorem dX8_load_49 : decode cX8_load 49 = .ok (.bipush 16, 2) := by decide +kernel
theorem dX8_load_51 : decode cX8_load 51 = .ok (.ishl, 1) := by decide +kernel
theorem dX8_load_52 : decode cX8_load 52 = .ok (.ior, 1) := by decide +kernel
theorem dX8_load_53 : decode cX8_load 53 = .ok (.aload_n 0, 1) := by decide +kernel
theorem dX8_load_54 : decode cX8_load 54 = .ok (.getfield 9, 3) := by decide +kernel
theorem dX8_load_57 : decode cX8_load 57 = .ok (.iconst 2, 1) := by decide +kernel
theorem dX8_load_58 : decode cX8_load 58 = .ok (.baload, 1) := by decide +kernel
theorem dX8_load_59 : decode cX8_load 59 = .ok (.sipush 255, 3) := by decide +kernel
theorem dX8_load_62 : decode cX8_load 62 = .ok (.iand, 1) := by decide +kernel
theorem dX8_load_63 : decode cX8_load 63 = .ok (.bipush 8, 2) := by decide +kernel
theorem dX8_load_65 : decode cX8_load 65 = .ok (.ishl, 1) := by decide +kernel
theorem dX8_load_66 : decode cX8_load 66 = .ok (.ior, 1) := by decide +kernel
theorem dX8_load_67 : decode cX8_load 67 = .ok (.aload_n 0, 1) := by decide +kernel
theorem dX8_load_68 : decode cX8_load 68 = .ok (.getfield 9, 3) := by decide +kernel
theorem dX8_load_71 : decode cX8_load 71 = .ok (.iconst 3, 1) := by decide +kernel
theorem dX8_load_72 : decode cX8_load 72 = .ok (.baload, 1) := by decide +kernel
theorem dX8_load_73 : decode cX8_load 73 = .ok (.sipush 255, 3) := by decide +kernel
theorem dX8_load_76 : decode cX8_load 76 = .ok (.iand, 1) := by decide +kernel
theorem dX8_load_77 : decode cX8_load 77 = .ok (.ior, 1) := by decide +kernel
theorem dX8_load_78 : decode cX8_load 78 = .ok (.istore_n 2, 1) := by decide +kernel
theorem dX8_load_79 : decode cX8_load 79 = .ok (.aload_n 0, 1) := by decide +kernel
theorem dX8_load_80 : decode cX8_load 80 = .ok (.aload_n 0, 1) := by decide +kernel
theorem dX8_load_81 : decode cX8_load 81 = .ok (.getfield 9, 3) := by decide +kernel
theorem dX8_load_84 : decode cX8_load 84 = .ok (.iload_n 1, 1) := by decide +kernel
theorem dX8_load_85 : decode cX8_load 85 = .ok (.bipush 32, 2) := by decide +kernel
theorem dX8_load_87 : decode cX8_load 87 = .ok (.isub, 1) := by decide +kernel
theorem dX8_load_88 : decode cX8_load 88 = .ok (.iload_n 2, 1) := by decide +kernel
theorem dX8_load_89 : decode cX8_load 89 = .ok (.aload_n 0, 1) := by decide +kernel
theorem dX8_load_90 : decode cX8_load 90 = .ok (.getfield 97, 3) := by decide +kernel
theorem dX8_load_93 : decode cX8_load 93 = .ok (.iconst 0, 1) := by decide +kernel
theorem dX8_load_94 : decode cX8_load 94 = .ok (.invokevirtual 210, 3) := by decide +kernel
theorem dX8_load_97 : decode cX8_load 97 = .ok (.aload_n 0, 1) := by decide +kernel
theorem dX8_load_98 : decode cX8_load 98 = .ok (.getfield 97, 3) := by decide +kernel
theorem dX8_load_101 : decode cX8_load 101 = .ok (.iconst 0, 1) := by decide +kernel
theorem dX8_load_102 : decode cX8_load 102 = .ok (.aload_n 0, 1) := by decide +kernel
theorem dX8_load_103 : decode cX8_load 103 = .ok (.getfield 9, 3) := by decide +kernel
theorem dX8_load_106 : decode cX8_load 106 = .ok (.iload_n 1, 1) := by decide +kernel
theorem dX8_load_107 : decode cX8_load 107 = .ok (.bipush 32, 2) := by decide +kernel
theorem dX8_load_109 : decode cX8_load 109 = .ok (.isub, 1) := by decide +kernel
theorem dX8_load_110 : decode cX8_load 110 = .ok (.invokestatic 189, 3) := by decide +kernel
theorem dX8_load_113 : decode cX8_load 113 = .ok (.ifCond .ne 6, 3) := by decide +kernel
theorem dX8_load_116 : decode cX8_load 116 = .ok (.bipush (-6), 2) := by decide +kernel
theorem dX8_load_118 : decode cX8_load 118 = .ok (.ireturn, 1) := by decide +kernel
theorem dX8_load_119 : decode cX8_load 119 = .ok (.aload_n 0, 1) := by decide +kernel
theorem dX8_load_120 : decode cX8_load 120 = .ok (.aload_n 0, 1) := by decide +kernel
theorem dX8_load_121 : decode cX8_load 121 = .ok (.getfield 9, 3) := by decide +kernel
theorem dX8_load_124 : decode cX8_load 124 = .ok (.bipush 36, 2) := by decide +kernel
theorem dX8_load_126 : decode cX8_load 126 = .ok (.iload_n 1, 1) := by decide +kernel
theorem dX8_load_127 : decode cX8_load 127 = .ok (.bipush 68, 2) := by decide +kernel
theorem dX8_load_129 : decode cX8_load 129 = .ok (.isub, 1) := by decide +kernel
theorem dX8_load_130 : decode cX8_load 130 = .ok (.iload_n 2, 1) := by decide +kernel
theorem dX8_load_131 : decode cX8_load 131 = .ok (.invokevirtual 206, 3) := by decide +kernel
theorem dX8_load_134 : decode cX8_load 134 = .ok (.aload_n 0, 1) := by decide +kernel
theorem dX8_load_135 : decode cX8_load 135 = .ok (.getfield 9, 3) := by decide +kernel
theorem dX8_load_138 : decode cX8_load 138 = .ok (.bipush 68, 2) := by decide +kernel
theorem dX8_load_140 : decode cX8_load 140 = .ok (.baload, 1) := by decide +kernel
theorem dX8_load_141 : decode cX8_load 141 = .ok (.sipush 255, 3) := by decide +kernel
theorem dX8_load_144 : decode cX8_load 144 = .ok (.iand, 1) := by decide +kernel
theorem dX8_load_145 : decode cX8_load 145 = .ok (.iload_n 1, 1) := by decide +kernel
theorem dX8_load_146 : decode cX8_load 146 = .ok (.bipush 101, 2) := by decide +kernel
theorem dX8_load_148 : decode cX8_load 148 = .ok (.isub, 1) := by decide +kernel
theorem dX8_load_149 : decode cX8_load 149 = .ok (.if_icmp .eq 6, 3) := by decide +kernel
theorem dX8_load_152 : decode cX8_load 152 = .ok (.bipush (-6), 2) := by decide +kernel
theorem dX8_load_154 : decode cX8_load 154 = .ok (.ireturn, 1) := by decide +kernel
theorem dX8_load_155 : decode cX8_load 155 = .ok (.iconst 0, 1) := by decide +kernel
theorem dX8_load_156 : decode cX8_load 156 = .ok (.istore_n 3, 1) := by decide +kernel
theorem dX8_load_157 : decode cX8_load 157 = .ok (.iload_n 3, 1) := by decide +kernel
theorem dX8_load_158 : decode cX8_load 158 = .ok (.iconst 4, 1) := by decide +kernel
theorem dX8_load_159 : decode cX8_load 159 = .ok (.if_icmp .ge 18, 3) := by decide +kernel
theorem dX8_load_162 : decode cX8_load 162 = .ok (.aload_n 0, 1) := by decide +kernel
theorem dX8_load_163 : decode cX8_load 163 = .ok (.getfield 73, 3) := by decide +kernel
theorem dX8_load_166 : decode cX8_load 166 = .ok (.iload_n 3, 1) := by decide +kernel
theorem dX8_load_167 : decode cX8_load 167 = .ok (.baload, 1) := by decide +kernel
theorem dX8_load_168 : decode cX8_load 168 = .ok (.ifCond .eq 9, 3) := by decide +kernel
theorem dX8_load_171 : decode cX8_load 171 = .ok (.iinc 3 1, 3) := by decide +kernel
theorem dX8_load_174 : decode cX8_load 174 = .ok (.goto (-17), 3) := by decide +kernel
theorem dX8_load_177 : decode cX8_load 177 = .ok (.iload_n 3, 1) := by decide +kernel
theorem dX8_load_178 : decode cX8_load 178 = .ok (.iconst 4, 1) := by decide +kernel
theorem dX8_load_179 : decode cX8_load 179 = .ok (.if_icmp .ne 6, 3) := by decide +kernel
theorem dX8_load_182 : decode cX8_load 182 = .ok (.bipush (-3), 2) := by decide +kernel
theorem dX8_load_184 : decode cX8_load 184 = .ok (.ireturn, 1) := by decide +kernel
theorem dX8_load_185 : decode cX8_load 185 = .ok (.aload_n 0, 1) := by decide +kernel
theorem dX8_load_186 : decode cX8_load 186 = .ok (.getfield 73, 3) := by decide +kernel
theorem dX8_load_189 : decode cX8_load 189 = .ok (.iload_n 3, 1) := by decide +kernel
theorem dX8_load_190 : decode cX8_load 190 = .ok (.iconst 1, 1) := by decide +kernel
theorem dX8_load_191 : decode cX8_load 191 = .ok (.bastore, 1) := by decide +kernel
theorem dX8_load_192 : decode cX8_load 192 = .ok (.iconst 0, 1) := by decide +kernel
theorem dX8_load_193 : decode cX8_load 193 = .ok (.istore 4, 2) := by decide +kernel
theorem dX8_load_195 : decode cX8_load 195 = .ok (.iload 4, 2) := by decide +kernel
theorem dX8_load_197 : decode cX8_load 197 = .ok (.bipush 32, 2) := by decide +kernel
theorem dX8_load_199 : decode cX8_load 199 = .ok (.if_icmp .ge 52, 3) := by decide +kernel
theorem dX8_load_202 : decode cX8_load 202 = .ok (.aload_n 0, 1) := by decide +kernel
theorem dX8_load_203 : decode cX8_load 203 = .ok (.getfield 79, 3) := by decide +kernel
theorem dX8_load_206 : decode cX8_load 206 = .ok (.bipush 32, 2) := by decide +kernel
theorem dX8_load_208 : decode cX8_load 208 = .ok (.iload_n 3, 1) := by decide +kernel
theorem dX8_load_209 : decode cX8_load 209 = .ok (.imul, 1) := by decide +kernel
theorem dX8_load_210 : decode cX8_load 210 = .ok (.iload 4, 2) := by decide +kernel
theorem dX8_load_212 : decode cX8_load 212 = .ok (.iadd, 1) := by decide +kernel
theorem dX8_load_213 : decode cX8_load 213 = .ok (.aload_n 0, 1) := by decide +kernel
theorem dX8_load_214 : decode cX8_load 214 = .ok (.getfield 9, 3) := by decide +kernel
theorem dX8_load_217 : decode cX8_load 217 = .ok (.iconst 4, 1) := by decide +kernel
theorem dX8_load_218 : decode cX8_load 218 = .ok (.iload 4, 2) := by decide +kernel
theorem dX8_load_220 : decode cX8_load 220 = .ok (.iadd, 1) := by decide +kernel
theorem dX8_load_221 : decode cX8_load 221 = .ok (.baload, 1) := by decide +kernel
theorem dX8_load_222 : decode cX8_load 222 = .ok (.bastore, 1) := by decide +kernel
theorem dX8_load_223 : decode cX8_load 223 = .ok (.aload_n 0, 1) := by decide +kernel
theorem dX8_load_224 : decode cX8_load 224 = .ok (.getfield 76, 3) := by decide +kernel
theorem dX8_load_227 : decode cX8_load 227 = .ok (.bipush 32, 2) := by decide +kernel
theorem dX8_load_229 : decode cX8_load 229 = .ok (.iload_n 3, 1) := by decide +kernel
theorem dX8_load_230 : decode cX8_load 230 = .ok (.imul, 1) := by decide +kernel
theorem dX8_load_231 : decode cX8_load 231 = .ok (.iload 4, 2) := by decide +kernel
theorem dX8_load_233 : decode cX8_load 233 = .ok (.iadd, 1) := by decide +kernel
theorem dX8_load_234 : decode cX8_load 234 = .ok (.aload_n 0, 1) := by decide +kernel
theorem dX8_load_235 : decode cX8_load 235 = .ok (.getfield 9, 3) := by decide +kernel
theorem dX8_load_238 : decode cX8_load 238 = .ok (.bipush 36, 2) := by decide +kernel
theorem dX8_load_240 : decode cX8_load 240 = .ok (.iload 4, 2) := by decide +kernel
theorem dX8_load_242 : decode cX8_load 242 = .ok (.iadd, 1) := by decide +kernel
theorem dX8_load_243 : decode cX8_load 243 = .ok (.baload, 1) := by decide +kernel
theorem dX8_load_244 : decode cX8_load 244 = .ok (.bastore, 1) := by decide +kernel
theorem dX8_load_245 : decode cX8_load 245 = .ok (.iinc 4 1, 3) := by decide +kernel
theorem dX8_load_248 : decode cX8_load 248 = .ok (.goto (-53), 3) := by decide +kernel
theorem dX8_load_251 : decode cX8_load 251 = .ok (.aload_n 0, 1) := by decide +kernel
theorem dX8_load_252 : decode cX8_load 252 = .ok (.getfield 85, 3) := by decide +kernel
theorem dX8_load_255 : decode cX8_load 255 = .ok (.iload_n 3, 1) := by decide +kernel
theorem dX8_load_256 : decode cX8_load 256 = .ok (.aload_n 0, 1) := by decide +kernel
theorem dX8_load_257 : decode cX8_load 257 = .ok (.getfield 9, 3) := by decide +kernel
theorem dX8_load_260 : decode cX8_load 260 = .ok (.bipush 68, 2) := by decide +kernel
theorem dX8_load_262 : decode cX8_load 262 = .ok (.baload, 1) := by decide +kernel
theorem dX8_load_263 : decode cX8_load 263 = .ok (.sipush 255, 3) := by decide +kernel
theorem dX8_load_266 : decode cX8_load 266 = .ok (.iand, 1) := by decide +kernel
theorem dX8_load_267 : decode cX8_load 267 = .ok (.iastore, 1) := by decide +kernel
theorem dX8_load_268 : decode cX8_load 268 = .ok (.iconst 0, 1) := by decide +kernel
theorem dX8_load_269 : decode cX8_load 269 = .ok (.istore 4, 2) := by decide +kernel
theorem dX8_load_271 : decode cX8_load 271 = .ok (.iload 4, 2) := by decide +kernel
theorem dX8_load_273 : decode cX8_load 273 = .ok (.aload_n 0, 1) := by decide +kernel
theorem dX8_load_274 : decode cX8_load 274 = .ok (.getfield 85, 3) := by decide +kernel
theorem dX8_load_277 : decode cX8_load 277 = .ok (.iload_n 3, 1) := by decide +kernel
theorem dX8_load_278 : decode cX8_load 278 = .ok (.iaload, 1) := by decide +kernel
theorem dX8_load_279 : decode cX8_load 279 = .ok (.if_icmp .ge 32, 3) := by decide +kernel
theorem dX8_load_282 : decode cX8_load 282 = .ok (.aload_n 0, 1) := by decide +kernel
theorem dX8_load_283 : decode cX8_load 283 = .ok (.getfield 82, 3) := by decide +kernel
theorem dX8_load_286 : decode cX8_load 286 = .ok (.sipush 128, 3) := by decide +kernel
theorem dX8_load_289 : decode cX8_load 289 = .ok (.iload_n 3, 1) := by decide +kernel
theorem dX8_load_290 : decode cX8_load 290 = .ok (.imul, 1) := by decide +kernel
theorem dX8_load_291 : decode cX8_load 291 = .ok (.iload 4, 2) := by decide +kernel
theorem dX8_load_293 : decode cX8_load 293 = .ok (.iadd, 1) := by decide +kernel
theorem dX8_load_294 : decode cX8_load 294 = .ok (.aload_n 0, 1) := by decide +kernel
theorem dX8_load_295 : decode cX8_load 295 = .ok (.getfield 9, 3) := by decide +kernel
theorem dX8_load_298 : decode cX8_load 298 = .ok (.bipush 69, 2) := by decide +kernel
theorem dX8_load_300 : decode cX8_load 300 = .ok (.iload 4, 2) := by decide +kernel
theorem dX8_load_302 : decode cX8_load 302 = .ok (.iadd, 1) := by decide +kernel
theorem dX8_load_303 : decode cX8_load 303 = .ok (.baload, 1) := by decide +kernel
theorem dX8_load_304 : decode cX8_load 304 = .ok (.bastore, 1) := by decide +kernel
theorem dX8_load_305 : decode cX8_load 305 = .ok (.iinc 4 1, 3) := by decide +kernel
theorem dX8_load_308 : decode cX8_load 308 = .ok (.goto (-37), 3) := by decide +kernel
theorem dX8_load_311 : decode cX8_load 311 = .ok (.iload_n 3, 1) := by decide +kernel
theorem dX8_load_312 : decode cX8_load 312 = .ok (.ireturn, 1) := by decide +kernel
theorem dX8_isObject_0 : decode cX8_isObject 0 = .ok (.iload_n 1, 1) := by decide +kernel
theorem dX8_isObject_1 : decode cX8_isObject 1 = .ok (.ifCond .lt 21, 3) := by decide +kernel
theorem dX8_isObject_4 : decode cX8_isObject 4 = .ok (.iload_n 1, 1) := by decide +kernel
theorem dX8_isObject_5 : decode cX8_isObject 5 = .ok (.iconst 4, 1) := by decide +kernel
theorem dX8_isObject_6 : decode cX8_isObject 6 = .ok (.if_icmp .ge 16, 3) := by decide +kernel
theorem dX8_isObject_9 : decode cX8_isObject 9 = .ok (.aload_n 0, 1) := by decide +kernel
theorem dX8_isObject_10 : decode cX8_isObject 10 = .ok (.getfield 73, 3) := by decide +kernel
theorem dX8_isObject_13 : decode cX8_isObject 13 = .ok (.iload_n 1, 1) := by decide +kernel
theorem dX8_isObject_14 : decode cX8_isObject 14 = .ok (.baload, 1) := by decide +kernel
theorem dX8_isObject_15 : decode cX8_isObject 15 = .ok (.ifCond .eq 7, 3) := by decide +kernel
theorem dX8_isObject_18 : decode cX8_isObject 18 = .ok (.iconst 1, 1) := by decide +kernel
theorem dX8_isObject_19 : decode cX8_isObject 19 = .ok (.goto 4, 3) := by decide +kernel
theorem dX8_isObject_22 : decode cX8_isObject 22 = .ok (.iconst 0, 1) := by decide +kernel
theorem dX8_isObject_23 : decode cX8_isObject 23 = .ok (.ireturn, 1) := by decide +kernel
theorem dX8_show_0 : decode cX8_show 0 = .ok (.aload_n 0, 1) := by decide +kernel
theorem dX8_show_1 : decode cX8_show 1 = .ok (.aload_n 0, 1) := by decide +kernel
theorem dX8_show_2 : decode cX8_show 2 = .ok (.getfield 85, 3) := by decide +kernel
theorem dX8_show_5 : decode cX8_show 5 = .ok (.iload_n 1, 1) := by decide +kernel
theorem dX8_show_6 : decode cX8_show 6 = .ok (.iaload, 1) := by decide +kernel
theorem dX8_show_7 : decode cX8_show 7 = .ok (.putfield 143, 3) := by decide +kernel
theorem dX8_show_10 : decode cX8_show 10 = .ok (.iconst 0, 1) := by decide +kernel
theorem dX8_show_11 : decode cX8_show 11 = .ok (.istore_n 2, 1) := by decide +kernel
theorem dX8_show_12 : decode cX8_show 12 = .ok (.iload_n 2, 1) := by decide +kernel
theorem dX8_show_13 : decode cX8_show 13 = .ok (.aload_n 0, 1) := by decide +kernel
theorem dX8_show_14 : decode cX8_show 14 = .ok (.getfield 143, 3) := by decide +kernel
theorem dX8_show_17 : decode cX8_show 17 = .ok (.if_icmp .ge 27, 3) := by decide +kernel
theorem dX8_show_20 : decode cX8_show 20 = .ok (.aload_n 0, 1) := by decide +kernel
theorem dX8_show_21 : decode cX8_show 21 = .ok (.getfield 13, 3) := by decide +kernel
theorem dX8_show_24 : decode cX8_show 24 = .ok (.iload_n 2, 1) := by decide +kernel
theorem dX8_show_25 : decode cX8_show 25 = .ok (.aload_n 0, 1) := by decide +kernel
theorem dX8_show_26 : decode cX8_show 26 = .ok (.getfield 82, 3) := by decide +kernel
theorem dX8_show_29 : decode cX8_show 29 = .ok (.sipush 128, 3) := by decide +kernel
theorem dX8_show_32 : decode cX8_show 32 = .ok (.iload_n 1, 1) := by decide +kernel
theorem dX8_show_33 : decode cX8_show 33 = .ok (.imul, 1) := by decide +kernel
theorem dX8_show_34 : decode cX8_show 34 = .ok (.iload_n 2, 1) := by decide +kernel
theorem dX8_show_35 : decode cX8_show 35 = .ok (.iadd, 1) := by decide +kernel
theorem dX8_show_36 : decode cX8_show 36 = .ok (.baload, 1) := by decide +kernel
theorem dX8_show_37 : decode cX8_show 37 = .ok (.bastore, 1) := by decide +kernel
theorem dX8_show_38 : decode cX8_show 38 = .ok (.iinc 2 1, 3) := by decide +kernel
theorem dX8_show_41 : decode cX8_show 41 = .ok (.goto (-29), 3) := by decide +kernel
theorem dX8_show_44 : decode cX8_show 44 = .ok (.aload_n 0, 1) := by decide +kernel
theorem dX8_show_45 : decode cX8_show 45 = .ok (.getfield 143, 3) := by decide +kernel
theorem dX8_show_48 : decode cX8_show 48 = .ok (.ireturn, 1) := by decide +kernel
theorem dX8_unseal_0 : decode cX8_unseal 0 = .ok (.aload_n 0, 1) := by decide +kernel
theorem dX8_unseal_1 : decode cX8_unseal 1 = .ok (.iload_n 1, 1) := by decide +kernel
theorem dX8_unseal_2 : decode cX8_unseal 2 = .ok (.invokevirtual 214, 3) := by decide +kernel
theorem dX8_unseal_5 : decode cX8_unseal 5 = .ok (.ifCond .ne 6, 3) := by decide +kernel
theorem dX8_unseal_8 : decode cX8_unseal 8 = .ok (.bipush (-2), 2) := by decide +kernel
theorem dX8_unseal_10 : decode cX8_unseal 10 = .ok (.ireturn, 1) := by decide +kernel
theorem dX8_unseal_11 : decode cX8_unseal 11 = .ok (.aload_n 0, 1) := by decide +kernel
theorem dX8_unseal_12 : decode cX8_unseal 12 = .ok (.iload_n 1, 1) := by decide +kernel
theorem dX8_unseal_13 : decode cX8_unseal 13 = .ok (.iload_n 2, 1) := by decide +kernel
theorem dX8_unseal_14 : decode cX8_unseal 14 = .ok (.iconst 1, 1) := by decide +kernel
theorem dX8_unseal_15 : decode cX8_unseal 15 = .ok (.invokevirtual 217, 3) := by decide +kernel
theorem dX8_unseal_18 : decode cX8_unseal 18 = .ok (.istore_n 3, 1) := by decide +kernel
theorem dX8_unseal_19 : decode cX8_unseal 19 = .ok (.iload_n 3, 1) := by decide +kernel
theorem dX8_unseal_20 : decode cX8_unseal 20 = .ok (.ifCond .ge 7, 3) := by decide +kernel
theorem dX8_unseal_23 : decode cX8_unseal 23 = .ok (.iload_n 3, 1) := by decide +kernel
theorem dX8_unseal_24 : decode cX8_unseal 24 = .ok (.goto 8, 3) := by decide +kernel
theorem dX8_unseal_27 : decode cX8_unseal 27 = .ok (.aload_n 0, 1) := by decide +kernel
theorem dX8_unseal_28 : decode cX8_unseal 28 = .ok (.iload_n 1, 1) := by decide +kernel
theorem dX8_unseal_29 : decode cX8_unseal 29 = .ok (.invokevirtual 221, 3) := by decide +kernel
theorem dX8_unseal_32 : decode cX8_unseal 32 = .ok (.ireturn, 1) := by decide +kernel
theorem dX8_flush_0 : decode cX8_flush 0 = .ok (.aload_n 0, 1) := by decide +kernel
theorem dX8_flush_1 : decode cX8_flush 1 = .ok (.iload_n 1, 1) := by decide +kernel
theorem dX8_flush_2 : decode cX8_flush 2 = .ok (.invokevirtual 214, 3) := by decide +kernel
theorem dX8_flush_5 : decode cX8_flush 5 = .ok (.ifCond .ne 6, 3) := by decide +kernel
theorem dX8_flush_8 : decode cX8_flush 8 = .ok (.bipush (-2), 2) := by decide +kernel
theorem dX8_flush_10 : decode cX8_flush 10 = .ok (.ireturn, 1) := by decide +kernel
theorem dX8_flush_11 : decode cX8_flush 11 = .ok (.aload_n 0, 1) := by decide +kernel
theorem dX8_flush_12 : decode cX8_flush 12 = .ok (.getfield 73, 3) := by decide +kernel
theorem dX8_flush_15 : decode cX8_flush 15 = .ok (.iload_n 1, 1) := by decide +kernel
theorem dX8_flush_16 : decode cX8_flush 16 = .ok (.iconst 0, 1) := by decide +kernel
theorem dX8_flush_17 : decode cX8_flush 17 = .ok (.bastore, 1) := by decide +kernel
theorem dX8_flush_18 : decode cX8_flush 18 = .ok (.iconst 0, 1) := by decide +kernel
theorem dX8_flush_19 : decode cX8_flush 19 = .ok (.ireturn, 1) := by decide +kernel
theorem dX8_thing_0 : decode cX8_thing 0 = .ok (.iload_n 1, 1) := by decide +kernel
theorem dX8_thing_1 : decode cX8_thing 1 = .ok (.ifCond .lt 42, 3) := by decide +kernel
theorem dX8_thing_4 : decode cX8_thing 4 = .ok (.iload_n 1, 1) := by decide +kernel
theorem dX8_thing_5 : decode cX8_thing 5 = .ok (.bipush 8, 2) := by decide +kernel
theorem dX8_thing_7 : decode cX8_thing 7 = .ok (.if_icmp .ge 36, 3) := by decide +kernel
theorem dX8_thing_10 : decode cX8_thing 10 = .ok (.aload_n 0, 1) := by decide +kernel
theorem dX8_thing_11 : decode cX8_thing 11 = .ok (.getfield 73, 3) := by decide +kernel
theorem dX8_thing_14 : decode cX8_thing 14 = .ok (.iconst 4, 1) := by decide +kernel
theorem dX8_thing_15 : decode cX8_thing 15 = .ok (.iload_n 1, 1) := by decide +kernel
theorem dX8_thing_16 : decode cX8_thing 16 = .ok (.iadd, 1) := by decide +kernel
theorem dX8_thing_17 : decode cX8_thing 17 = .ok (.baload, 1) := by decide +kernel
theorem dX8_thing_18 : decode cX8_thing 18 = .ok (.ifCond .eq 25, 3) := by decide +kernel
theorem dX8_thing_21 : decode cX8_thing 21 = .ok (.iload_n 2, 1) := by decide +kernel
theorem dX8_thing_22 : decode cX8_thing 22 = .ok (.ifCond .lt 15, 3) := by decide +kernel
theorem dX8_thing_25 : decode cX8_thing 25 = .ok (.aload_n 0, 1) := by decide +kernel
theorem dX8_thing_26 : decode cX8_thing 26 = .ok (.getfield 88, 3) := by decide +kernel
theorem dX8_thing_29 : decode cX8_thing 29 = .ok (.iconst 4, 1) := by decide +kernel
theorem dX8_thing_30 : decode cX8_thing 30 = .ok (.iload_n 1, 1) := by decide +kernel
theorem dX8_thing_31 : decode cX8_thing 31 = .ok (.iadd, 1) := by decide +kernel
theorem dX8_thing_32 : decode cX8_thing 32 = .ok (.iaload, 1) := by decide +kernel
theorem dX8_thing_33 : decode cX8_thing 33 = .ok (.iload_n 2, 1) := by decide +kernel
theorem dX8_thing_34 : decode cX8_thing 34 = .ok (.if_icmp .ne 9, 3) := by decide +kernel
theorem dX8_thing_37 : decode cX8_thing 37 = .ok (.iconst 4, 1) := by decide +kernel
theorem dX8_thing_38 : decode cX8_thing 38 = .ok (.iload_n 1, 1) := by decide +kernel
theorem dX8_thing_39 : decode cX8_thing 39 = .ok (.iadd, 1) := by decide +kernel
theorem dX8_thing_40 : decode cX8_thing 40 = .ok (.goto 4, 3) := by decide +kernel
theorem dX8_thing_43 : decode cX8_thing 43 = .ok (.iconst (-1), 1) := by decide +kernel
theorem dX8_thing_44 : decode cX8_thing 44 = .ok (.ireturn, 1) := by decide +kernel
theorem dX8_define_0 : decode cX8_define 0 = .ok (.aload_n 0, 1) := by decide +kernel
theorem dX8_define_1 : decode cX8_define 1 = .ok (.getfield 137, 3) := by decide +kernel
theorem dX8_define_4 : decode cX8_define 4 = .ok (.istore 5, 2) := by decide +kernel
theorem dX8_define_6 : decode cX8_define 6 = .ok (.aload_n 0, 1) := by decide +kernel
theorem dX8_define_7 : decode cX8_define 7 = .ok (.iconst 0, 1) := by decide +kernel
theorem dX8_define_8 : decode cX8_define 8 = .ok (.putfield 137, 3) := by decide +kernel
theorem dX8_define_11 : decode cX8_define 11 = .ok (.iload_n 1, 1) := by decide +kernel
theorem dX8_define_12 : decode cX8_define 12 = .ok (.ifCond .lt 48, 3) := by decide +kernel
theorem dX8_define_15 : decode cX8_define 15 = .ok (.iload_n 1, 1) := by decide +kernel
theorem dX8_define_16 : decode cX8_define 16 = .ok (.bipush 7, 2) := by decide +kernel
theorem dX8_define_18 : decode cX8_define 18 = .ok (.if_icmp .gt 42, 3) := by decide +kernel
theorem dX8_define_21 : decode cX8_define 21 = .ok (.iload_n 2, 1) := by decide +kernel
theorem dX8_define_22 : decode cX8_define 22 = .ok (.ifCond .lt 38, 3) := by decide +kernel
theorem dX8_define_25 : decode cX8_define 25 = .ok (.iload_n 2, 1) := by decide +kernel
theorem dX8_define_26 : decode cX8_define 26 = .ok (.iconst 2, 1) := by decide +kernel
theorem dX8_define_27 : decode cX8_define 27 = .ok (.if_icmp .gt 33, 3) := by decide +kernel
theorem dX8_define_30 : decode cX8_define 30 = .ok (.iload 4, 2) := by decide +kernel
theorem dX8_define_32 : decode cX8_define 32 = .ok (.iconst (-1), 1) := by decide +kernel
theorem dX8_define_33 : decode cX8_define 33 = .ok (.if_icmp .eq 12, 3) := by decide +kernel
theorem dX8_define_36 : decode cX8_define 36 = .ok (.aload_n 0, 1) := by decide +kernel
theorem dX8_define_37 : decode cX8_define 37 = .ok (.iload 4, 2) := by decide +kernel
theorem dX8_define_39 : decode cX8_define 39 = .ok (.invokevirtual 182, 3) := by decide +kernel
theorem dX8_define_42 : decode cX8_define 42 = .ok (.ifCond .eq 18, 3) := by decide +kernel
theorem dX8_define_45 : decode cX8_define 45 = .ok (.iload_n 2, 1) := by decide +kernel
theorem dX8_define_46 : decode cX8_define 46 = .ok (.ifCond .ne 16, 3) := by decide +kernel
theorem dX8_define_49 : decode cX8_define 49 = .ok (.iload_n 3, 1) := by decide +kernel
theorem dX8_define_50 : decode cX8_define 50 = .ok (.iconst 1, 1) := by decide +kernel
theorem dX8_define_51 : decode cX8_define 51 = .ok (.if_icmp .lt 9, 3) := by decide +kernel
theorem dX8_define_54 : decode cX8_define 54 = .ok (.iload_n 3, 1) := by decide +kernel
theorem dX8_define_55 : decode cX8_define 55 = .ok (.bipush 64, 2) := by decide +kernel
theorem dX8_define_57 : decode cX8_define 57 = .ok (.if_icmp .le 5, 3) := by decide +kernel
theorem dX8_define_60 : decode cX8_define 60 = .ok (.iconst (-1), 1) := by decide +kernel
theorem dX8_define_61 : decode cX8_define 61 = .ok (.ireturn, 1) := by decide +kernel
theorem dX8_define_62 : decode cX8_define 62 = .ok (.aload_n 0, 1) := by decide +kernel
theorem dX8_define_63 : decode cX8_define 63 = .ok (.getfield 73, 3) := by decide +kernel
theorem dX8_define_66 : decode cX8_define 66 = .ok (.iconst 4, 1) := by decide +kernel
theorem dX8_define_67 : decode cX8_define 67 = .ok (.iload_n 1, 1) := by decide +kernel
theorem dX8_define_68 : decode cX8_define 68 = .ok (.iadd, 1) := by decide +kernel
theorem dX8_define_69 : decode cX8_define 69 = .ok (.baload, 1) := by decide +kernel
theorem dX8_define_70 : decode cX8_define 70 = .ok (.ifCond .eq 6, 3) := by decide +kernel
theorem dX8_define_73 : decode cX8_define 73 = .ok (.bipush (-2), 2) := by decide +kernel
theorem dX8_define_75 : decode cX8_define 75 = .ok (.ireturn, 1) := by decide +kernel
theorem dX8_define_76 : decode cX8_define 76 = .ok (.aload_n 0, 1) := by decide +kernel
theorem dX8_define_77 : decode cX8_define 77 = .ok (.invokevirtual 225, 3) := by decide +kernel
theorem dX8_define_80 : decode cX8_define 80 = .ok (.istore 6, 2) := by decide +kernel
theorem dX8_define_82 : decode cX8_define 82 = .ok (.iload 6, 2) := by decide +kernel
theorem dX8_define_84 : decode cX8_define 84 = .ok (.ifCond .ge 6, 3) := by decide +kernel
theorem dX8_define_87 : decode cX8_define 87 = .ok (.iload 6, 2) := by decide +kernel
theorem dX8_define_89 : decode cX8_define 89 = .ok (.ireturn, 1) := by decide +kernel
theorem dX8_define_90 : decode cX8_define 90 = .ok (.iconst 4, 1) := by decide +kernel
theorem dX8_define_91 : decode cX8_define 91 = .ok (.iload_n 1, 1) := by decide +kernel
theorem dX8_define_92 : decode cX8_define 92 = .ok (.iadd, 1) := by decide +kernel
theorem dX8_define_93 : decode cX8_define 93 = .ok (.istore 7, 2) := by decide +kernel
theorem dX8_define_95 : decode cX8_define 95 = .ok (.aload_n 0, 1) := by decide +kernel
theorem dX8_define_96 : decode cX8_define 96 = .ok (.iconst 0, 1) := by decide +kernel
theorem dX8_define_97 : decode cX8_define 97 = .ok (.putfield 100, 3) := by decide +kernel
theorem dX8_define_100 : decode cX8_define 100 = .ok (.aload_n 0, 1) := by decide +kernel
theorem dX8_define_101 : decode cX8_define 101 = .ok (.aload_n 0, 1) := by decide +kernel
theorem dX8_define_102 : decode cX8_define 102 = .ok (.getfield 9, 3) := by decide +kernel
theorem dX8_define_105 : decode cX8_define 105 = .ok (.iconst 0, 1) := by decide +kernel
theorem dX8_define_106 : decode cX8_define 106 = .ok (.iload 5, 2) := by decide +kernel
theorem dX8_define_108 : decode cX8_define 108 = .ok (.invokevirtual 134, 3) := by decide +kernel
theorem dX8_define_111 : decode cX8_define 111 = .ok (.aload_n 0, 1) := by decide +kernel
theorem dX8_define_112 : decode cX8_define 112 = .ok (.aload_n 0, 1) := by decide +kernel
theorem dX8_define_113 : decode cX8_define 113 = .ok (.getfield 76, 3) := by decide +kernel
theorem dX8_define_116 : decode cX8_define 116 = .ok (.bipush 32, 2) := by decide +kernel
theorem dX8_define_118 : decode cX8_define 118 = .ok (.iload 7, 2) := by decide +kernel
theorem dX8_define_120 : decode cX8_define 120 = .ok (.imul, 1) := by decide +kernel
theorem dX8_define_121 : decode cX8_define 121 = .ok (.invokevirtual 111, 3) := by decide +kernel
theorem dX8_define_124 : decode cX8_define 124 = .ok (.iconst 0, 1) := by decide +kernel
theorem dX8_define_125 : decode cX8_define 125 = .ok (.istore 8, 2) := by decide +kernel
theorem dX8_define_127 : decode cX8_define 127 = .ok (.iload 8, 2) := by decide +kernel
theorem dX8_define_129 : decode cX8_define 129 = .ok (.bipush 32, 2) := by decide +kernel
theorem dX8_define_131 : decode cX8_define 131 = .ok (.if_icmp .ge 44, 3) := by decide +kernel
theorem dX8_define_134 : decode cX8_define 134 = .ok (.aload_n 0, 1) := by decide +kernel
theorem dX8_define_135 : decode cX8_define 135 = .ok (.getfield 79, 3) := by decide +kernel
theorem dX8_define_138 : decode cX8_define 138 = .ok (.bipush 32, 2) := by decide +kernel
theorem dX8_define_140 : decode cX8_define 140 = .ok (.iload 7, 2) := by decide +kernel
theorem dX8_define_142 : decode cX8_define 142 = .ok (.imul, 1) := by decide +kernel
theorem dX8_define_143 : decode cX8_define 143 = .ok (.iload 8, 2) := by decide +kernel
theorem dX8_define_145 : decode cX8_define 145 = .ok (.iadd, 1) := by decide +kernel
theorem dX8_define_146 : decode cX8_define 146 = .ok (.iload 4, 2) := by decide +kernel
theorem dX8_define_148 : decode cX8_define 148 = .ok (.ifCond .ge 7, 3) := by decide +kernel
theorem dX8_define_151 : decode cX8_define 151 = .ok (.iconst 0, 1) := by decide +kernel
theorem dX8_define_152 : decode cX8_define 152 = .ok (.goto 16, 3) := by decide +kernel
theorem dX8_define_155 : decode cX8_define 155 = .ok (.aload_n 0, 1) := by decide +kernel
theorem dX8_define_156 : decode cX8_define 156 = .ok (.getfield 51, 3) := by decide +kernel
theorem dX8_define_159 : decode cX8_define 159 = .ok (.bipush 32, 2) := by decide +kernel
theorem dX8_define_161 : decode cX8_define 161 = .ok (.iload 4, 2) := by decide +kernel
theorem dX8_define_163 : decode cX8_define 163 = .ok (.imul, 1) := by decide +kernel
theorem dX8_define_164 : decode cX8_define 164 = .ok (.iload 8, 2) := by decide +kernel
theorem dX8_define_166 : decode cX8_define 166 = .ok (.iadd, 1) := by decide +kernel
theorem dX8_define_167 : decode cX8_define 167 = .ok (.baload, 1) := by decide +kernel
theorem dX8_define_168 : decode cX8_define 168 = .ok (.bastore, 1) := by decide +kernel
theorem dX8_define_169 : decode cX8_define 169 = .ok (.iinc 8 1, 3) := by decide +kernel
theorem dX8_define_172 : decode cX8_define 172 = .ok (.goto (-45), 3) := by decide +kernel
theorem dX8_define_175 : decode cX8_define 175 = .ok (.aload_n 0, 1) := by decide +kernel
theorem dX8_define_176 : decode cX8_define 176 = .ok (.getfield 73, 3) := by decide +kernel
theorem dX8_define_179 : decode cX8_define 179 = .ok (.iload 7, 2) := by decide +kernel
theorem dX8_define_181 : decode cX8_define 181 = .ok (.iconst 1, 1) := by decide +kernel
theorem dX8_define_182 : decode cX8_define 182 = .ok (.bastore, 1) := by decide +kernel
theorem dX8_define_183 : decode cX8_define 183 = .ok (.aload_n 0, 1) := by decide +kernel
theorem dX8_define_184 : decode cX8_define 184 = .ok (.getfield 88, 3) := by decide +kernel
theorem dX8_define_187 : decode cX8_define 187 = .ok (.iload 7, 2) := by decide +kernel
theorem dX8_define_189 : decode cX8_define 189 = .ok (.iload_n 2, 1) := by decide +kernel
theorem dX8_define_190 : decode cX8_define 190 = .ok (.iastore, 1) := by decide +kernel
theorem dX8_define_191 : decode cX8_define 191 = .ok (.aload_n 0, 1) := by decide +kernel
theorem dX8_define_192 : decode cX8_define 192 = .ok (.getfield 85, 3) := by decide +kernel
theorem dX8_define_195 : decode cX8_define 195 = .ok (.iload 7, 2) := by decide +kernel
theorem dX8_define_197 : decode cX8_define 197 = .ok (.iload_n 2, 1) := by decide +kernel
theorem dX8_define_198 : decode cX8_define 198 = .ok (.ifCond .ne 7, 3) := by decide +kernel
theorem dX8_define_201 : decode cX8_define 201 = .ok (.iload_n 3, 1) := by decide +kernel
theorem dX8_define_202 : decode cX8_define 202 = .ok (.goto 15, 3) := by decide +kernel
theorem dX8_define_205 : decode cX8_define 205 = .ok (.iload_n 2, 1) := by decide +kernel
theorem dX8_define_206 : decode cX8_define 206 = .ok (.iconst 1, 1) := by decide +kernel
theorem dX8_define_207 : decode cX8_define 207 = .ok (.if_icmp .ne 8, 3) := by decide +kernel
theorem dX8_define_210 : decode cX8_define 210 = .ok (.bipush 8, 2) := by decide +kernel
theorem dX8_define_212 : decode cX8_define 212 = .ok (.goto 5, 3) := by decide +kernel
theorem dX8_define_215 : decode cX8_define 215 = .ok (.bipush 32, 2) := by decide +kernel
theorem dX8_define_217 : decode cX8_define 217 = .ok (.iastore, 1) := by decide +kernel
theorem dX8_define_218 : decode cX8_define 218 = .ok (.aload_n 0, 1) := by decide +kernel
theorem dX8_define_219 : decode cX8_define 219 = .ok (.getfield 91, 3) := by decide +kernel
theorem dX8_define_222 : decode cX8_define 222 = .ok (.iload 7, 2) := by decide +kernel
theorem dX8_define_224 : decode cX8_define 224 = .ok (.iconst 0, 1) := by decide +kernel
theorem dX8_define_225 : decode cX8_define 225 = .ok (.bastore, 1) := by decide +kernel
theorem dX8_define_226 : decode cX8_define 226 = .ok (.aload_n 0, 1) := by decide +kernel
theorem dX8_define_227 : decode cX8_define 227 = .ok (.getfield 94, 3) := by decide +kernel
theorem dX8_define_230 : decode cX8_define 230 = .ok (.iload 7, 2) := by decide +kernel
theorem dX8_define_232 : decode cX8_define 232 = .ok (.iconst 0, 1) := by decide +kernel
theorem dX8_define_233 : decode cX8_define 233 = .ok (.bastore, 1) := by decide +kernel
theorem dX8_define_234 : decode cX8_define 234 = .ok (.iconst 0, 1) := by decide +kernel
theorem dX8_define_235 : decode cX8_define 235 = .ok (.istore 8, 2) := by decide +kernel
theorem dX8_define_237 : decode cX8_define 237 = .ok (.iload 8, 2) := by decide +kernel
theorem dX8_define_239 : decode cX8_define 239 = .ok (.sipush 128, 3) := by decide +kernel
theorem dX8_define_242 : decode cX8_define 242 = .ok (.if_icmp .ge 24, 3) := by decide +kernel
theorem dX8_define_245 : decode cX8_define 245 = .ok (.aload_n 0, 1) := by decide +kernel
theorem dX8_define_246 : decode cX8_define 246 = .ok (.getfield 82, 3) := by decide +kernel
theorem dX8_define_249 : decode cX8_define 249 = .ok (.sipush 128, 3) := by decide +kernel
theorem dX8_define_252 : decode cX8_define 252 = .ok (.iload 7, 2) := by decide +kernel
theorem dX8_define_254 : decode cX8_define 254 = .ok (.imul, 1) := by decide +kernel
theorem dX8_define_255 : decode cX8_define 255 = .ok (.iload 8, 2) := by decide +kernel
theorem dX8_define_257 : decode cX8_define 257 = .ok (.iadd, 1) := by decide +kernel
theorem dX8_define_258 : decode cX8_define 258 = .ok (.iconst 0, 1) := by decide +kernel
theorem dX8_define_259 : decode cX8_define 259 = .ok (.bastore, 1) := by decide +kernel
theorem dX8_define_260 : decode cX8_define 260 = .ok (.iinc 8 1, 3) := by decide +kernel
theorem dX8_define_263 : decode cX8_define 263 = .ok (.goto (-26), 3) := by decide +kernel
theorem dX8_define_266 : decode cX8_define 266 = .ok (.iconst 0, 1) := by decide +kernel
theorem dX8_define_267 : decode cX8_define 267 = .ok (.ireturn, 1) := by decide +kernel
theorem dX8_undefine_0 : decode cX8_undefine 0 = .ok (.aload_n 0, 1) := by decide +kernel
theorem dX8_undefine_1 : decode cX8_undefine 1 = .ok (.iload_n 1, 1) := by decide +kernel
theorem dX8_undefine_2 : decode cX8_undefine 2 = .ok (.iconst (-1), 1) := by decide +kernel
theorem dX8_undefine_3 : decode cX8_undefine 3 = .ok (.invokevirtual 228, 3) := by decide +kernel
theorem dX8_undefine_6 : decode cX8_undefine 6 = .ok (.istore_n 2, 1) := by decide +kernel
theorem dX8_undefine_7 : decode cX8_undefine 7 = .ok (.iload_n 2, 1) := by decide +kernel
theorem dX8_undefine_8 : decode cX8_undefine 8 = .ok (.ifCond .ge 6, 3) := by decide +kernel
theorem dX8_undefine_11 : decode cX8_undefine 11 = .ok (.bipush (-2), 2) := by decide +kernel
theorem dX8_undefine_13 : decode cX8_undefine 13 = .ok (.ireturn, 1) := by decide +kernel
theorem dX8_undefine_14 : decode cX8_undefine 14 = .ok (.aload_n 0, 1) := by decide +kernel
theorem dX8_undefine_15 : decode cX8_undefine 15 = .ok (.invokevirtual 225, 3) := by decide +kernel
theorem dX8_undefine_18 : decode cX8_undefine 18 = .ok (.istore_n 3, 1) := by decide +kernel
theorem dX8_undefine_19 : decode cX8_undefine 19 = .ok (.iload_n 3, 1) := by decide +kernel
theorem dX8_undefine_20 : decode cX8_undefine 20 = .ok (.ifCond .ne 10, 3) := by decide +kernel
theorem dX8_undefine_23 : decode cX8_undefine 23 = .ok (.aload_n 0, 1) := by decide +kernel
theorem dX8_undefine_24 : decode cX8_undefine 24 = .ok (.getfield 73, 3) := by decide +kernel
theorem dX8_undefine_27 : decode cX8_undefine 27 = .ok (.iload_n 2, 1) := by decide +kernel
theorem dX8_undefine_28 : decode cX8_undefine 28 = .ok (.iconst 0, 1) := by decide +kernel
theorem dX8_undefine_29 : decode cX8_undefine 29 = .ok (.bastore, 1) := by decide +kernel
theorem dX8_undefine_30 : decode cX8_undefine 30 = .ok (.iload_n 3, 1) := by decide +kernel
theorem dX8_undefine_31 : decode cX8_undefine 31 = .ok (.ireturn, 1) := by decide +kernel
