theorem dX7_restart_0 : decode cX7_restart 0 = .ok (.aload_n 0, 1) := by decide +kernel
theorem dX7_restart_1 : decode cX7_restart 1 = .ok (.dup, 1) := by decide +kernel
theorem dX7_restart_2 : decode cX7_restart 2 = .ok (.getfield 128, 3) := by decide +kernel
theorem dX7_restart_5 : decode cX7_restart 5 = .ok (.iconst 1, 1) := by decide +kernel
theorem dX7_restart_6 : decode cX7_restart 6 = .ok (.iadd, 1) := by decide +kernel
theorem dX7_restart_7 : decode cX7_restart 7 = .ok (.putfield 128, 3) := by decide +kernel
theorem dX7_restart_10 : decode cX7_restart 10 = .ok (.iconst 0, 1) := by decide +kernel
theorem dX7_restart_11 : decode cX7_restart 11 = .ok (.istore_n 1, 1) := by decide +kernel
theorem dX7_restart_12 : decode cX7_restart 12 = .ok (.iload_n 1, 1) := by decide +kernel
theorem dX7_restart_13 : decode cX7_restart 13 = .ok (.bipush 8, 2) := by decide +kernel
theorem dX7_restart_15 : decode cX7_restart 15 = .ok (.if_icmp .ge 17, 3) := by decide +kernel
theorem dX7_restart_18 : decode cX7_restart 18 = .ok (.aload_n 0, 1) := by decide +kernel
theorem dX7_restart_19 : decode cX7_restart 19 = .ok (.getfield 53, 3) := by decide +kernel
theorem dX7_restart_22 : decode cX7_restart 22 = .ok (.iload_n 1, 1) := by decide +kernel
theorem dX7_restart_23 : decode cX7_restart 23 = .ok (.invokevirtual 115, 3) := by decide +kernel
theorem dX7_restart_26 : decode cX7_restart 26 = .ok (.iinc 1 1, 3) := by decide +kernel
theorem dX7_restart_29 : decode cX7_restart 29 = .ok (.goto (-17), 3) := by decide +kernel
theorem dX7_restart_32 : decode cX7_restart 32 = .ok (.iconst 0, 1) := by decide +kernel
theorem dX7_restart_33 : decode cX7_restart 33 = .ok (.istore_n 1, 1) := by decide +kernel
theorem dX7_restart_34 : decode cX7_restart 34 = .ok (.iload_n 1, 1) := by decide +kernel
theorem dX7_restart_35 : decode cX7_restart 35 = .ok (.iconst 4, 1) := by decide +kernel
theorem dX7_restart_36 : decode cX7_restart 36 = .ok (.if_icmp .ge 19, 3) := by decide +kernel
theorem dX7_restart_39 : decode cX7_restart 39 = .ok (.aload_n 0, 1) := by decide +kernel
theorem dX7_restart_40 : decode cX7_restart 40 = .ok (.getfield 59, 3) := by decide +kernel
theorem dX7_restart_43 : decode cX7_restart 43 = .ok (.iload_n 1, 1) := by decide +kernel
theorem dX7_restart_44 : decode cX7_restart 44 = .ok (.aaload, 1) := by decide +kernel
theorem dX7_restart_45 : decode cX7_restart 45 = .ok (.iconst 0, 1) := by decide +kernel
theorem dX7_restart_46 : decode cX7_restart 46 = .ok (.putfield 284, 3) := by decide +kernel
theorem dX7_restart_49 : decode cX7_restart 49 = .ok (.iinc 1 1, 3) := by decide +kernel
theorem dX7_restart_52 : decode cX7_restart 52 = .ok (.goto (-18), 3) := by decide +kernel
theorem dX7_restart_55 : decode cX7_restart 55 = .ok (.aload_n 0, 1) := by decide +kernel
theorem dX7_restart_56 : decode cX7_restart 56 = .ok (.invokevirtual 276, 3) := by decide +kernel
theorem dX7_restart_59 : decode cX7_restart 59 = .ok (.iconst 0, 1) := by decide +kernel
theorem dX7_restart_60 : decode cX7_restart 60 = .ok (.istore_n 1, 1) := by decide +kernel
theorem dX7_restart_61 : decode cX7_restart 61 = .ok (.iload_n 1, 1) := by decide +kernel
theorem dX7_restart_62 : decode cX7_restart 62 = .ok (.bipush 8, 2) := by decide +kernel
theorem dX7_restart_64 : decode cX7_restart 64 = .ok (.if_icmp .ge 19, 3) := by decide +kernel
theorem dX7_restart_67 : decode cX7_restart 67 = .ok (.aload_n 0, 1) := by decide +kernel
theorem dX7_restart_68 : decode cX7_restart 68 = .ok (.getfield 73, 3) := by decide +kernel
theorem dX7_restart_71 : decode cX7_restart 71 = .ok (.iload_n 1, 1) := by decide +kernel
theorem dX7_restart_72 : decode cX7_restart 72 = .ok (.aaload, 1) := by decide +kernel
theorem dX7_restart_73 : decode cX7_restart 73 = .ok (.iconst 0, 1) := by decide +kernel
theorem dX7_restart_74 : decode cX7_restart 74 = .ok (.putfield 263, 3) := by decide +kernel
theorem dX7_restart_77 : decode cX7_restart 77 = .ok (.iinc 1 1, 3) := by decide +kernel
theorem dX7_restart_80 : decode cX7_restart 80 = .ok (.goto (-19), 3) := by decide +kernel
theorem dX7_restart_83 : decode cX7_restart 83 = .ok (.aload_n 0, 1) := by decide +kernel
theorem dX7_restart_84 : decode cX7_restart 84 = .ok (.getfield 128, 3) := by decide +kernel
theorem dX7_restart_87 : decode cX7_restart 87 = .ok (.ireturn, 1) := by decide +kernel
theorem dX7_look_0 : decode cX7_look 0 = .ok (.iload_n 1, 1) := by decide +kernel
theorem dX7_look_1 : decode cX7_look 1 = .ok (.tableswitch 93 0 7 #[47, 52, 57, 62, 70, 75, 80, 85], 47) := by decide +kernel
theorem dX7_look_48 : decode cX7_look 48 = .ok (.aload_n 0, 1) := by decide +kernel
theorem dX7_look_49 : decode cX7_look 49 = .ok (.getfield 270, 3) := by decide +kernel
theorem dX7_look_52 : decode cX7_look 52 = .ok (.ireturn, 1) := by decide +kernel
theorem dX7_look_53 : decode cX7_look 53 = .ok (.aload_n 0, 1) := by decide +kernel
theorem dX7_look_54 : decode cX7_look 54 = .ok (.getfield 125, 3) := by decide +kernel
theorem dX7_look_57 : decode cX7_look 57 = .ok (.ireturn, 1) := by decide +kernel
theorem dX7_look_58 : decode cX7_look 58 = .ok (.aload_n 0, 1) := by decide +kernel
theorem dX7_look_59 : decode cX7_look 59 = .ok (.getfield 128, 3) := by decide +kernel
theorem dX7_look_62 : decode cX7_look 62 = .ok (.ireturn, 1) := by decide +kernel
theorem dX7_look_63 : decode cX7_look 63 = .ok (.aload_n 0, 1) := by decide +kernel
theorem dX7_look_64 : decode cX7_look 64 = .ok (.getfield 21, 3) := by decide +kernel
theorem dX7_look_67 : decode cX7_look 67 = .ok (.getfield 287, 3) := by decide +kernel
theorem dX7_look_70 : decode cX7_look 70 = .ok (.ireturn, 1) := by decide +kernel
theorem dX7_look_71 : decode cX7_look 71 = .ok (.aload_n 0, 1) := by decide +kernel
theorem dX7_look_72 : decode cX7_look 72 = .ok (.invokevirtual 290, 3) := by decide +kernel
theorem dX7_look_75 : decode cX7_look 75 = .ok (.ireturn, 1) := by decide +kernel
theorem dX7_look_76 : decode cX7_look 76 = .ok (.aload_n 0, 1) := by decide +kernel
theorem dX7_look_77 : decode cX7_look 77 = .ok (.invokevirtual 293, 3) := by decide +kernel
theorem dX7_look_80 : decode cX7_look 80 = .ok (.ireturn, 1) := by decide +kernel
theorem dX7_look_81 : decode cX7_look 81 = .ok (.aload_n 0, 1) := by decide +kernel
theorem dX7_look_82 : decode cX7_look 82 = .ok (.invokevirtual 296, 3) := by decide +kernel
theorem dX7_look_85 : decode cX7_look 85 = .ok (.ireturn, 1) := by decide +kernel
theorem dX7_look_86 : decode cX7_look 86 = .ok (.aload_n 0, 1) := by decide +kernel
theorem dX7_look_87 : decode cX7_look 87 = .ok (.getfield 30, 3) := by decide +kernel
theorem dX7_look_90 : decode cX7_look 90 = .ok (.getfield 89, 3) := by decide +kernel
theorem dX7_look_93 : decode cX7_look 93 = .ok (.ireturn, 1) := by decide +kernel
theorem dX7_look_94 : decode cX7_look 94 = .ok (.iconst (-1), 1) := by decide +kernel
theorem dX7_look_95 : decode cX7_look 95 = .ok (.ireturn, 1) := by decide +kernel
theorem dX7_takeTapeHash_0 : decode cX7_takeTapeHash 0 = .ok (.aload_n 0, 1) := by decide +kernel
theorem dX7_takeTapeHash_1 : decode cX7_takeTapeHash 1 = .ok (.getfield 10, 3) := by decide +kernel
theorem dX7_takeTapeHash_4 : decode cX7_takeTapeHash 4 = .ok (.invokevirtual 299, 3) := by decide +kernel
theorem dX7_takeTapeHash_7 : decode cX7_takeTapeHash 7 = .ok (.aload_n 0, 1) := by decide +kernel
theorem dX7_takeTapeHash_8 : decode cX7_takeTapeHash 8 = .ok (.getfield 30, 3) := by decide +kernel
theorem dX7_takeTapeHash_11 : decode cX7_takeTapeHash 11 = .ok (.getfield 93, 3) := by decide +kernel
theorem dX7_takeTapeHash_14 : decode cX7_takeTapeHash 14 = .ok (.aload_n 0, 1) := by decide +kernel
theorem dX7_takeTapeHash_15 : decode cX7_takeTapeHash 15 = .ok (.getfield 30, 3) := by decide +kernel
theorem dX7_takeTapeHash_18 : decode cX7_takeTapeHash 18 = .ok (.getfield 89, 3) := by decide +kernel
theorem dX7_takeTapeHash_21 : decode cX7_takeTapeHash 21 = .ok (.invokevirtual 96, 3) := by decide +kernel
theorem dX7_takeTapeHash_24 : decode cX7_takeTapeHash 24 = .ok (.aload_n 0, 1) := by decide +kernel
theorem dX7_takeTapeHash_25 : decode cX7_takeTapeHash 25 = .ok (.getfield 10, 3) := by decide +kernel
theorem dX7_takeTapeHash_28 : decode cX7_takeTapeHash 28 = .ok (.aload_n 0, 1) := by decide +kernel
theorem dX7_takeTapeHash_29 : decode cX7_takeTapeHash 29 = .ok (.getfield 47, 3) := by decide +kernel
theorem dX7_takeTapeHash_32 : decode cX7_takeTapeHash 32 = .ok (.invokevirtual 149, 3) := by decide +kernel
theorem dX7_takeTapeHash_35 : decode cX7_takeTapeHash 35 = .ok (.aload_n 0, 1) := by decide +kernel
theorem dX7_takeTapeHash_36 : decode cX7_takeTapeHash 36 = .ok (.getfield 30, 3) := by decide +kernel
theorem dX7_takeTapeHash_39 : decode cX7_takeTapeHash 39 = .ok (.iconst 0, 1) := by decide +kernel
theorem dX7_takeTapeHash_40 : decode cX7_takeTapeHash 40 = .ok (.putfield 89, 3) := by decide +kernel
theorem dX7_takeTapeHash_43 : decode cX7_takeTapeHash 43 = .ok (.return_, 1) := by decide +kernel
theorem dX7_hashNothing_0 : decode cX7_hashNothing 0 = .ok (.aload_n 0, 1) := by decide +kernel
theorem dX7_hashNothing_1 : decode cX7_hashNothing 1 = .ok (.getfield 10, 3) := by decide +kernel
theorem dX7_hashNothing_4 : decode cX7_hashNothing 4 = .ok (.invokevirtual 299, 3) := by decide +kernel
theorem dX7_hashNothing_7 : decode cX7_hashNothing 7 = .ok (.pop, 1) := by decide +kernel
theorem dX7_hashNothing_8 : decode cX7_hashNothing 8 = .ok (.aload_n 0, 1) := by decide +kernel
theorem dX7_hashNothing_9 : decode cX7_hashNothing 9 = .ok (.getfield 10, 3) := by decide +kernel
theorem dX7_hashNothing_12 : decode cX7_hashNothing 12 = .ok (.aload_n 1, 1) := by decide +kernel
theorem dX7_hashNothing_13 : decode cX7_hashNothing 13 = .ok (.invokevirtual 149, 3) := by decide +kernel
theorem dX7_hashNothing_16 : decode cX7_hashNothing 16 = .ok (.return_, 1) := by decide +kernel
theorem dX7_tell_0 : decode cX7_tell 0 = .ok (.aload_n 0, 1) := by decide +kernel
theorem dX7_tell_1 : decode cX7_tell 1 = .ok (.getfield 34, 3) := by decide +kernel
theorem dX7_tell_4 : decode cX7_tell 4 = .ok (.iconst 0, 1) := by decide +kernel
theorem dX7_tell_5 : decode cX7_tell 5 = .ok (.putfield 89, 3) := by decide +kernel
theorem dX7_tell_8 : decode cX7_tell 8 = .ok (.aload_n 0, 1) := by decide +kernel
theorem dX7_tell_9 : decode cX7_tell 9 = .ok (.getfield 34, 3) := by decide +kernel
theorem dX7_tell_12 : decode cX7_tell 12 = .ok (.aload_n 1, 1) := by decide +kernel
theorem dX7_tell_13 : decode cX7_tell 13 = .ok (.iload_n 2, 1) := by decide +kernel
theorem dX7_tell_14 : decode cX7_tell 14 = .ok (.invokevirtual 96, 3) := by decide +kernel
theorem dX7_tell_17 : decode cX7_tell 17 = .ok (.aload_n 0, 1) := by decide +kernel
theorem dX7_tell_18 : decode cX7_tell 18 = .ok (.getfield 34, 3) := by decide +kernel
theorem dX7_tell_21 : decode cX7_tell 21 = .ok (.getfield 89, 3) := by decide +kernel
theorem dX7_tell_24 : decode cX7_tell 24 = .ok (.ireturn, 1) := by decide +kernel
theorem dX7_openSession_0 : decode cX7_openSession 0 = .ok (.iload_n 1, 1) := by decide +kernel
theorem dX7_openSession_1 : decode cX7_openSession 1 = .ok (.ifCond .lt 20, 3) := by decide +kernel
theorem dX7_openSession_4 : decode cX7_openSession 4 = .ok (.iload_n 1, 1) := by decide +kernel
theorem dX7_openSession_5 : decode cX7_openSession 5 = .ok (.iconst 4, 1) := by decide +kernel
theorem dX7_openSession_6 : decode cX7_openSession 6 = .ok (.if_icmp .ge 15, 3) := by decide +kernel
theorem dX7_openSession_9 : decode cX7_openSession 9 = .ok (.aload_n 0, 1) := by decide +kernel
theorem dX7_openSession_10 : decode cX7_openSession 10 = .ok (.getfield 59, 3) := by decide +kernel
theorem dX7_openSession_13 : decode cX7_openSession 13 = .ok (.iload_n 1, 1) := by decide +kernel
theorem dX7_openSession_14 : decode cX7_openSession 14 = .ok (.aaload, 1) := by decide +kernel
theorem dX7_openSession_15 : decode cX7_openSession 15 = .ok (.getfield 284, 3) := by decide +kernel
theorem dX7_openSession_18 : decode cX7_openSession 18 = .ok (.ifCond .ne 5, 3) := by decide +kernel
theorem dX7_openSession_21 : decode cX7_openSession 21 = .ok (.aconst_null, 1) := by decide +kernel
theorem dX7_openSession_22 : decode cX7_openSession 22 = .ok (.areturn, 1) := by decide +kernel
theorem dX7_openSession_23 : decode cX7_openSession 23 = .ok (.aload_n 0, 1) := by decide +kernel
theorem dX7_openSession_24 : decode cX7_openSession 24 = .ok (.getfield 59, 3) := by decide +kernel
theorem dX7_openSession_27 : decode cX7_openSession 27 = .ok (.iload_n 1, 1) := by decide +kernel
theorem dX7_openSession_28 : decode cX7_openSession 28 = .ok (.aaload, 1) := by decide +kernel
theorem dX7_openSession_29 : decode cX7_openSession 29 = .ok (.areturn, 1) := by decide +kernel
theorem dX7_objectAt_0 : decode cX7_objectAt 0 = .ok (.iload_n 1, 1) := by decide +kernel
theorem dX7_objectAt_1 : decode cX7_objectAt 1 = .ok (.ifCond .lt 20, 3) := by decide +kernel
theorem dX7_objectAt_4 : decode cX7_objectAt 4 = .ok (.iload_n 1, 1) := by decide +kernel
theorem dX7_objectAt_5 : decode cX7_objectAt 5 = .ok (.iconst 4, 1) := by decide +kernel
theorem dX7_objectAt_6 : decode cX7_objectAt 6 = .ok (.if_icmp .ge 15, 3) := by decide +kernel
theorem dX7_objectAt_9 : decode cX7_objectAt 9 = .ok (.aload_n 0, 1) := by decide +kernel
theorem dX7_objectAt_10 : decode cX7_objectAt 10 = .ok (.getfield 66, 3) := by decide +kernel
theorem dX7_objectAt_13 : decode cX7_objectAt 13 = .ok (.iload_n 1, 1) := by decide +kernel
theorem dX7_objectAt_14 : decode cX7_objectAt 14 = .ok (.aaload, 1) := by decide +kernel
theorem dX7_objectAt_15 : decode cX7_objectAt 15 = .ok (.getfield 199, 3) := by decide +kernel
theorem dX7_objectAt_18 : decode cX7_objectAt 18 = .ok (.ifCond .ne 5, 3) := by decide +kernel
theorem dX7_objectAt_21 : decode cX7_objectAt 21 = .ok (.aconst_null, 1) := by decide +kernel
theorem dX7_objectAt_22 : decode cX7_objectAt 22 = .ok (.areturn, 1) := by decide +kernel
theorem dX7_objectAt_23 : decode cX7_objectAt 23 = .ok (.aload_n 0, 1) := by decide +kernel
theorem dX7_objectAt_24 : decode cX7_objectAt 24 = .ok (.getfield 66, 3) := by decide +kernel
theorem dX7_objectAt_27 : decode cX7_objectAt 27 = .ok (.iload_n 1, 1) := by decide +kernel
theorem dX7_objectAt_28 : decode cX7_objectAt 28 = .ok (.aaload, 1) := by decide +kernel
theorem dX7_objectAt_29 : decode cX7_objectAt 29 = .ok (.areturn, 1) := by decide +kernel
theorem dX7_valueAt_0 : decode cX7_valueAt 0 = .ok (.iload_n 1, 1) := by decide +kernel
theorem dX7_valueAt_1 : decode cX7_valueAt 1 = .ok (.ifCond .lt 24, 3) := by decide +kernel
theorem dX7_valueAt_4 : decode cX7_valueAt 4 = .ok (.iload_n 1, 1) := by decide +kernel
theorem dX7_valueAt_5 : decode cX7_valueAt 5 = .ok (.bipush 8, 2) := by decide +kernel
theorem dX7_valueAt_7 : decode cX7_valueAt 7 = .ok (.if_icmp .ge 18, 3) := by decide +kernel
theorem dX7_valueAt_10 : decode cX7_valueAt 10 = .ok (.aload_n 0, 1) := by decide +kernel
theorem dX7_valueAt_11 : decode cX7_valueAt 11 = .ok (.getfield 73, 3) := by decide +kernel
theorem dX7_valueAt_14 : decode cX7_valueAt 14 = .ok (.iload_n 1, 1) := by decide +kernel
theorem dX7_valueAt_15 : decode cX7_valueAt 15 = .ok (.aaload, 1) := by decide +kernel
theorem dX7_valueAt_16 : decode cX7_valueAt 16 = .ok (.getfield 206, 3) := by decide +kernel
theorem dX7_valueAt_19 : decode cX7_valueAt 19 = .ok (.getfield 199, 3) := by decide +kernel
theorem dX7_valueAt_22 : decode cX7_valueAt 22 = .ok (.ifCond .ne 5, 3) := by decide +kernel
theorem dX7_valueAt_25 : decode cX7_valueAt 25 = .ok (.aconst_null, 1) := by decide +kernel
theorem dX7_valueAt_26 : decode cX7_valueAt 26 = .ok (.areturn, 1) := by decide +kernel
theorem dX7_valueAt_27 : decode cX7_valueAt 27 = .ok (.aload_n 0, 1) := by decide +kernel
theorem dX7_valueAt_28 : decode cX7_valueAt 28 = .ok (.getfield 73, 3) := by decide +kernel
theorem dX7_valueAt_31 : decode cX7_valueAt 31 = .ok (.iload_n 1, 1) := by decide +kernel
theorem dX7_valueAt_32 : decode cX7_valueAt 32 = .ok (.aaload, 1) := by decide +kernel
theorem dX7_valueAt_33 : decode cX7_valueAt 33 = .ok (.areturn, 1) := by decide +kernel
theorem dX7_valueOf_0 : decode cX7_valueOf 0 = .ok (.aload_n 0, 1) := by decide +kernel
theorem dX7_valueOf_1 : decode cX7_valueOf 1 = .ok (.iload_n 1, 1) := by decide +kernel
theorem dX7_valueOf_2 : decode cX7_valueOf 2 = .ok (.invokevirtual 223, 3) := by decide +kernel
theorem dX7_valueOf_5 : decode cX7_valueOf 5 = .ok (.astore_n 3, 1) := by decide +kernel
theorem dX7_valueOf_6 : decode cX7_valueOf 6 = .ok (.aload_n 3, 1) := by decide +kernel
theorem dX7_valueOf_7 : decode cX7_valueOf 7 = .ok (.ifnull 15, 3) := by decide +kernel
theorem dX7_valueOf_10 : decode cX7_valueOf 10 = .ok (.aload_n 3, 1) := by decide +kernel
theorem dX7_valueOf_11 : decode cX7_valueOf 11 = .ok (.getfield 302, 3) := by decide +kernel
theorem dX7_valueOf_14 : decode cX7_valueOf 14 = .ok (.iload_n 2, 1) := by decide +kernel
theorem dX7_valueOf_15 : decode cX7_valueOf 15 = .ok (.if_icmp .ne 7, 3) := by decide +kernel
theorem dX7_valueOf_18 : decode cX7_valueOf 18 = .ok (.aload_n 3, 1) := by decide +kernel
theorem dX7_valueOf_19 : decode cX7_valueOf 19 = .ok (.goto 4, 3) := by decide +kernel
theorem dX7_valueOf_22 : decode cX7_valueOf 22 = .ok (.aconst_null, 1) := by decide +kernel
theorem dX7_valueOf_23 : decode cX7_valueOf 23 = .ok (.areturn, 1) := by decide +kernel
theorem dX7_policyFrom_0 : decode cX7_policyFrom 0 = .ok (.iload_n 1, 1) := by decide +kernel
theorem dX7_policyFrom_1 : decode cX7_policyFrom 1 = .ok (.iconst (-1), 1) := by decide +kernel
theorem dX7_policyFrom_2 : decode cX7_policyFrom 2 = .ok (.if_icmp .ne 8, 3) := by decide +kernel
theorem dX7_policyFrom_5 : decode cX7_policyFrom 5 = .ok (.aload_n 0, 1) := by decide +kernel
theorem dX7_policyFrom_6 : decode cX7_policyFrom 6 = .ok (.getfield 44, 3) := by decide +kernel
theorem dX7_policyFrom_9 : decode cX7_policyFrom 9 = .ok (.areturn, 1) := by decide +kernel
theorem dX7_policyFrom_10 : decode cX7_policyFrom 10 = .ok (.aload_n 0, 1) := by decide +kernel
theorem dX7_policyFrom_11 : decode cX7_policyFrom 11 = .ok (.iload_n 1, 1) := by decide +kernel
theorem dX7_policyFrom_12 : decode cX7_policyFrom 12 = .ok (.invokevirtual 138, 3) := by decide +kernel
theorem dX7_policyFrom_15 : decode cX7_policyFrom 15 = .ok (.astore_n 2, 1) := by decide +kernel
theorem dX7_policyFrom_16 : decode cX7_policyFrom 16 = .ok (.aload_n 2, 1) := by decide +kernel
theorem dX7_policyFrom_17 : decode cX7_policyFrom 17 = .ok (.ifnonnull 7, 3) := by decide +kernel
theorem dX7_policyFrom_20 : decode cX7_policyFrom 20 = .ok (.aconst_null, 1) := by decide +kernel
theorem dX7_policyFrom_21 : decode cX7_policyFrom 21 = .ok (.goto 7, 3) := by decide +kernel
theorem dX7_policyFrom_24 : decode cX7_policyFrom 24 = .ok (.aload_n 2, 1) := by decide +kernel
theorem dX7_policyFrom_25 : decode cX7_policyFrom 25 = .ok (.getfield 146, 3) := by decide +kernel
theorem dX7_policyFrom_28 : decode cX7_policyFrom 28 = .ok (.areturn, 1) := by decide +kernel
theorem dX7_chooseBranch_0 : decode cX7_chooseBranch 0 = .ok (.aload_n 0, 1) := by decide +kernel
theorem dX7_chooseBranch_1 : decode cX7_chooseBranch 1 = .ok (.getfield 30, 3) := by decide +kernel
theorem dX7_chooseBranch_4 : decode cX7_chooseBranch 4 = .ok (.getfield 89, 3) := by decide +kernel
theorem dX7_chooseBranch_7 : decode cX7_chooseBranch 7 = .ok (.bipush 32, 2) := by decide +kernel
theorem dX7_chooseBranch_9 : decode cX7_chooseBranch 9 = .ok (.idiv, 1) := by decide +kernel
theorem dX7_chooseBranch_10 : decode cX7_chooseBranch 10 = .ok (.istore_n 2, 1) := by decide +kernel
theorem dX7_chooseBranch_11 : decode cX7_chooseBranch 11 = .ok (.aload_n 1, 1) := by decide +kernel
theorem dX7_chooseBranch_12 : decode cX7_chooseBranch 12 = .ok (.ifnull 27, 3) := by decide +kernel
theorem dX7_chooseBranch_15 : decode cX7_chooseBranch 15 = .ok (.aload_n 0, 1) := by decide +kernel
theorem dX7_chooseBranch_16 : decode cX7_chooseBranch 16 = .ok (.getfield 30, 3) := by decide +kernel
theorem dX7_chooseBranch_19 : decode cX7_chooseBranch 19 = .ok (.getfield 89, 3) := by decide +kernel
theorem dX7_chooseBranch_22 : decode cX7_chooseBranch 22 = .ok (.bipush 32, 2) := by decide +kernel
theorem dX7_chooseBranch_24 : decode cX7_chooseBranch 24 = .ok (.irem, 1) := by decide +kernel
theorem dX7_chooseBranch_25 : decode cX7_chooseBranch 25 = .ok (.ifCond .ne 14, 3) := by decide +kernel
theorem dX7_chooseBranch_28 : decode cX7_chooseBranch 28 = .ok (.iload_n 2, 1) := by decide +kernel
theorem dX7_chooseBranch_29 : decode cX7_chooseBranch 29 = .ok (.iconst 2, 1) := by decide +kernel
theorem dX7_chooseBranch_30 : decode cX7_chooseBranch 30 = .ok (.if_icmp .lt 9, 3) := by decide +kernel
theorem dX7_chooseBranch_33 : decode cX7_chooseBranch 33 = .ok (.iload_n 2, 1) := by decide +kernel
theorem dX7_chooseBranch_34 : decode cX7_chooseBranch 34 = .ok (.bipush 8, 2) := by decide +kernel
theorem dX7_chooseBranch_36 : decode cX7_chooseBranch 36 = .ok (.if_icmp .le 5, 3) := by decide +kernel
theorem dX7_chooseBranch_39 : decode cX7_chooseBranch 39 = .ok (.iconst (-1), 1) := by decide +kernel
theorem dX7_chooseBranch_40 : decode cX7_chooseBranch 40 = .ok (.ireturn, 1) := by decide +kernel
theorem dX7_chooseBranch_41 : decode cX7_chooseBranch 41 = .ok (.iconst 0, 1) := by decide +kernel
theorem dX7_chooseBranch_42 : decode cX7_chooseBranch 42 = .ok (.istore_n 3, 1) := by decide +kernel
theorem dX7_chooseBranch_43 : decode cX7_chooseBranch 43 = .ok (.iconst 0, 1) := by decide +kernel
theorem dX7_chooseBranch_44 : decode cX7_chooseBranch 44 = .ok (.istore 4, 2) := by decide +kernel
theorem dX7_chooseBranch_46 : decode cX7_chooseBranch 46 = .ok (.iload 4, 2) := by decide +kernel
theorem dX7_chooseBranch_48 : decode cX7_chooseBranch 48 = .ok (.iload_n 2, 1) := by decide +kernel
theorem dX7_chooseBranch_49 : decode cX7_chooseBranch 49 = .ok (.if_icmp .ge 41, 3) := by decide +kernel
theorem dX7_chooseBranch_52 : decode cX7_chooseBranch 52 = .ok (.iload_n 3, 1) := by decide +kernel
theorem dX7_chooseBranch_53 : decode cX7_chooseBranch 53 = .ok (.ifCond .ne 25, 3) := by decide +kernel
theorem dX7_chooseBranch_56 : decode cX7_chooseBranch 56 = .ok (.aload_n 1, 1) := by decide +kernel
theorem dX7_chooseBranch_57 : decode cX7_chooseBranch 57 = .ok (.getfield 146, 3) := by decide +kernel
theorem dX7_chooseBranch_60 : decode cX7_chooseBranch 60 = .ok (.aload_n 0, 1) := by decide +kernel
theorem dX7_chooseBranch_61 : decode cX7_chooseBranch 61 = .ok (.getfield 30, 3) := by decide +kernel
theorem dX7_chooseBranch_64 : decode cX7_chooseBranch 64 = .ok (.getfield 93, 3) := by decide +kernel
theorem dX7_chooseBranch_67 : decode cX7_chooseBranch 67 = .ok (.iload 4, 2) := by decide +kernel
theorem dX7_chooseBranch_69 : decode cX7_chooseBranch 69 = .ok (.bipush 32, 2) := by decide +kernel
theorem dX7_chooseBranch_71 : decode cX7_chooseBranch 71 = .ok (.imul, 1) := by decide +kernel
theorem dX7_chooseBranch_72 : decode cX7_chooseBranch 72 = .ok (.invokestatic 305, 3) := by decide +kernel
theorem dX7_chooseBranch_75 : decode cX7_chooseBranch 75 = .ok (.ifCond .eq 7, 3) := by decide +kernel
theorem dX7_chooseBranch_78 : decode cX7_chooseBranch 78 = .ok (.iconst 1, 1) := by decide +kernel
theorem dX7_chooseBranch_79 : decode cX7_chooseBranch 79 = .ok (.goto 4, 3) := by decide +kernel
theorem dX7_chooseBranch_82 : decode cX7_chooseBranch 82 = .ok (.iconst 0, 1) := by decide +kernel
theorem dX7_chooseBranch_83 : decode cX7_chooseBranch 83 = .ok (.istore_n 3, 1) := by decide +kernel
theorem dX7_chooseBranch_84 : decode cX7_chooseBranch 84 = .ok (.iinc 4 1, 3) := by decide +kernel
theorem dX7_chooseBranch_87 : decode cX7_chooseBranch 87 = .ok (.goto (-41), 3) := by decide +kernel
theorem dX7_chooseBranch_90 : decode cX7_chooseBranch 90 = .ok (.iload_n 3, 1) := by decide +kernel
theorem dX7_chooseBranch_91 : decode cX7_chooseBranch 91 = .ok (.ifCond .ne 6, 3) := by decide +kernel
theorem dX7_chooseBranch_94 : decode cX7_chooseBranch 94 = .ok (.bipush (-7), 2) := by decide +kernel
theorem dX7_chooseBranch_96 : decode cX7_chooseBranch 96 = .ok (.ireturn, 1) := by decide +kernel
theorem dX7_chooseBranch_97 : decode cX7_chooseBranch 97 = .ok (.aload_n 0, 1) := by decide +kernel
theorem dX7_chooseBranch_98 : decode cX7_chooseBranch 98 = .ok (.getfield 10, 3) := by decide +kernel
theorem dX7_chooseBranch_101 : decode cX7_chooseBranch 101 = .ok (.invokevirtual 299, 3) := by decide +kernel
theorem dX7_chooseBranch_104 : decode cX7_chooseBranch 104 = .ok (.astore 4, 2) := by decide +kernel
theorem dX7_chooseBranch_106 : decode cX7_chooseBranch 106 = .ok (.aload 4, 2) := by decide +kernel
theorem dX7_chooseBranch_108 : decode cX7_chooseBranch 108 = .ok (.aload_n 0, 1) := by decide +kernel
theorem dX7_chooseBranch_109 : decode cX7_chooseBranch 109 = .ok (.getfield 44, 3) := by decide +kernel
theorem dX7_chooseBranch_112 : decode cX7_chooseBranch 112 = .ok (.bipush 32, 2) := by decide +kernel
theorem dX7_chooseBranch_114 : decode cX7_chooseBranch 114 = .ok (.invokevirtual 96, 3) := by decide +kernel
theorem dX7_chooseBranch_117 : decode cX7_chooseBranch 117 = .ok (.aload 4, 2) := by decide +kernel
theorem dX7_chooseBranch_119 : decode cX7_chooseBranch 119 = .ok (.iconst 5, 1) := by decide +kernel
theorem dX7_chooseBranch_120 : decode cX7_chooseBranch 120 = .ok (.invokevirtual 122, 3) := by decide +kernel
theorem dX7_chooseBranch_123 : decode cX7_chooseBranch 123 = .ok (.aload 4, 2) := by decide +kernel
theorem dX7_chooseBranch_125 : decode cX7_chooseBranch 125 = .ok (.aload_n 0, 1) := by decide +kernel
theorem dX7_chooseBranch_126 : decode cX7_chooseBranch 126 = .ok (.getfield 30, 3) := by decide +kernel
theorem dX7_chooseBranch_129 : decode cX7_chooseBranch 129 = .ok (.getfield 93, 3) := by decide +kernel
theorem dX7_chooseBranch_132 : decode cX7_chooseBranch 132 = .ok (.aload_n 0, 1) := by decide +kernel
theorem dX7_chooseBranch_133 : decode cX7_chooseBranch 133 = .ok (.getfield 30, 3) := by decide +kernel
theorem dX7_chooseBranch_136 : decode cX7_chooseBranch 136 = .ok (.getfield 89, 3) := by decide +kernel
theorem dX7_chooseBranch_139 : decode cX7_chooseBranch 139 = .ok (.invokevirtual 96, 3) := by decide +kernel
theorem dX7_chooseBranch_142 : decode cX7_chooseBranch 142 = .ok (.aload_n 0, 1) := by decide +kernel
theorem dX7_chooseBranch_143 : decode cX7_chooseBranch 143 = .ok (.getfield 10, 3) := by decide +kernel
theorem dX7_chooseBranch_146 : decode cX7_chooseBranch 146 = .ok (.aload_n 1, 1) := by decide +kernel
theorem dX7_chooseBranch_147 : decode cX7_chooseBranch 147 = .ok (.getfield 146, 3) := by decide +kernel
theorem dX7_chooseBranch_150 : decode cX7_chooseBranch 150 = .ok (.invokevirtual 149, 3) := by decide +kernel
theorem dX7_chooseBranch_153 : decode cX7_chooseBranch 153 = .ok (.iconst 0, 1) := by decide +kernel
theorem dX7_chooseBranch_154 : decode cX7_chooseBranch 154 = .ok (.ireturn, 1) := by decide +kernel
theorem dX7_keepUnwrapped_0 : decode cX7_keepUnwrapped 0 = .ok (.iconst 0, 1) := by decide +kernel
theorem dX7_keepUnwrapped_1 : decode cX7_keepUnwrapped 1 = .ok (.istore_n 1, 1) := by decide +kernel
theorem dX7_keepUnwrapped_2 : decode cX7_keepUnwrapped 2 = .ok (.iload_n 1, 1) := by decide +kernel
theorem dX7_keepUnwrapped_3 : decode cX7_keepUnwrapped 3 = .ok (.iconst 4, 1) := by decide +kernel
theorem dX7_keepUnwrapped_4 : decode cX7_keepUnwrapped 4 = .ok (.if_icmp .ge 116, 3) := by decide +kernel
theorem dX7_keepUnwrapped_7 : decode cX7_keepUnwrapped 7 = .ok (.aload_n 0, 1) := by decide +kernel
theorem dX7_keepUnwrapped_8 : decode cX7_keepUnwrapped 8 = .ok (.getfield 66, 3) := by decide +kernel
theorem dX7_keepUnwrapped_11 : decode cX7_keepUnwrapped 11 = .ok (.iload_n 1, 1) := by decide +kernel
theorem dX7_keepUnwrapped_12 : decode cX7_keepUnwrapped 12 = .ok (.aaload, 1) := by decide +kernel
theorem dX7_keepUnwrapped_13 : decode cX7_keepUnwrapped 13 = .ok (.getfield 199, 3) := by decide +kernel
theorem dX7_keepUnwrapped_16 : decode cX7_keepUnwrapped 16 = .ok (.ifCond .ne 98, 3) := by decide +kernel
theorem dX7_keepUnwrapped_19 : decode cX7_keepUnwrapped 19 = .ok (.aload_n 0, 1) := by decide +kernel
theorem dX7_keepUnwrapped_20 : decode cX7_keepUnwrapped 20 = .ok (.getfield 66, 3) := by decide +kernel
theorem dX7_keepUnwrapped_23 : decode cX7_keepUnwrapped 23 = .ok (.iload_n 1, 1) := by decide +kernel
theorem dX7_keepUnwrapped_24 : decode cX7_keepUnwrapped 24 = .ok (.aaload, 1) := by decide +kernel
theorem dX7_keepUnwrapped_25 : decode cX7_keepUnwrapped 25 = .ok (.astore_n 2, 1) := by decide +kernel
theorem dX7_keepUnwrapped_26 : decode cX7_keepUnwrapped 26 = .ok (.aload_n 2, 1) := by decide +kernel
theorem dX7_keepUnwrapped_27 : decode cX7_keepUnwrapped 27 = .ok (.iconst 1, 1) := by decide +kernel
theorem dX7_keepUnwrapped_28 : decode cX7_keepUnwrapped 28 = .ok (.putfield 199, 3) := by decide +kernel
theorem dX7_keepUnwrapped_31 : decode cX7_keepUnwrapped 31 = .ok (.aload_n 0, 1) := by decide +kernel
theorem dX7_keepUnwrapped_32 : decode cX7_keepUnwrapped 32 = .ok (.getfield 30, 3) := by decide +kernel
theorem dX7_keepUnwrapped_35 : decode cX7_keepUnwrapped 35 = .ok (.getfield 93, 3) := by decide +kernel
theorem dX7_keepUnwrapped_38 : decode cX7_keepUnwrapped 38 = .ok (.iconst 4, 1) := by decide +kernel
theorem dX7_keepUnwrapped_39 : decode cX7_keepUnwrapped 39 = .ok (.aload_n 2, 1) := by decide +kernel
theorem dX7_keepUnwrapped_40 : decode cX7_keepUnwrapped 40 = .ok (.getfield 220, 3) := by decide +kernel
theorem dX7_keepUnwrapped_43 : decode cX7_keepUnwrapped 43 = .ok (.iconst 0, 1) := by decide +kernel
theorem dX7_keepUnwrapped_44 : decode cX7_keepUnwrapped 44 = .ok (.bipush 32, 2) := by decide +kernel
theorem dX7_keepUnwrapped_46 : decode cX7_keepUnwrapped 46 = .ok (.invokestatic 309, 3) := by decide +kernel
theorem dX7_keepUnwrapped_49 : decode cX7_keepUnwrapped 49 = .ok (.aload_n 0, 1) := by decide +kernel
theorem dX7_keepUnwrapped_50 : decode cX7_keepUnwrapped 50 = .ok (.getfield 30, 3) := by decide +kernel
theorem dX7_keepUnwrapped_53 : decode cX7_keepUnwrapped 53 = .ok (.getfield 93, 3) := by decide +kernel
theorem dX7_keepUnwrapped_56 : decode cX7_keepUnwrapped 56 = .ok (.bipush 36, 2) := by decide +kernel
theorem dX7_keepUnwrapped_58 : decode cX7_keepUnwrapped 58 = .ok (.aload_n 2, 1) := by decide +kernel
theorem dX7_keepUnwrapped_59 : decode cX7_keepUnwrapped 59 = .ok (.getfield 217, 3) := by decide +kernel
theorem dX7_keepUnwrapped_62 : decode cX7_keepUnwrapped 62 = .ok (.iconst 0, 1) := by decide +kernel
theorem dX7_keepUnwrapped_63 : decode cX7_keepUnwrapped 63 = .ok (.bipush 32, 2) := by decide +kernel
theorem dX7_keepUnwrapped_65 : decode cX7_keepUnwrapped 65 = .ok (.invokestatic 309, 3) := by decide +kernel
theorem dX7_keepUnwrapped_68 : decode cX7_keepUnwrapped 68 = .ok (.aload_n 2, 1) := by decide +kernel
theorem dX7_keepUnwrapped_69 : decode cX7_keepUnwrapped 69 = .ok (.getfield 196, 3) := by decide +kernel
theorem dX7_keepUnwrapped_72 : decode cX7_keepUnwrapped 72 = .ok (.aload_n 0, 1) := by decide +kernel
theorem dX7_keepUnwrapped_73 : decode cX7_keepUnwrapped 73 = .ok (.getfield 30, 3) := by decide +kernel
theorem dX7_keepUnwrapped_76 : decode cX7_keepUnwrapped 76 = .ok (.getfield 89, 3) := by decide +kernel
theorem dX7_keepUnwrapped_79 : decode cX7_keepUnwrapped 79 = .ok (.bipush 101, 2) := by decide +kernel
theorem dX7_keepUnwrapped_81 : decode cX7_keepUnwrapped 81 = .ok (.isub, 1) := by decide +kernel
theorem dX7_keepUnwrapped_82 : decode cX7_keepUnwrapped 82 = .ok (.putfield 89, 3) := by decide +kernel
theorem dX7_keepUnwrapped_85 : decode cX7_keepUnwrapped 85 = .ok (.aload_n 0, 1) := by decide +kernel
theorem dX7_keepUnwrapped_86 : decode cX7_keepUnwrapped 86 = .ok (.getfield 30, 3) := by decide +kernel
theorem dX7_keepUnwrapped_89 : decode cX7_keepUnwrapped 89 = .ok (.getfield 93, 3) := by decide +kernel
theorem dX7_keepUnwrapped_92 : decode cX7_keepUnwrapped 92 = .ok (.bipush 69, 2) := by decide +kernel
theorem dX7_keepUnwrapped_94 : decode cX7_keepUnwrapped 94 = .ok (.aload_n 2, 1) := by decide +kernel
theorem dX7_keepUnwrapped_95 : decode cX7_keepUnwrapped 95 = .ok (.getfield 196, 3) := by decide +kernel
theorem dX7_keepUnwrapped_98 : decode cX7_keepUnwrapped 98 = .ok (.getfield 93, 3) := by decide +kernel
theorem dX7_keepUnwrapped_101 : decode cX7_keepUnwrapped 101 = .ok (.iconst 0, 1) := by decide +kernel
theorem dX7_keepUnwrapped_102 : decode cX7_keepUnwrapped 102 = .ok (.aload_n 2, 1) := by decide +kernel
theorem dX7_keepUnwrapped_103 : decode cX7_keepUnwrapped 103 = .ok (.getfield 196, 3) := by decide +kernel
theorem dX7_keepUnwrapped_106 : decode cX7_keepUnwrapped 106 = .ok (.getfield 89, 3) := by decide +kernel
theorem dX7_keepUnwrapped_109 : decode cX7_keepUnwrapped 109 = .ok (.invokestatic 309, 3) := by decide +kernel
theorem dX7_keepUnwrapped_112 : decode cX7_keepUnwrapped 112 = .ok (.iload_n 1, 1) := by decide +kernel
theorem dX7_keepUnwrapped_113 : decode cX7_keepUnwrapped 113 = .ok (.ireturn, 1) := by decide +kernel
theorem dX7_keepUnwrapped_114 : decode cX7_keepUnwrapped 114 = .ok (.iinc 1 1, 3) := by decide +kernel
theorem dX7_keepUnwrapped_117 : decode cX7_keepUnwrapped 117 = .ok (.goto (-115), 3) := by decide +kernel
theorem dX7_keepUnwrapped_120 : decode cX7_keepUnwrapped 120 = .ok (.bipush (-3), 2) := by decide +kernel
theorem dX7_keepUnwrapped_122 : decode cX7_keepUnwrapped 122 = .ok (.ireturn, 1) := by decide +kernel
theorem dX7_writeTape_0 : decode cX7_writeTape 0 = .ok (.aload_n 1, 1) := by decide +kernel
theorem dX7_writeTape_1 : decode cX7_writeTape 1 = .ok (.ifnonnull 6, 3) := by decide +kernel
theorem dX7_writeTape_4 : decode cX7_writeTape 4 = .ok (.bipush (-2), 2) := by decide +kernel
theorem dX7_writeTape_6 : decode cX7_writeTape 6 = .ok (.ireturn, 1) := by decide +kernel
theorem dX7_writeTape_7 : decode cX7_writeTape 7 = .ok (.aload_n 1, 1) := by decide +kernel
theorem dX7_writeTape_8 : decode cX7_writeTape 8 = .ok (.getfield 206, 3) := by decide +kernel
theorem dX7_writeTape_11 : decode cX7_writeTape 11 = .ok (.getfield 196, 3) := by decide +kernel
theorem dX7_writeTape_14 : decode cX7_writeTape 14 = .ok (.astore 4, 2) := by decide +kernel
theorem dX7_writeTape_16 : decode cX7_writeTape 16 = .ok (.iload_n 2, 1) := by decide +kernel
theorem dX7_writeTape_17 : decode cX7_writeTape 17 = .ok (.ifCond .lt 29, 3) := by decide +kernel
theorem dX7_writeTape_20 : decode cX7_writeTape 20 = .ok (.iload_n 2, 1) := by decide +kernel
theorem dX7_writeTape_21 : decode cX7_writeTape 21 = .ok (.aload 4, 2) := by decide +kernel
theorem dX7_writeTape_23 : decode cX7_writeTape 23 = .ok (.getfield 89, 3) := by decide +kernel
theorem dX7_writeTape_26 : decode cX7_writeTape 26 = .ok (.if_icmp .gt 20, 3) := by decide +kernel
theorem dX7_writeTape_29 : decode cX7_writeTape 29 = .ok (.aload_n 0, 1) := by decide +kernel
theorem dX7_writeTape_30 : decode cX7_writeTape 30 = .ok (.getfield 30, 3) := by decide +kernel
theorem dX7_writeTape_33 : decode cX7_writeTape 33 = .ok (.getfield 89, 3) := by decide +kernel
theorem dX7_writeTape_36 : decode cX7_writeTape 36 = .ok (.aload 4, 2) := by decide +kernel
theorem dX7_writeTape_38 : decode cX7_writeTape 38 = .ok (.getfield 89, 3) := by decide +kernel
theorem dX7_writeTape_41 : decode cX7_writeTape 41 = .ok (.iload_n 2, 1) := by decide +kernel
theorem dX7_writeTape_42 : decode cX7_writeTape 42 = .ok (.isub, 1) := by decide +kernel
theorem dX7_writeTape_43 : decode cX7_writeTape 43 = .ok (.if_icmp .le 5, 3) := by decide +kernel
theorem dX7_writeTape_46 : decode cX7_writeTape 46 = .ok (.iconst (-1), 1) := by decide +kernel
theorem dX7_writeTape_47 : decode cX7_writeTape 47 = .ok (.ireturn, 1) := by decide +kernel
theorem dX7_writeTape_48 : decode cX7_writeTape 48 = .ok (.aload_n 0, 1) := by decide +kernel
theorem dX7_writeTape_49 : decode cX7_writeTape 49 = .ok (.aload_n 1, 1) := by decide +kernel
theorem dX7_writeTape_50 : decode cX7_writeTape 50 = .ok (.iload_n 3, 1) := by decide +kernel
theorem dX7_writeTape_51 : decode cX7_writeTape 51 = .ok (.iconst 2, 1) := by decide +kernel
theorem dX7_writeTape_52 : decode cX7_writeTape 52 = .ok (.invokevirtual 235, 3) := by decide +kernel
theorem dX7_writeTape_55 : decode cX7_writeTape 55 = .ok (.istore 5, 2) := by decide +kernel
theorem dX7_writeTape_57 : decode cX7_writeTape 57 = .ok (.iload 5, 2) := by decide +kernel
theorem dX7_writeTape_59 : decode cX7_writeTape 59 = .ok (.ifCond .eq 6, 3) := by decide +kernel
theorem dX7_writeTape_62 : decode cX7_writeTape 62 = .ok (.iload 5, 2) := by decide +kernel
theorem dX7_writeTape_64 : decode cX7_writeTape 64 = .ok (.ireturn, 1) := by decide +kernel
theorem dX7_writeTape_65 : decode cX7_writeTape 65 = .ok (.aload_n 0, 1) := by decide +kernel
theorem dX7_writeTape_66 : decode cX7_writeTape 66 = .ok (.getfield 30, 3) := by decide +kernel
theorem dX7_writeTape_69 : decode cX7_writeTape 69 = .ok (.getfield 93, 3) := by decide +kernel
theorem dX7_writeTape_72 : decode cX7_writeTape 72 = .ok (.iconst 0, 1) := by decide +kernel
theorem dX7_writeTape_73 : decode cX7_writeTape 73 = .ok (.aload 4, 2) := by decide +kernel
theorem dX7_writeTape_75 : decode cX7_writeTape 75 = .ok (.getfield 93, 3) := by decide +kernel
theorem dX7_writeTape_78 : decode cX7_writeTape 78 = .ok (.iload_n 2, 1) := by decide +kernel
theorem dX7_writeTape_79 : decode cX7_writeTape 79 = .ok (.aload_n 0, 1) := by decide +kernel
theorem dX7_writeTape_80 : decode cX7_writeTape 80 = .ok (.getfield 30, 3) := by decide +kernel
theorem dX7_writeTape_83 : decode cX7_writeTape 83 = .ok (.getfield 89, 3) := by decide +kernel
theorem dX7_writeTape_86 : decode cX7_writeTape 86 = .ok (.invokestatic 309, 3) := by decide +kernel
theorem dX7_writeTape_89 : decode cX7_writeTape 89 = .ok (.aload_n 1, 1) := by decide +kernel
theorem dX7_writeTape_90 : decode cX7_writeTape 90 = .ok (.iconst 1, 1) := by decide +kernel
theorem dX7_writeTape_91 : decode cX7_writeTape 91 = .ok (.putfield 238, 3) := by decide +kernel
theorem dX7_writeTape_94 : decode cX7_writeTape 94 = .ok (.iconst 0, 1) := by decide +kernel
theorem dX7_writeTape_95 : decode cX7_writeTape 95 = .ok (.ireturn, 1) := by decide +kernel
theorem dX7_chainTape_0 : decode cX7_chainTape 0 = .ok (.aload_n 1, 1) := by decide +kernel
theorem dX7_chainTape_1 : decode cX7_chainTape 1 = .ok (.ifnonnull 6, 3) := by decide +kernel
theorem dX7_chainTape_4 : decode cX7_chainTape 4 = .ok (.bipush (-2), 2) := by decide +kernel
theorem dX7_chainTape_6 : decode cX7_chainTape 6 = .ok (.ireturn, 1) := by decide +kernel
theorem dX7_chainTape_7 : decode cX7_chainTape 7 = .ok (.aload_n 0, 1) := by decide +kernel
theorem dX7_chainTape_8 : decode cX7_chainTape 8 = .ok (.aload_n 1, 1) := by decide +kernel
theorem dX7_chainTape_9 : decode cX7_chainTape 9 = .ok (.iload_n 2, 1) := by decide +kernel
theorem dX7_chainTape_10 : decode cX7_chainTape 10 = .ok (.iconst 4, 1) := by decide +kernel
theorem dX7_chainTape_11 : decode cX7_chainTape 11 = .ok (.invokevirtual 235, 3) := by decide +kernel
theorem dX7_chainTape_14 : decode cX7_chainTape 14 = .ok (.istore_n 3, 1) := by decide +kernel
theorem dX7_chainTape_15 : decode cX7_chainTape 15 = .ok (.iload_n 3, 1) := by decide +kernel
theorem dX7_chainTape_16 : decode cX7_chainTape 16 = .ok (.ifCond .eq 5, 3) := by decide +kernel
theorem dX7_chainTape_19 : decode cX7_chainTape 19 = .ok (.iload_n 3, 1) := by decide +kernel
theorem dX7_chainTape_20 : decode cX7_chainTape 20 = .ok (.ireturn, 1) := by decide +kernel
theorem dX7_chainTape_21 : decode cX7_chainTape 21 = .ok (.aload_n 1, 1) := by decide +kernel
theorem dX7_chainTape_22 : decode cX7_chainTape 22 = .ok (.getfield 206, 3) := by decide +kernel
theorem dX7_chainTape_25 : decode cX7_chainTape 25 = .ok (.getfield 196, 3) := by decide +kernel
theorem dX7_chainTape_28 : decode cX7_chainTape 28 = .ok (.getfield 93, 3) := by decide +kernel
theorem dX7_chainTape_31 : decode cX7_chainTape 31 = .ok (.astore 4, 2) := by decide +kernel
theorem dX7_chainTape_33 : decode cX7_chainTape 33 = .ok (.aload_n 0, 1) := by decide +kernel
theorem dX7_chainTape_34 : decode cX7_chainTape 34 = .ok (.getfield 10, 3) := by decide +kernel
theorem dX7_chainTape_37 : decode cX7_chainTape 37 = .ok (.invokevirtual 299, 3) := by decide +kernel
theorem dX7_chainTape_40 : decode cX7_chainTape 40 = .ok (.astore 5, 2) := by decide +kernel
theorem dX7_chainTape_42 : decode cX7_chainTape 42 = .ok (.aload 5, 2) := by decide +kernel
theorem dX7_chainTape_44 : decode cX7_chainTape 44 = .ok (.aload 4, 2) := by decide +kernel
theorem dX7_chainTape_46 : decode cX7_chainTape 46 = .ok (.bipush 32, 2) := by decide +kernel
theorem dX7_chainTape_48 : decode cX7_chainTape 48 = .ok (.invokevirtual 96, 3) := by decide +kernel
theorem dX7_chainTape_51 : decode cX7_chainTape 51 = .ok (.aload 5, 2) := by decide +kernel
theorem dX7_chainTape_53 : decode cX7_chainTape 53 = .ok (.aload_n 0, 1) := by decide +kernel
theorem dX7_chainTape_54 : decode cX7_chainTape 54 = .ok (.getfield 30, 3) := by decide +kernel
theorem dX7_chainTape_57 : decode cX7_chainTape 57 = .ok (.getfield 93, 3) := by decide +kernel
theorem dX7_chainTape_60 : decode cX7_chainTape 60 = .ok (.aload_n 0, 1) := by decide +kernel
theorem dX7_chainTape_61 : decode cX7_chainTape 61 = .ok (.getfield 30, 3) := by decide +kernel
theorem dX7_chainTape_64 : decode cX7_chainTape 64 = .ok (.getfield 89, 3) := by decide +kernel
theorem dX7_chainTape_67 : decode cX7_chainTape 67 = .ok (.invokevirtual 96, 3) := by decide +kernel
theorem dX7_chainTape_70 : decode cX7_chainTape 70 = .ok (.aload_n 0, 1) := by decide +kernel
theorem dX7_chainTape_71 : decode cX7_chainTape 71 = .ok (.getfield 10, 3) := by decide +kernel
theorem dX7_chainTape_74 : decode cX7_chainTape 74 = .ok (.aload 4, 2) := by decide +kernel
theorem dX7_chainTape_76 : decode cX7_chainTape 76 = .ok (.invokevirtual 149, 3) := by decide +kernel
theorem dX7_chainTape_79 : decode cX7_chainTape 79 = .ok (.aload_n 1, 1) := by decide +kernel
theorem dX7_chainTape_80 : decode cX7_chainTape 80 = .ok (.iconst 1, 1) := by decide +kernel
theorem dX7_chainTape_81 : decode cX7_chainTape 81 = .ok (.putfield 238, 3) := by decide +kernel
theorem dX7_chainTape_84 : decode cX7_chainTape 84 = .ok (.iconst 0, 1) := by decide +kernel
theorem dX7_chainTape_85 : decode cX7_chainTape 85 = .ok (.ireturn, 1) := by decide +kernel
theorem dX7_askToChange_0 : decode cX7_askToChange 0 = .ok (.aload_n 1, 1) := by decide +kernel
theorem dX7_askToChange_1 : decode cX7_askToChange 1 = .ok (.getfield 263, 3) := by decide +kernel
theorem dX7_askToChange_4 : decode cX7_askToChange 4 = .ok (.ifCond .eq 6, 3) := by decide +kernel
theorem dX7_askToChange_7 : decode cX7_askToChange 7 = .ok (.bipush (-3), 2) := by decide +kernel
theorem dX7_askToChange_9 : decode cX7_askToChange 9 = .ok (.ireturn, 1) := by decide +kernel
theorem dX7_askToChange_10 : decode cX7_askToChange 10 = .ok (.aload_n 0, 1) := by decide +kernel
theorem dX7_askToChange_11 : decode cX7_askToChange 11 = .ok (.aload_n 1, 1) := by decide +kernel
theorem dX7_askToChange_12 : decode cX7_askToChange 12 = .ok (.getfield 206, 3) := by decide +kernel
theorem dX7_askToChange_15 : decode cX7_askToChange 15 = .ok (.iload_n 2, 1) := by decide +kernel
theorem dX7_askToChange_16 : decode cX7_askToChange 16 = .ok (.iload_n 3, 1) := by decide +kernel
theorem dX7_askToChange_17 : decode cX7_askToChange 17 = .ok (.invokevirtual 192, 3) := by decide +kernel
theorem dX7_askToChange_20 : decode cX7_askToChange 20 = .ok (.ireturn, 1) := by decide +kernel
theorem dX7_ask_0 : decode cX7_ask 0 = .ok (.iload_n 2, 1) := by decide +kernel
theorem dX7_ask_1 : decode cX7_ask 1 = .ok (.iconst (-1), 1) := by decide +kernel
theorem dX7_ask_2 : decode cX7_ask 2 = .ok (.if_icmp .ne 12, 3) := by decide +kernel
theorem dX7_ask_5 : decode cX7_ask 5 = .ok (.aload_n 0, 1) := by decide +kernel
theorem dX7_ask_6 : decode cX7_ask 6 = .ok (.aload_n 1, 1) := by decide +kernel
theorem dX7_ask_7 : decode cX7_ask 7 = .ok (.getfield 217, 3) := by decide +kernel
theorem dX7_ask_10 : decode cX7_ask 10 = .ok (.invokevirtual 210, 3) := by decide +kernel
theorem dX7_ask_13 : decode cX7_ask 13 = .ok (.ireturn, 1) := by decide +kernel
theorem dX7_ask_14 : decode cX7_ask 14 = .ok (.aload_n 0, 1) := by decide +kernel
theorem dX7_ask_15 : decode cX7_ask 15 = .ok (.iload_n 2, 1) := by decide +kernel
theorem dX7_ask_16 : decode cX7_ask 16 = .ok (.invokevirtual 138, 3) := by decide +kernel
theorem dX7_ask_19 : decode cX7_ask 19 = .ok (.astore 4, 2) := by decide +kernel
theorem dX7_ask_21 : decode cX7_ask 21 = .ok (.aload 4, 2) := by decide +kernel
theorem dX7_ask_23 : decode cX7_ask 23 = .ok (.ifnonnull 5, 3) := by decide +kernel
theorem dX7_ask_26 : decode cX7_ask 26 = .ok (.iconst (-1), 1) := by decide +kernel
theorem dX7_ask_27 : decode cX7_ask 27 = .ok (.ireturn, 1) := by decide +kernel
theorem dX7_ask_28 : decode cX7_ask 28 = .ok (.aload_n 1, 1) := by decide +kernel
theorem dX7_ask_29 : decode cX7_ask 29 = .ok (.getfield 220, 3) := by decide +kernel
theorem dX7_ask_32 : decode cX7_ask 32 = .ok (.aload_n 0, 1) := by decide +kernel
theorem dX7_ask_33 : decode cX7_ask 33 = .ok (.getfield 44, 3) := by decide +kernel
theorem dX7_ask_36 : decode cX7_ask 36 = .ok (.invokestatic 266, 3) := by decide +kernel
theorem dX7_ask_39 : decode cX7_ask 39 = .ok (.ifCond .ne 38, 3) := by decide +kernel
theorem dX7_ask_42 : decode cX7_ask 42 = .ok (.aload_n 1, 1) := by decide +kernel
theorem dX7_ask_43 : decode cX7_ask 43 = .ok (.getfield 220, 3) := by decide +kernel
theorem dX7_ask_46 : decode cX7_ask 46 = .ok (.aload 4, 2) := by decide +kernel
theorem dX7_ask_48 : decode cX7_ask 48 = .ok (.getfield 146, 3) := by decide +kernel
theorem dX7_ask_51 : decode cX7_ask 51 = .ok (.invokestatic 266, 3) := by decide +kernel
theorem dX7_ask_54 : decode cX7_ask 54 = .ok (.ifCond .eq 23, 3) := by decide +kernel
theorem dX7_ask_57 : decode cX7_ask 57 = .ok (.aload 4, 2) := by decide +kernel
theorem dX7_ask_59 : decode cX7_ask 59 = .ok (.aload_n 0, 1) := by decide +kernel
theorem dX7_ask_60 : decode cX7_ask 60 = .ok (.getfield 53, 3) := by decide +kernel
theorem dX7_ask_63 : decode cX7_ask 63 = .ok (.getfield 152, 3) := by decide +kernel
theorem dX7_ask_66 : decode cX7_ask 66 = .ok (.iload_n 3, 1) := by decide +kernel
theorem dX7_ask_67 : decode cX7_ask 67 = .ok (.aload_n 0, 1) := by decide +kernel
theorem dX7_ask_68 : decode cX7_ask 68 = .ok (.getfield 125, 3) := by decide +kernel
theorem dX7_ask_71 : decode cX7_ask 71 = .ok (.invokevirtual 315, 3) := by decide +kernel
theorem dX7_ask_74 : decode cX7_ask 74 = .ok (.ifCond .ne 6, 3) := by decide +kernel
theorem dX7_ask_77 : decode cX7_ask 77 = .ok (.bipush (-7), 2) := by decide +kernel
theorem dX7_ask_79 : decode cX7_ask 79 = .ok (.ireturn, 1) := by decide +kernel
theorem dX7_ask_80 : decode cX7_ask 80 = .ok (.aload 4, 2) := by decide +kernel
theorem dX7_ask_82 : decode cX7_ask 82 = .ok (.getfield 158, 3) := by decide +kernel
theorem dX7_ask_85 : decode cX7_ask 85 = .ok (.ifCond .eq 21, 3) := by decide +kernel
theorem dX7_ask_88 : decode cX7_ask 88 = .ok (.aload_n 0, 1) := by decide +kernel
theorem dX7_ask_89 : decode cX7_ask 89 = .ok (.aload_n 1, 1) := by decide +kernel
theorem dX7_ask_90 : decode cX7_ask 90 = .ok (.getfield 217, 3) := by decide +kernel
theorem dX7_ask_93 : decode cX7_ask 93 = .ok (.invokevirtual 210, 3) := by decide +kernel
theorem dX7_ask_96 : decode cX7_ask 96 = .ok (.istore 5, 2) := by decide +kernel
theorem dX7_ask_98 : decode cX7_ask 98 = .ok (.iload 5, 2) := by decide +kernel
theorem dX7_ask_100 : decode cX7_ask 100 = .ok (.ifCond .eq 6, 3) := by decide +kernel
theorem dX7_ask_103 : decode cX7_ask 103 = .ok (.iload 5, 2) := by decide +kernel
theorem dX7_ask_105 : decode cX7_ask 105 = .ok (.ireturn, 1) := by decide +kernel
theorem dX7_ask_106 : decode cX7_ask 106 = .ok (.aload 4, 2) := by decide +kernel
theorem dX7_ask_108 : decode cX7_ask 108 = .ok (.iconst 0, 1) := by decide +kernel
theorem dX7_ask_109 : decode cX7_ask 109 = .ok (.putfield 284, 3) := by decide +kernel
theorem dX7_ask_112 : decode cX7_ask 112 = .ok (.iconst 0, 1) := by decide +kernel
theorem dX7_ask_113 : decode cX7_ask 113 = .ok (.ireturn, 1) := by decide +kernel
theorem dX7_askKey_0 : decode cX7_askKey 0 = .ok (.aload_n 0, 1) := by decide +kernel
theorem dX7_askKey_1 : decode cX7_askKey 1 = .ok (.getfield 270, 3) := by decide +kernel
theorem dX7_askKey_4 : decode cX7_askKey 4 = .ok (.iconst 4, 1) := by decide +kernel
theorem dX7_askKey_5 : decode cX7_askKey 5 = .ok (.if_icmp .lt 6, 3) := by decide +kernel
theorem dX7_askKey_8 : decode cX7_askKey 8 = .ok (.bipush (-5), 2) := by decide +kernel
theorem dX7_askKey_10 : decode cX7_askKey 10 = .ok (.ireturn, 1) := by decide +kernel
theorem dX7_askKey_11 : decode cX7_askKey 11 = .ok (.aload_n 0, 1) := by decide +kernel
theorem dX7_askKey_12 : decode cX7_askKey 12 = .ok (.getfield 37, 3) := by decide +kernel
theorem dX7_askKey_15 : decode cX7_askKey 15 = .ok (.aload_n 1, 1) := by decide +kernel
theorem dX7_askKey_16 : decode cX7_askKey 16 = .ok (.invokestatic 266, 3) := by decide +kernel
theorem dX7_askKey_19 : decode cX7_askKey 19 = .ok (.ifCond .ne 16, 3) := by decide +kernel
theorem dX7_askKey_22 : decode cX7_askKey 22 = .ok (.aload_n 0, 1) := by decide +kernel
theorem dX7_askKey_23 : decode cX7_askKey 23 = .ok (.dup, 1) := by decide +kernel
theorem dX7_askKey_24 : decode cX7_askKey 24 = .ok (.getfield 270, 3) := by decide +kernel
theorem dX7_askKey_27 : decode cX7_askKey 27 = .ok (.iconst 1, 1) := by decide +kernel
theorem dX7_askKey_28 : decode cX7_askKey 28 = .ok (.iadd, 1) := by decide +kernel
theorem dX7_askKey_29 : decode cX7_askKey 29 = .ok (.putfield 270, 3) := by decide +kernel
theorem dX7_askKey_32 : decode cX7_askKey 32 = .ok (.bipush (-4), 2) := by decide +kernel
theorem dX7_askKey_34 : decode cX7_askKey 34 = .ok (.ireturn, 1) := by decide +kernel
theorem dX7_askKey_35 : decode cX7_askKey 35 = .ok (.iconst 0, 1) := by decide +kernel
theorem dX7_askKey_36 : decode cX7_askKey 36 = .ok (.ireturn, 1) := by decide +kernel
theorem dX7_freeObjects_0 : decode cX7_freeObjects 0 = .ok (.iconst 0, 1) := by decide +kernel
theorem dX7_freeObjects_1 : decode cX7_freeObjects 1 = .ok (.istore_n 1, 1) := by decide +kernel
theorem dX7_freeObjects_2 : decode cX7_freeObjects 2 = .ok (.iload_n 1, 1) := by decide +kernel
theorem dX7_freeObjects_3 : decode cX7_freeObjects 3 = .ok (.iconst 4, 1) := by decide +kernel
theorem dX7_freeObjects_4 : decode cX7_freeObjects 4 = .ok (.if_icmp .ge 19, 3) := by decide +kernel
theorem dX7_freeObjects_7 : decode cX7_freeObjects 7 = .ok (.aload_n 0, 1) := by decide +kernel
theorem dX7_freeObjects_8 : decode cX7_freeObjects 8 = .ok (.getfield 66, 3) := by decide +kernel
theorem dX7_freeObjects_11 : decode cX7_freeObjects 11 = .ok (.iload_n 1, 1) := by decide +kernel
theorem dX7_freeObjects_12 : decode cX7_freeObjects 12 = .ok (.aaload, 1) := by decide +kernel
theorem dX7_freeObjects_13 : decode cX7_freeObjects 13 = .ok (.iconst 0, 1) := by decide +kernel
theorem dX7_freeObjects_14 : decode cX7_freeObjects 14 = .ok (.putfield 199, 3) := by decide +kernel
theorem dX7_freeObjects_17 : decode cX7_freeObjects 17 = .ok (.iinc 1 1, 3) := by decide +kernel
theorem dX7_freeObjects_20 : decode cX7_freeObjects 20 = .ok (.goto (-18), 3) := by decide +kernel
theorem dX7_freeObjects_23 : decode cX7_freeObjects 23 = .ok (.return_, 1) := by decide +kernel
theorem dX7_objectsHeld_0 : decode cX7_objectsHeld 0 = .ok (.iconst 0, 1) := by decide +kernel
theorem dX7_objectsHeld_1 : decode cX7_objectsHeld 1 = .ok (.istore_n 1, 1) := by decide +kernel
theorem dX7_objectsHeld_2 : decode cX7_objectsHeld 2 = .ok (.iconst 0, 1) := by decide +kernel
theorem dX7_objectsHeld_3 : decode cX7_objectsHeld 3 = .ok (.istore_n 2, 1) := by decide +kernel
theorem dX7_objectsHeld_4 : decode cX7_objectsHeld 4 = .ok (.iload_n 2, 1) := by decide +kernel
theorem dX7_objectsHeld_5 : decode cX7_objectsHeld 5 = .ok (.iconst 4, 1) := by decide +kernel
theorem dX7_objectsHeld_6 : decode cX7_objectsHeld 6 = .ok (.if_icmp .ge 29, 3) := by decide +kernel
theorem dX7_objectsHeld_9 : decode cX7_objectsHeld 9 = .ok (.iload_n 1, 1) := by decide +kernel
theorem dX7_objectsHeld_10 : decode cX7_objectsHeld 10 = .ok (.aload_n 0, 1) := by decide +kernel
theorem dX7_objectsHeld_11 : decode cX7_objectsHeld 11 = .ok (.getfield 66, 3) := by decide +kernel
theorem dX7_objectsHeld_14 : decode cX7_objectsHeld 14 = .ok (.iload_n 2, 1) := by decide +kernel
theorem dX7_objectsHeld_15 : decode cX7_objectsHeld 15 = .ok (.aaload, 1) := by decide +kernel
theorem dX7_objectsHeld_16 : decode cX7_objectsHeld 16 = .ok (.getfield 199, 3) := by decide +kernel
theorem dX7_objectsHeld_19 : decode cX7_objectsHeld 19 = .ok (.ifCond .eq 7, 3) := by decide +kernel
theorem dX7_objectsHeld_22 : decode cX7_objectsHeld 22 = .ok (.iconst 1, 1) := by decide +kernel
theorem dX7_objectsHeld_23 : decode cX7_objectsHeld 23 = .ok (.goto 4, 3) := by decide +kernel
theorem dX7_objectsHeld_26 : decode cX7_objectsHeld 26 = .ok (.iconst 0, 1) := by decide +kernel
theorem dX7_objectsHeld_27 : decode cX7_objectsHeld 27 = .ok (.iadd, 1) := by decide +kernel
theorem dX7_objectsHeld_28 : decode cX7_objectsHeld 28 = .ok (.istore_n 1, 1) := by decide +kernel
theorem dX7_objectsHeld_29 : decode cX7_objectsHeld 29 = .ok (.iinc 2 1, 3) := by decide +kernel
theorem dX7_objectsHeld_32 : decode cX7_objectsHeld 32 = .ok (.goto (-28), 3) := by decide +kernel
theorem dX7_objectsHeld_35 : decode cX7_objectsHeld 35 = .ok (.iload_n 1, 1) := by decide +kernel
theorem dX7_objectsHeld_36 : decode cX7_objectsHeld 36 = .ok (.ireturn, 1) := by decide +kernel
theorem dX7_sessionsOpen_0 : decode cX7_sessionsOpen 0 = .ok (.iconst 0, 1) := by decide +kernel
theorem dX7_sessionsOpen_1 : decode cX7_sessionsOpen 1 = .ok (.istore_n 1, 1) := by decide +kernel
theorem dX7_sessionsOpen_2 : decode cX7_sessionsOpen 2 = .ok (.iconst 0, 1) := by decide +kernel
theorem dX7_sessionsOpen_3 : decode cX7_sessionsOpen 3 = .ok (.istore_n 2, 1) := by decide +kernel
theorem dX7_sessionsOpen_4 : decode cX7_sessionsOpen 4 = .ok (.iload_n 2, 1) := by decide +kernel
theorem dX7_sessionsOpen_5 : decode cX7_sessionsOpen 5 = .ok (.iconst 4, 1) := by decide +kernel
theorem dX7_sessionsOpen_6 : decode cX7_sessionsOpen 6 = .ok (.if_icmp .ge 29, 3) := by decide +kernel
theorem dX7_sessionsOpen_9 : decode cX7_sessionsOpen 9 = .ok (.iload_n 1, 1) := by decide +kernel
theorem dX7_sessionsOpen_10 : decode cX7_sessionsOpen 10 = .ok (.aload_n 0, 1) := by decide +kernel
theorem dX7_sessionsOpen_11 : decode cX7_sessionsOpen 11 = .ok (.getfield 59, 3) := by decide +kernel
theorem dX7_sessionsOpen_14 : decode cX7_sessionsOpen 14 = .ok (.iload_n 2, 1) := by decide +kernel
theorem dX7_sessionsOpen_15 : decode cX7_sessionsOpen 15 = .ok (.aaload, 1) := by decide +kernel
theorem dX7_sessionsOpen_16 : decode cX7_sessionsOpen 16 = .ok (.getfield 284, 3) := by decide +kernel
theorem dX7_sessionsOpen_19 : decode cX7_sessionsOpen 19 = .ok (.ifCond .eq 7, 3) := by decide +kernel
theorem dX7_sessionsOpen_22 : decode cX7_sessionsOpen 22 = .ok (.iconst 1, 1) := by decide +kernel
theorem dX7_sessionsOpen_23 : decode cX7_sessionsOpen 23 = .ok (.goto 4, 3) := by decide +kernel
theorem dX7_sessionsOpen_26 : decode cX7_sessionsOpen 26 = .ok (.iconst 0, 1) := by decide +kernel
theorem dX7_sessionsOpen_27 : decode cX7_sessionsOpen 27 = .ok (.iadd, 1) := by decide +kernel
theorem dX7_sessionsOpen_28 : decode cX7_sessionsOpen 28 = .ok (.istore_n 1, 1) := by decide +kernel
theorem dX7_sessionsOpen_29 : decode cX7_sessionsOpen 29 = .ok (.iinc 2 1, 3) := by decide +kernel
theorem dX7_sessionsOpen_32 : decode cX7_sessionsOpen 32 = .ok (.goto (-28), 3) := by decide +kernel
theorem dX7_sessionsOpen_35 : decode cX7_sessionsOpen 35 = .ok (.iload_n 1, 1) := by decide +kernel
theorem dX7_sessionsOpen_36 : decode cX7_sessionsOpen 36 = .ok (.ireturn, 1) := by decide +kernel
theorem dX7_valuesDefined_0 : decode cX7_valuesDefined 0 = .ok (.iconst 0, 1) := by decide +kernel
theorem dX7_valuesDefined_1 : decode cX7_valuesDefined 1 = .ok (.istore_n 1, 1) := by decide +kernel
theorem dX7_valuesDefined_2 : decode cX7_valuesDefined 2 = .ok (.iconst 0, 1) := by decide +kernel
theorem dX7_valuesDefined_3 : decode cX7_valuesDefined 3 = .ok (.istore_n 2, 1) := by decide +kernel
theorem dX7_valuesDefined_4 : decode cX7_valuesDefined 4 = .ok (.iload_n 2, 1) := by decide +kernel
theorem dX7_valuesDefined_5 : decode cX7_valuesDefined 5 = .ok (.bipush 8, 2) := by decide +kernel
theorem dX7_valuesDefined_7 : decode cX7_valuesDefined 7 = .ok (.if_icmp .ge 32, 3) := by decide +kernel
theorem dX7_valuesDefined_10 : decode cX7_valuesDefined 10 = .ok (.iload_n 1, 1) := by decide +kernel
theorem dX7_valuesDefined_11 : decode cX7_valuesDefined 11 = .ok (.aload_n 0, 1) := by decide +kernel
theorem dX7_valuesDefined_12 : decode cX7_valuesDefined 12 = .ok (.getfield 73, 3) := by decide +kernel
theorem dX7_valuesDefined_15 : decode cX7_valuesDefined 15 = .ok (.iload_n 2, 1) := by decide +kernel
theorem dX7_valuesDefined_16 : decode cX7_valuesDefined 16 = .ok (.aaload, 1) := by decide +kernel
theorem dX7_valuesDefined_17 : decode cX7_valuesDefined 17 = .ok (.getfield 206, 3) := by decide +kernel
theorem dX7_valuesDefined_20 : decode cX7_valuesDefined 20 = .ok (.getfield 199, 3) := by decide +kernel
theorem dX7_valuesDefined_23 : decode cX7_valuesDefined 23 = .ok (.ifCond .eq 7, 3) := by decide +kernel
theorem dX7_valuesDefined_26 : decode cX7_valuesDefined 26 = .ok (.iconst 1, 1) := by decide +kernel
theorem dX7_valuesDefined_27 : decode cX7_valuesDefined 27 = .ok (.goto 4, 3) := by decide +kernel
theorem dX7_valuesDefined_30 : decode cX7_valuesDefined 30 = .ok (.iconst 0, 1) := by decide +kernel
theorem dX7_valuesDefined_31 : decode cX7_valuesDefined 31 = .ok (.iadd, 1) := by decide +kernel
theorem dX7_valuesDefined_32 : decode cX7_valuesDefined 32 = .ok (.istore_n 1, 1) := by decide +kernel
theorem dX7_valuesDefined_33 : decode cX7_valuesDefined 33 = .ok (.iinc 2 1, 3) := by decide +kernel
theorem dX7_valuesDefined_36 : decode cX7_valuesDefined 36 = .ok (.goto (-32), 3) := by decide +kernel
theorem dX7_valuesDefined_39 : decode cX7_valuesDefined 39 = .ok (.iload_n 1, 1) := by decide +kernel
theorem dX7_valuesDefined_40 : decode cX7_valuesDefined 40 = .ok (.ireturn, 1) := by decide +kernel
theorem dX7_copyDigest_0 : decode cX7_copyDigest 0 = .ok (.aload_n 0, 1) := by decide +kernel
theorem dX7_copyDigest_1 : decode cX7_copyDigest 1 = .ok (.iconst 0, 1) := by decide +kernel
theorem dX7_copyDigest_2 : decode cX7_copyDigest 2 = .ok (.aload_n 1, 1) := by decide +kernel
theorem dX7_copyDigest_3 : decode cX7_copyDigest 3 = .ok (.iconst 0, 1) := by decide +kernel
theorem dX7_copyDigest_4 : decode cX7_copyDigest 4 = .ok (.bipush 32, 2) := by decide +kernel
theorem dX7_copyDigest_6 : decode cX7_copyDigest 6 = .ok (.invokestatic 309, 3) := by decide +kernel
theorem dX7_copyDigest_9 : decode cX7_copyDigest 9 = .ok (.return_, 1) := by decide +kernel
theorem dX7_sameDigest_0 : decode cX7_sameDigest 0 = .ok (.aload_n 0, 1) := by decide +kernel
theorem dX7_sameDigest_1 : decode cX7_sameDigest 1 = .ok (.aload_n 1, 1) := by decide +kernel
theorem dX7_sameDigest_2 : decode cX7_sameDigest 2 = .ok (.iconst 0, 1) := by decide +kernel
theorem dX7_sameDigest_3 : decode cX7_sameDigest 3 = .ok (.invokestatic 305, 3) := by decide +kernel
theorem dX7_sameDigest_6 : decode cX7_sameDigest 6 = .ok (.ireturn, 1) := by decide +kernel
theorem dX7_sameBytes_0 : decode cX7_sameBytes 0 = .ok (.iconst 0, 1) := by decide +kernel
theorem dX7_sameBytes_1 : decode cX7_sameBytes 1 = .ok (.istore_n 3, 1) := by decide +kernel
theorem dX7_sameBytes_2 : decode cX7_sameBytes 2 = .ok (.iload_n 3, 1) := by decide +kernel
theorem dX7_sameBytes_3 : decode cX7_sameBytes 3 = .ok (.bipush 32, 2) := by decide +kernel
theorem dX7_sameBytes_5 : decode cX7_sameBytes 5 = .ok (.if_icmp .ge 22, 3) := by decide +kernel
theorem dX7_sameBytes_8 : decode cX7_sameBytes 8 = .ok (.aload_n 0, 1) := by decide +kernel
theorem dX7_sameBytes_9 : decode cX7_sameBytes 9 = .ok (.iload_n 3, 1) := by decide +kernel
theorem dX7_sameBytes_10 : decode cX7_sameBytes 10 = .ok (.baload, 1) := by decide +kernel
theorem dX7_sameBytes_11 : decode cX7_sameBytes 11 = .ok (.aload_n 1, 1) := by decide +kernel
theorem dX7_sameBytes_12 : decode cX7_sameBytes 12 = .ok (.iload_n 2, 1) := by decide +kernel
theorem dX7_sameBytes_13 : decode cX7_sameBytes 13 = .ok (.iload_n 3, 1) := by decide +kernel
theorem dX7_sameBytes_14 : decode cX7_sameBytes 14 = .ok (.iadd, 1) := by decide +kernel
theorem dX7_sameBytes_15 : decode cX7_sameBytes 15 = .ok (.baload, 1) := by decide +kernel
theorem dX7_sameBytes_16 : decode cX7_sameBytes 16 = .ok (.if_icmp .eq 5, 3) := by decide +kernel
theorem dX7_sameBytes_19 : decode cX7_sameBytes 19 = .ok (.iconst 0, 1) := by decide +kernel
theorem dX7_sameBytes_20 : decode cX7_sameBytes 20 = .ok (.ireturn, 1) := by decide +kernel
theorem dX7_sameBytes_21 : decode cX7_sameBytes 21 = .ok (.iinc 3 1, 3) := by decide +kernel
theorem dX7_sameBytes_24 : decode cX7_sameBytes 24 = .ok (.goto (-22), 3) := by decide +kernel
theorem dX7_sameBytes_27 : decode cX7_sameBytes 27 = .ok (.iconst 1, 1) := by decide +kernel
theorem dX7_sameBytes_28 : decode cX7_sameBytes 28 = .ok (.ireturn, 1) := by decide +kernel
theorem dX8_init_0 : decode cX8_init 0 = .ok (.aload_n 0, 1) := by decide +kernel
theorem dX8_init_1 : decode cX8_init 1 = .ok (.invokespecial 1, 3) := by decide +kernel
theorem dX8_init_4 : decode cX8_init 4 = .ok (.aload_n 0, 1) := by decide +kernel
theorem dX8_init_5 : decode cX8_init 5 = .ok (.sipush 400, 3) := by decide +kernel
theorem dX8_init_8 : decode cX8_init 8 = .ok (.newarray .byte, 2) := by decide +kernel
theorem dX8_init_10 : decode cX8_init 10 = .ok (.putfield 9, 3) := by decide +kernel
theorem dX8_init_13 : decode cX8_init 13 = .ok (.aload_n 0, 1) := by decide +kernel
theorem dX8_init_14 : decode cX8_init 14 = .ok (.sipush 512, 3) := by decide +kernel
theorem dX8_init_17 : decode cX8_init 17 = .ok (.newarray .byte, 2) := by decide +kernel
theorem dX8_init_19 : decode cX8_init 19 = .ok (.putfield 13, 3) := by decide +kernel
theorem dX8_init_22 : decode cX8_init 22 = .ok (.aload_n 0, 1) := by decide +kernel
theorem dX8_init_23 : decode cX8_init 23 = .ok (.sipush 1024, 3) := by decide +kernel
theorem dX8_init_26 : decode cX8_init 26 = .ok (.newarray .byte, 2) := by decide +kernel
theorem dX8_init_28 : decode cX8_init 28 = .ok (.putfield 16, 3) := by decide +kernel
theorem dX8_init_31 : decode cX8_init 31 = .ok (.aload_n 0, 1) := by decide +kernel
theorem dX8_init_32 : decode cX8_init 32 = .ok (.bipush 8, 2) := by decide +kernel
theorem dX8_init_34 : decode cX8_init 34 = .ok (.newarray .long, 2) := by decide +kernel
theorem dX8_init_36 : decode cX8_init 36 = .ok (.putfield 19, 3) := by decide +kernel
theorem dX8_init_39 : decode cX8_init 39 = .ok (.aload_n 0, 1) := by decide +kernel
theorem dX8_init_40 : decode cX8_init 40 = .ok (.bipush 64, 2) := by decide +kernel
theorem dX8_init_42 : decode cX8_init 42 = .ok (.newarray .long, 2) := by decide +kernel
theorem dX8_init_44 : decode cX8_init 44 = .ok (.putfield 23, 3) := by decide +kernel
theorem dX8_init_47 : decode cX8_init 47 = .ok (.aload_n 0, 1) := by decide +kernel
theorem dX8_init_48 : decode cX8_init 48 = .ok (.bipush 32, 2) := by decide +kernel
theorem dX8_init_50 : decode cX8_init 50 = .ok (.newarray .byte, 2) := by decide +kernel
theorem dX8_init_52 : decode cX8_init 52 = .ok (.putfield 26, 3) := by decide +kernel
theorem dX8_init_55 : decode cX8_init 55 = .ok (.aload_n 0, 1) := by decide +kernel
theorem dX8_init_56 : decode cX8_init 56 = .ok (.bipush 32, 2) := by decide +kernel
theorem dX8_init_58 : decode cX8_init 58 = .ok (.newarray .byte, 2) := by decide +kernel
theorem dX8_init_60 : decode cX8_init 60 = .ok (.putfield 29, 3) := by decide +kernel
theorem dX8_init_63 : decode cX8_init 63 = .ok (.aload_n 0, 1) := by decide +kernel
theorem dX8_init_64 : decode cX8_init 64 = .ok (.sipush 1024, 3) := by decide +kernel
theorem dX8_init_67 : decode cX8_init 67 = .ok (.newarray .byte, 2) := by decide +kernel
theorem dX8_init_69 : decode cX8_init 69 = .ok (.putfield 32, 3) := by decide +kernel
theorem dX8_init_72 : decode cX8_init 72 = .ok (.aload_n 0, 1) := by decide +kernel
theorem dX8_init_73 : decode cX8_init 73 = .ok (.bipush 32, 2) := by decide +kernel
theorem dX8_init_75 : decode cX8_init 75 = .ok (.newarray .byte, 2) := by decide +kernel
theorem dX8_init_77 : decode cX8_init 77 = .ok (.putfield 35, 3) := by decide +kernel
theorem dX8_init_80 : decode cX8_init 80 = .ok (.aload_n 0, 1) := by decide +kernel
theorem dX8_init_81 : decode cX8_init 81 = .ok (.bipush 32, 2) := by decide +kernel
theorem dX8_init_83 : decode cX8_init 83 = .ok (.newarray .byte, 2) := by decide +kernel
theorem dX8_init_85 : decode cX8_init 85 = .ok (.putfield 38, 3) := by decide +kernel
theorem dX8_init_88 : decode cX8_init 88 = .ok (.aload_n 0, 1) := by decide +kernel
theorem dX8_init_89 : decode cX8_init 89 = .ok (.bipush 32, 2) := by decide +kernel
theorem dX8_init_91 : decode cX8_init 91 = .ok (.newarray .byte, 2) := by decide +kernel
theorem dX8_init_93 : decode cX8_init 93 = .ok (.putfield 41, 3) := by decide +kernel
theorem dX8_init_96 : decode cX8_init 96 = .ok (.aload_n 0, 1) := by decide +kernel
theorem dX8_init_97 : decode cX8_init 97 = .ok (.sipush 256, 3) := by decide +kernel
theorem dX8_init_100 : decode cX8_init 100 = .ok (.newarray .byte, 2) := by decide +kernel
theorem dX8_init_102 : decode cX8_init 102 = .ok (.putfield 44, 3) := by decide +kernel
theorem dX8_init_105 : decode cX8_init 105 = .ok (.aload_n 0, 1) := by decide +kernel
theorem dX8_init_106 : decode cX8_init 106 = .ok (.iconst 4, 1) := by decide +kernel
theorem dX8_init_107 : decode cX8_init 107 = .ok (.newarray .boolean, 2) := by decide +kernel
theorem dX8_init_109 : decode cX8_init 109 = .ok (.putfield 47, 3) := by decide +kernel
theorem dX8_init_112 : decode cX8_init 112 = .ok (.aload_n 0, 1) := by decide +kernel
theorem dX8_init_113 : decode cX8_init 113 = .ok (.sipush 128, 3) := by decide +kernel
theorem dX8_init_116 : decode cX8_init 116 = .ok (.newarray .byte, 2) := by decide +kernel
theorem dX8_init_118 : decode cX8_init 118 = .ok (.putfield 51, 3) := by decide +kernel
theorem dX8_init_121 : decode cX8_init 121 = .ok (.aload_n 0, 1) := by decide +kernel
theorem dX8_init_122 : decode cX8_init 122 = .ok (.iconst 4, 1) := by decide +kernel
theorem dX8_init_123 : decode cX8_init 123 = .ok (.newarray .boolean, 2) := by decide +kernel
theorem dX8_init_125 : decode cX8_init 125 = .ok (.putfield 54, 3) := by decide +kernel
theorem dX8_init_128 : decode cX8_init 128 = .ok (.aload_n 0, 1) := by decide +kernel
theorem dX8_init_129 : decode cX8_init 129 = .ok (.iconst 4, 1) := by decide +kernel
theorem dX8_init_130 : decode cX8_init 130 = .ok (.newarray .boolean, 2) := by decide +kernel
theorem dX8_init_132 : decode cX8_init 132 = .ok (.putfield 57, 3) := by decide +kernel
theorem dX8_init_135 : decode cX8_init 135 = .ok (.aload_n 0, 1) := by decide +kernel
theorem dX8_init_136 : decode cX8_init 136 = .ok (.iconst 4, 1) := by decide +kernel
theorem dX8_init_137 : decode cX8_init 137 = .ok (.newarray .boolean, 2) := by decide +kernel
theorem dX8_init_139 : decode cX8_init 139 = .ok (.putfield 60, 3) := by decide +kernel
theorem dX8_init_142 : decode cX8_init 142 = .ok (.aload_n 0, 1) := by decide +kernel
theorem dX8_init_143 : decode cX8_init 143 = .ok (.iconst 4, 1) := by decide +kernel
theorem dX8_init_144 : decode cX8_init 144 = .ok (.newarray .boolean, 2) := by decide +kernel
theorem dX8_init_146 : decode cX8_init 146 = .ok (.putfield 63, 3) := by decide +kernel
theorem dX8_init_149 : decode cX8_init 149 = .ok (.aload_n 0, 1) := by decide +kernel
theorem dX8_init_150 : decode cX8_init 150 = .ok (.iconst 4, 1) := by decide +kernel
theorem dX8_init_151 : decode cX8_init 151 = .ok (.newarray .int, 2) := by decide +kernel
theorem dX8_init_153 : decode cX8_init 153 = .ok (.putfield 66, 3) := by decide +kernel
theorem dX8_init_156 : decode cX8_init 156 = .ok (.aload_n 0, 1) := by decide +kernel
theorem dX8_init_157 : decode cX8_init 157 = .ok (.iconst 4, 1) := by decide +kernel
theorem dX8_init_158 : decode cX8_init 158 = .ok (.newarray .int, 2) := by decide +kernel
theorem dX8_init_160 : decode cX8_init 160 = .ok (.putfield 70, 3) := by decide +kernel
theorem dX8_init_163 : decode cX8_init 163 = .ok (.aload_n 0, 1) := by decide +kernel
theorem dX8_init_164 : decode cX8_init 164 = .ok (.bipush 12, 2) := by decide +kernel
theorem dX8_init_166 : decode cX8_init 166 = .ok (.newarray .boolean, 2) := by decide +kernel
theorem dX8_init_168 : decode cX8_init 168 = .ok (.putfield 73, 3) := by decide +kernel
theorem dX8_init_171 : decode cX8_init 171 = .ok (.aload_n 0, 1) := by decide +kernel
theorem dX8_init_172 : decode cX8_init 172 = .ok (.sipush 384, 3) := by decide +kernel
theorem dX8_init_175 : decode cX8_init 175 = .ok (.newarray .byte, 2) := by decide +kernel
theorem dX8_init_177 : decode cX8_init 177 = .ok (.putfield 76, 3) := by decide +kernel
theorem dX8_init_180 : decode cX8_init 180 = .ok (.aload_n 0, 1) := by decide +kernel
theorem dX8_init_181 : decode cX8_init 181 = .ok (.sipush 384, 3) := by decide +kernel
theorem dX8_init_184 : decode cX8_init 184 = .ok (.newarray .byte, 2) := by decide +kernel
theorem dX8_init_186 : decode cX8_init 186 = .ok (.putfield 79, 3) := by decide +kernel
theorem dX8_init_189 : decode cX8_init 189 = .ok (.aload_n 0, 1) := by decide +kernel
theorem dX8_init_190 : decode cX8_init 190 = .ok (.sipush 1536, 3) := by decide +kernel
theorem dX8_init_193 : decode cX8_init 193 = .ok (.newarray .byte, 2) := by decide +kernel
theorem dX8_init_195 : decode cX8_init 195 = .ok (.putfield 82, 3) := by decide +kernel
theorem dX8_init_198 : decode cX8_init 198 = .ok (.aload_n 0, 1) := by decide +kernel
theorem dX8_init_199 : decode cX8_init 199 = .ok (.bipush 12, 2) := by decide +kernel
theorem dX8_init_201 : decode cX8_init 201 = .ok (.newarray .int, 2) := by decide +kernel
theorem dX8_init_203 : decode cX8_init 203 = .ok (.putfield 85, 3) := by decide +kernel
theorem dX8_init_206 : decode cX8_init 206 = .ok (.aload_n 0, 1) := by decide +kernel
theorem dX8_init_207 : decode cX8_init 207 = .ok (.bipush 12, 2) := by decide +kernel
theorem dX8_init_209 : decode cX8_init 209 = .ok (.newarray .int, 2) := by decide +kernel
theorem dX8_init_211 : decode cX8_init 211 = .ok (.putfield 88, 3) := by decide +kernel
theorem dX8_init_214 : decode cX8_init 214 = .ok (.aload_n 0, 1) := by decide +kernel
theorem dX8_init_215 : decode cX8_init 215 = .ok (.bipush 12, 2) := by decide +kernel
theorem dX8_init_217 : decode cX8_init 217 = .ok (.newarray .boolean, 2) := by decide +kernel
theorem dX8_init_219 : decode cX8_init 219 = .ok (.putfield 91, 3) := by decide +kernel
theorem dX8_init_222 : decode cX8_init 222 = .ok (.aload_n 0, 1) := by decide +kernel
theorem dX8_init_223 : decode cX8_init 223 = .ok (.bipush 12, 2) := by decide +kernel
theorem dX8_init_225 : decode cX8_init 225 = .ok (.newarray .boolean, 2) := by decide +kernel
theorem dX8_init_227 : decode cX8_init 227 = .ok (.putfield 94, 3) := by decide +kernel
theorem dX8_init_230 : decode cX8_init 230 = .ok (.aload_n 0, 1) := by decide +kernel
theorem dX8_init_231 : decode cX8_init 231 = .ok (.bipush 32, 2) := by decide +kernel
theorem dX8_init_233 : decode cX8_init 233 = .ok (.newarray .byte, 2) := by decide +kernel
theorem dX8_init_235 : decode cX8_init 235 = .ok (.putfield 97, 3) := by decide +kernel
theorem dX8_init_238 : decode cX8_init 238 = .ok (.aload_n 0, 1) := by decide +kernel
theorem dX8_init_239 : decode cX8_init 239 = .ok (.iconst 0, 1) := by decide +kernel
theorem dX8_init_240 : decode cX8_init 240 = .ok (.putfield 100, 3) := by decide +kernel
theorem dX8_init_243 : decode cX8_init 243 = .ok (.aload_n 0, 1) := by decide +kernel
theorem dX8_init_244 : decode cX8_init 244 = .ok (.bipush 83, 2) := by decide +kernel
theorem dX8_init_246 : decode cX8_init 246 = .ok (.invokevirtual 104, 3) := by decide +kernel
theorem dX8_init_249 : decode cX8_init 249 = .ok (.aload_n 0, 1) := by decide +kernel
theorem dX8_init_250 : decode cX8_init 250 = .ok (.bipush 69, 2) := by decide +kernel
theorem dX8_init_252 : decode cX8_init 252 = .ok (.invokevirtual 104, 3) := by decide +kernel
theorem dX8_init_255 : decode cX8_init 255 = .ok (.aload_n 0, 1) := by decide +kernel
theorem dX8_init_256 : decode cX8_init 256 = .ok (.bipush 69, 2) := by decide +kernel
theorem dX8_init_258 : decode cX8_init 258 = .ok (.invokevirtual 104, 3) := by decide +kernel
theorem dX8_init_261 : decode cX8_init 261 = .ok (.aload_n 0, 1) := by decide +kernel
theorem dX8_init_262 : decode cX8_init 262 = .ok (.bipush 68, 2) := by decide +kernel
theorem dX8_init_264 : decode cX8_init 264 = .ok (.invokevirtual 104, 3) := by decide +kernel
theorem dX8_init_267 : decode cX8_init 267 = .ok (.aload_n 0, 1) := by decide +kernel
theorem dX8_init_268 : decode cX8_init 268 = .ok (.iload_n 1, 1) := by decide +kernel
theorem dX8_init_269 : decode cX8_init 269 = .ok (.invokevirtual 108, 3) := by decide +kernel
theorem dX8_init_272 : decode cX8_init 272 = .ok (.aload_n 0, 1) := by decide +kernel
theorem dX8_init_273 : decode cX8_init 273 = .ok (.aload_n 0, 1) := by decide +kernel
theorem dX8_init_274 : decode cX8_init 274 = .ok (.getfield 35, 3) := by decide +kernel
theorem dX8_init_277 : decode cX8_init 277 = .ok (.iconst 0, 1) := by decide +kernel
theorem dX8_init_278 : decode cX8_init 278 = .ok (.invokevirtual 111, 3) := by decide +kernel
theorem dX8_init_281 : decode cX8_init 281 = .ok (.aload_n 0, 1) := by decide +kernel
theorem dX8_init_282 : decode cX8_init 282 = .ok (.iconst 0, 1) := by decide +kernel
theorem dX8_init_283 : decode cX8_init 283 = .ok (.putfield 100, 3) := by decide +kernel
theorem dX8_init_286 : decode cX8_init 286 = .ok (.aload_n 0, 1) := by decide +kernel
theorem dX8_init_287 : decode cX8_init 287 = .ok (.aload_n 0, 1) := by decide +kernel
theorem dX8_init_288 : decode cX8_init 288 = .ok (.getfield 38, 3) := by decide +kernel
theorem dX8_init_291 : decode cX8_init 291 = .ok (.iconst 0, 1) := by decide +kernel
theorem dX8_init_292 : decode cX8_init 292 = .ok (.invokevirtual 111, 3) := by decide +kernel
theorem dX8_init_295 : decode cX8_init 295 = .ok (.aload_n 0, 1) := by decide +kernel
theorem dX8_init_296 : decode cX8_init 296 = .ok (.aload_n 0, 1) := by decide +kernel
theorem dX8_init_297 : decode cX8_init 297 = .ok (.getfield 41, 3) := by decide +kernel
theorem dX8_init_300 : decode cX8_init 300 = .ok (.iconst 0, 1) := by decide +kernel
theorem dX8_init_301 : decode cX8_init 301 = .ok (.invokevirtual 111, 3) := by decide +kernel
theorem dX8_init_304 : decode cX8_init 304 = .ok (.return_, 1) := by decide +kernel
theorem dX8_add_0 : decode cX8_add 0 = .ok (.aload_n 0, 1) := by decide +kernel
theorem dX8_add_1 : decode cX8_add 1 = .ok (.getfield 16, 3) := by decide +kernel
theorem dX8_add_4 : decode cX8_add 4 = .ok (.aload_n 0, 1) := by decide +kernel
theorem dX8_add_5 : decode cX8_add 5 = .ok (.getfield 100, 3) := by decide +kernel
theorem dX8_add_8 : decode cX8_add 8 = .ok (.iload_n 1, 1) := by decide +kernel
theorem dX8_add_9 : decode cX8_add 9 = .ok (.i2b, 1) := by decide +kernel
theorem dX8_add_10 : decode cX8_add 10 = .ok (.bastore, 1) := by decide +kernel
theorem dX8_add_11 : decode cX8_add 11 = .ok (.aload_n 0, 1) := by decide +kernel
theorem dX8_add_12 : decode cX8_add 12 = .ok (.dup, 1) := by decide +kernel
theorem dX8_add_13 : decode cX8_add 13 = .ok (.getfield 100, 3) := by decide +kernel
theorem dX8_add_16 : decode cX8_add 16 = .ok (.iconst 1, 1) := by decide +kernel
theorem dX8_add_17 : decode cX8_add 17 = .ok (.iadd, 1) := by decide +kernel
theorem dX8_add_18 : decode cX8_add 18 = .ok (.putfield 100, 3) := by decide +kernel
theorem dX8_add_21 : decode cX8_add 21 = .ok (.return_, 1) := by decide +kernel
theorem dX8_word_0 : decode cX8_word 0 = .ok (.bipush 24, 2) := by decide +kernel
theorem dX8_word_2 : decode cX8_word 2 = .ok (.istore_n 2, 1) := by decide +kernel
theorem dX8_word_3 : decode cX8_word 3 = .ok (.iload_n 2, 1) := by decide +kernel
theorem dX8_word_4 : decode cX8_word 4 = .ok (.ifCond .lt 16, 3) := by decide +kernel
theorem dX8_word_7 : decode cX8_word 7 = .ok (.aload_n 0, 1) := by decide +kernel
theorem dX8_word_8 : decode cX8_word 8 = .ok (.iload_n 1, 1) := by decide +kernel
theorem dX8_word_9 : decode cX8_word 9 = .ok (.iload_n 2, 1) := by decide +kernel
theorem dX8_word_10 : decode cX8_word 10 = .ok (.ishr, 1) := by decide +kernel
theorem dX8_word_11 : decode cX8_word 11 = .ok (.invokevirtual 104, 3) := by decide +kernel
theorem dX8_word_14 : decode cX8_word 14 = .ok (.iinc 2 (-8), 3) := by decide +kernel
theorem dX8_word_17 : decode cX8_word 17 = .ok (.goto (-14), 3) := by decide +kernel
theorem dX8_word_20 : decode cX8_word 20 = .ok (.return_, 1) := by decide +kernel
theorem dX8_add__0 : decode cX8_add_ 0 = .ok (.iconst 0, 1) := by decide +kernel
theorem dX8_add__1 : decode cX8_add_ 1 = .ok (.istore 4, 2) := by decide +kernel
theorem dX8_add__3 : decode cX8_add_ 3 = .ok (.iload 4, 2) := by decide +kernel
theorem dX8_add__5 : decode cX8_add_ 5 = .ok (.iload_n 3, 1) := by decide +kernel
theorem dX8_add__6 : decode cX8_add_ 6 = .ok (.if_icmp .ge 19, 3) := by decide +kernel
theorem dX8_add__9 : decode cX8_add_ 9 = .ok (.aload_n 0, 1) := by decide +kernel
theorem dX8_add__10 : decode cX8_add_ 10 = .ok (.aload_n 1, 1) := by decide +kernel
theorem dX8_add__11 : decode cX8_add_ 11 = .ok (.iload_n 2, 1) := by decide +kernel
theorem dX8_add__12 : decode cX8_add_ 12 = .ok (.iload 4, 2) := by decide +kernel
theorem dX8_add__14 : decode cX8_add_ 14 = .ok (.iadd, 1) := by decide +kernel
theorem dX8_add__15 : decode cX8_add_ 15 = .ok (.baload, 1) := by decide +kernel
theorem dX8_add__16 : decode cX8_add_ 16 = .ok (.invokevirtual 104, 3) := by decide +kernel
theorem dX8_add__19 : decode cX8_add_ 19 = .ok (.iinc 4 1, 3) := by decide +kernel
theorem dX8_add__22 : decode cX8_add_ 22 = .ok (.goto (-19), 3) := by decide +kernel
theorem dX8_add__25 : decode cX8_add_ 25 = .ok (.return_, 1) := by decide +kernel
theorem dX8_turn_0 : decode cX8_turn 0 = .ok (.lload_n 0, 1) := by decide +kernel
theorem dX8_turn_1 : decode cX8_turn 1 = .ok (.iload_n 2, 1) := by decide +kernel
theorem dX8_turn_2 : decode cX8_turn 2 = .ok (.lshr, 1) := by decide +kernel
theorem dX8_turn_3 : decode cX8_turn 3 = .ok (.lload_n 0, 1) := by decide +kernel
theorem dX8_turn_4 : decode cX8_turn 4 = .ok (.bipush 32, 2) := by decide +kernel
theorem dX8_turn_6 : decode cX8_turn 6 = .ok (.iload_n 2, 1) := by decide +kernel
theorem dX8_turn_7 : decode cX8_turn 7 = .ok (.isub, 1) := by decide +kernel
theorem dX8_turn_8 : decode cX8_turn 8 = .ok (.lshl, 1) := by decide +kernel
theorem dX8_turn_9 : decode cX8_turn 9 = .ok (.lor, 1) := by decide +kernel
theorem dX8_turn_10 : decode cX8_turn 10 = .ok (.ldc2_w 115, 3) := by decide +kernel
theorem dX8_turn_13 : decode cX8_turn 13 = .ok (.land, 1) := by decide +kernel
theorem dX8_turn_14 : decode cX8_turn 14 = .ok (.lreturn, 1) := by decide +kernel
