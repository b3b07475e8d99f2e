theorem dX0_init_0 : decode cX0_init 0 = .ok (.aload_n 0, 1) := by decide +kernel
theorem dX0_init_1 : decode cX0_init 1 = .ok (.invokespecial 1, 3) := by decide +kernel
theorem dX0_init_4 : decode cX0_init 4 = .ok (.aload_n 0, 1) := by decide +kernel
theorem dX0_init_5 : decode cX0_init 5 = .ok (.iload_n 1, 1) := by decide +kernel
theorem dX0_init_6 : decode cX0_init 6 = .ok (.newarray .byte, 2) := by decide +kernel
theorem dX0_init_8 : decode cX0_init 8 = .ok (.putfield 7, 3) := by decide +kernel
theorem dX0_init_11 : decode cX0_init 11 = .ok (.return_, 1) := by decide +kernel
theorem dX0_hasRoomFor_0 : decode cX0_hasRoomFor 0 = .ok (.iload_n 1, 1) := by decide +kernel
theorem dX0_hasRoomFor_1 : decode cX0_hasRoomFor 1 = .ok (.aload_n 0, 1) := by decide +kernel
theorem dX0_hasRoomFor_2 : decode cX0_hasRoomFor 2 = .ok (.getfield 7, 3) := by decide +kernel
theorem dX0_hasRoomFor_5 : decode cX0_hasRoomFor 5 = .ok (.arraylength, 1) := by decide +kernel
theorem dX0_hasRoomFor_6 : decode cX0_hasRoomFor 6 = .ok (.aload_n 0, 1) := by decide +kernel
theorem dX0_hasRoomFor_7 : decode cX0_hasRoomFor 7 = .ok (.getfield 13, 3) := by decide +kernel
theorem dX0_hasRoomFor_10 : decode cX0_hasRoomFor 10 = .ok (.isub, 1) := by decide +kernel
theorem dX0_hasRoomFor_11 : decode cX0_hasRoomFor 11 = .ok (.if_icmp .gt 7, 3) := by decide +kernel
theorem dX0_hasRoomFor_14 : decode cX0_hasRoomFor 14 = .ok (.iconst 1, 1) := by decide +kernel
theorem dX0_hasRoomFor_15 : decode cX0_hasRoomFor 15 = .ok (.goto 4, 3) := by decide +kernel
theorem dX0_hasRoomFor_18 : decode cX0_hasRoomFor 18 = .ok (.iconst 0, 1) := by decide +kernel
theorem dX0_hasRoomFor_19 : decode cX0_hasRoomFor 19 = .ok (.ireturn, 1) := by decide +kernel
theorem dX0_put_0 : decode cX0_put 0 = .ok (.aload_n 0, 1) := by decide +kernel
theorem dX0_put_1 : decode cX0_put 1 = .ok (.getfield 13, 3) := by decide +kernel
theorem dX0_put_4 : decode cX0_put 4 = .ok (.aload_n 0, 1) := by decide +kernel
theorem dX0_put_5 : decode cX0_put 5 = .ok (.getfield 7, 3) := by decide +kernel
theorem dX0_put_8 : decode cX0_put 8 = .ok (.arraylength, 1) := by decide +kernel
theorem dX0_put_9 : decode cX0_put 9 = .ok (.if_icmp .ge 24, 3) := by decide +kernel
theorem dX0_put_12 : decode cX0_put 12 = .ok (.aload_n 0, 1) := by decide +kernel
theorem dX0_put_13 : decode cX0_put 13 = .ok (.getfield 7, 3) := by decide +kernel
theorem dX0_put_16 : decode cX0_put 16 = .ok (.aload_n 0, 1) := by decide +kernel
theorem dX0_put_17 : decode cX0_put 17 = .ok (.getfield 13, 3) := by decide +kernel
theorem dX0_put_20 : decode cX0_put 20 = .ok (.iload_n 1, 1) := by decide +kernel
theorem dX0_put_21 : decode cX0_put 21 = .ok (.i2b, 1) := by decide +kernel
theorem dX0_put_22 : decode cX0_put 22 = .ok (.bastore, 1) := by decide +kernel
theorem dX0_put_23 : decode cX0_put 23 = .ok (.aload_n 0, 1) := by decide +kernel
theorem dX0_put_24 : decode cX0_put 24 = .ok (.dup, 1) := by decide +kernel
theorem dX0_put_25 : decode cX0_put 25 = .ok (.getfield 13, 3) := by decide +kernel
theorem dX0_put_28 : decode cX0_put 28 = .ok (.iconst 1, 1) := by decide +kernel
theorem dX0_put_29 : decode cX0_put 29 = .ok (.iadd, 1) := by decide +kernel
theorem dX0_put_30 : decode cX0_put 30 = .ok (.putfield 13, 3) := by decide +kernel
theorem dX0_put_33 : decode cX0_put 33 = .ok (.return_, 1) := by decide +kernel
theorem dX0_putInt_0 : decode cX0_putInt 0 = .ok (.aload_n 0, 1) := by decide +kernel
theorem dX0_putInt_1 : decode cX0_putInt 1 = .ok (.iload_n 1, 1) := by decide +kernel
theorem dX0_putInt_2 : decode cX0_putInt 2 = .ok (.bipush 24, 2) := by decide +kernel
theorem dX0_putInt_4 : decode cX0_putInt 4 = .ok (.iushr, 1) := by decide +kernel
theorem dX0_putInt_5 : decode cX0_putInt 5 = .ok (.invokevirtual 17, 3) := by decide +kernel
theorem dX0_putInt_8 : decode cX0_putInt 8 = .ok (.aload_n 0, 1) := by decide +kernel
theorem dX0_putInt_9 : decode cX0_putInt 9 = .ok (.iload_n 1, 1) := by decide +kernel
theorem dX0_putInt_10 : decode cX0_putInt 10 = .ok (.bipush 16, 2) := by decide +kernel
theorem dX0_putInt_12 : decode cX0_putInt 12 = .ok (.iushr, 1) := by decide +kernel
theorem dX0_putInt_13 : decode cX0_putInt 13 = .ok (.invokevirtual 17, 3) := by decide +kernel
theorem dX0_putInt_16 : decode cX0_putInt 16 = .ok (.aload_n 0, 1) := by decide +kernel
theorem dX0_putInt_17 : decode cX0_putInt 17 = .ok (.iload_n 1, 1) := by decide +kernel
theorem dX0_putInt_18 : decode cX0_putInt 18 = .ok (.bipush 8, 2) := by decide +kernel
theorem dX0_putInt_20 : decode cX0_putInt 20 = .ok (.iushr, 1) := by decide +kernel
theorem dX0_putInt_21 : decode cX0_putInt 21 = .ok (.invokevirtual 17, 3) := by decide +kernel
theorem dX0_putInt_24 : decode cX0_putInt 24 = .ok (.aload_n 0, 1) := by decide +kernel
theorem dX0_putInt_25 : decode cX0_putInt 25 = .ok (.iload_n 1, 1) := by decide +kernel
theorem dX0_putInt_26 : decode cX0_putInt 26 = .ok (.invokevirtual 17, 3) := by decide +kernel
theorem dX0_putInt_29 : decode cX0_putInt 29 = .ok (.return_, 1) := by decide +kernel
theorem dX0_intAt_0 : decode cX0_intAt 0 = .ok (.iload_n 1, 1) := by decide +kernel
theorem dX0_intAt_1 : decode cX0_intAt 1 = .ok (.ifCond .lt 14, 3) := by decide +kernel
theorem dX0_intAt_4 : decode cX0_intAt 4 = .ok (.iload_n 1, 1) := by decide +kernel
theorem dX0_intAt_5 : decode cX0_intAt 5 = .ok (.aload_n 0, 1) := by decide +kernel
theorem dX0_intAt_6 : decode cX0_intAt 6 = .ok (.getfield 7, 3) := by decide +kernel
theorem dX0_intAt_9 : decode cX0_intAt 9 = .ok (.arraylength, 1) := by decide +kernel
theorem dX0_intAt_10 : decode cX0_intAt 10 = .ok (.iconst 4, 1) := by decide +kernel
theorem dX0_intAt_11 : decode cX0_intAt 11 = .ok (.isub, 1) := by decide +kernel
theorem dX0_intAt_12 : decode cX0_intAt 12 = .ok (.if_icmp .le 5, 3) := by decide +kernel
theorem dX0_intAt_15 : decode cX0_intAt 15 = .ok (.iconst 0, 1) := by decide +kernel
theorem dX0_intAt_16 : decode cX0_intAt 16 = .ok (.ireturn, 1) := by decide +kernel
theorem dX0_intAt_17 : decode cX0_intAt 17 = .ok (.aload_n 0, 1) := by decide +kernel
theorem dX0_intAt_18 : decode cX0_intAt 18 = .ok (.getfield 7, 3) := by decide +kernel
theorem dX0_intAt_21 : decode cX0_intAt 21 = .ok (.iload_n 1, 1) := by decide +kernel
theorem dX0_intAt_22 : decode cX0_intAt 22 = .ok (.baload, 1) := by decide +kernel
theorem dX0_intAt_23 : decode cX0_intAt 23 = .ok (.bipush 24, 2) := by decide +kernel
theorem dX0_intAt_25 : decode cX0_intAt 25 = .ok (.ishl, 1) := by decide +kernel
theorem dX0_intAt_26 : decode cX0_intAt 26 = .ok (.aload_n 0, 1) := by decide +kernel
theorem dX0_intAt_27 : decode cX0_intAt 27 = .ok (.getfield 7, 3) := by decide +kernel
theorem dX0_intAt_30 : decode cX0_intAt 30 = .ok (.iload_n 1, 1) := by decide +kernel
theorem dX0_intAt_31 : decode cX0_intAt 31 = .ok (.iconst 1, 1) := by decide +kernel
theorem dX0_intAt_32 : decode cX0_intAt 32 = .ok (.iadd, 1) := by decide +kernel
theorem dX0_intAt_33 : decode cX0_intAt 33 = .ok (.baload, 1) := by decide +kernel
theorem dX0_intAt_34 : decode cX0_intAt 34 = .ok (.sipush 255, 3) := by decide +kernel
theorem dX0_intAt_37 : decode cX0_intAt 37 = .ok (.iand, 1) := by decide +kernel
theorem dX0_intAt_38 : decode cX0_intAt 38 = .ok (.bipush 16, 2) := by decide +kernel
theorem dX0_intAt_40 : decode cX0_intAt 40 = .ok (.ishl, 1) := by decide +kernel
theorem dX0_intAt_41 : decode cX0_intAt 41 = .ok (.ior, 1) := by decide +kernel
theorem dX0_intAt_42 : decode cX0_intAt 42 = .ok (.aload_n 0, 1) := by decide +kernel
theorem dX0_intAt_43 : decode cX0_intAt 43 = .ok (.getfield 7, 3) := by decide +kernel
theorem dX0_intAt_46 : decode cX0_intAt 46 = .ok (.iload_n 1, 1) := by decide +kernel
theorem dX0_intAt_47 : decode cX0_intAt 47 = .ok (.iconst 2, 1) := by decide +kernel
theorem dX0_intAt_48 : decode cX0_intAt 48 = .ok (.iadd, 1) := by decide +kernel
theorem dX0_intAt_49 : decode cX0_intAt 49 = .ok (.baload, 1) := by decide +kernel
theorem dX0_intAt_50 : decode cX0_intAt 50 = .ok (.sipush 255, 3) := by decide +kernel
theorem dX0_intAt_53 : decode cX0_intAt 53 = .ok (.iand, 1) := by decide +kernel
theorem dX0_intAt_54 : decode cX0_intAt 54 = .ok (.bipush 8, 2) := by decide +kernel
theorem dX0_intAt_56 : decode cX0_intAt 56 = .ok (.ishl, 1) := by decide +kernel
theorem dX0_intAt_57 : decode cX0_intAt 57 = .ok (.ior, 1) := by decide +kernel
theorem dX0_intAt_58 : decode cX0_intAt 58 = .ok (.aload_n 0, 1) := by decide +kernel
theorem dX0_intAt_59 : decode cX0_intAt 59 = .ok (.getfield 7, 3) := by decide +kernel
theorem dX0_intAt_62 : decode cX0_intAt 62 = .ok (.iload_n 1, 1) := by decide +kernel
theorem dX0_intAt_63 : decode cX0_intAt 63 = .ok (.iconst 3, 1) := by decide +kernel
theorem dX0_intAt_64 : decode cX0_intAt 64 = .ok (.iadd, 1) := by decide +kernel
theorem dX0_intAt_65 : decode cX0_intAt 65 = .ok (.baload, 1) := by decide +kernel
theorem dX0_intAt_66 : decode cX0_intAt 66 = .ok (.sipush 255, 3) := by decide +kernel
theorem dX0_intAt_69 : decode cX0_intAt 69 = .ok (.iand, 1) := by decide +kernel
theorem dX0_intAt_70 : decode cX0_intAt 70 = .ok (.ior, 1) := by decide +kernel
theorem dX0_intAt_71 : decode cX0_intAt 71 = .ok (.ireturn, 1) := by decide +kernel
theorem dX0_putAll_0 : decode cX0_putAll 0 = .ok (.iload_n 2, 1) := by decide +kernel
theorem dX0_putAll_1 : decode cX0_putAll 1 = .ok (.aload_n 0, 1) := by decide +kernel
theorem dX0_putAll_2 : decode cX0_putAll 2 = .ok (.getfield 7, 3) := by decide +kernel
theorem dX0_putAll_5 : decode cX0_putAll 5 = .ok (.arraylength, 1) := by decide +kernel
theorem dX0_putAll_6 : decode cX0_putAll 6 = .ok (.aload_n 0, 1) := by decide +kernel
theorem dX0_putAll_7 : decode cX0_putAll 7 = .ok (.getfield 13, 3) := by decide +kernel
theorem dX0_putAll_10 : decode cX0_putAll 10 = .ok (.isub, 1) := by decide +kernel
theorem dX0_putAll_11 : decode cX0_putAll 11 = .ok (.invokestatic 21, 3) := by decide +kernel
theorem dX0_putAll_14 : decode cX0_putAll 14 = .ok (.istore_n 3, 1) := by decide +kernel
theorem dX0_putAll_15 : decode cX0_putAll 15 = .ok (.aload_n 1, 1) := by decide +kernel
theorem dX0_putAll_16 : decode cX0_putAll 16 = .ok (.iconst 0, 1) := by decide +kernel
theorem dX0_putAll_17 : decode cX0_putAll 17 = .ok (.aload_n 0, 1) := by decide +kernel
theorem dX0_putAll_18 : decode cX0_putAll 18 = .ok (.getfield 7, 3) := by decide +kernel
theorem dX0_putAll_21 : decode cX0_putAll 21 = .ok (.aload_n 0, 1) := by decide +kernel
theorem dX0_putAll_22 : decode cX0_putAll 22 = .ok (.getfield 13, 3) := by decide +kernel
theorem dX0_putAll_25 : decode cX0_putAll 25 = .ok (.iload_n 3, 1) := by decide +kernel
theorem dX0_putAll_26 : decode cX0_putAll 26 = .ok (.invokestatic 27, 3) := by decide +kernel
theorem dX0_putAll_29 : decode cX0_putAll 29 = .ok (.aload_n 0, 1) := by decide +kernel
theorem dX0_putAll_30 : decode cX0_putAll 30 = .ok (.dup, 1) := by decide +kernel
theorem dX0_putAll_31 : decode cX0_putAll 31 = .ok (.getfield 13, 3) := by decide +kernel
theorem dX0_putAll_34 : decode cX0_putAll 34 = .ok (.iload_n 3, 1) := by decide +kernel
theorem dX0_putAll_35 : decode cX0_putAll 35 = .ok (.iadd, 1) := by decide +kernel
theorem dX0_putAll_36 : decode cX0_putAll 36 = .ok (.putfield 13, 3) := by decide +kernel
theorem dX0_putAll_39 : decode cX0_putAll 39 = .ok (.return_, 1) := by decide +kernel
theorem dX1_init_0 : decode cX1_init 0 = .ok (.aload_n 0, 1) := by decide +kernel
theorem dX1_init_1 : decode cX1_init 1 = .ok (.invokespecial 3, 3) := by decide +kernel
theorem dX1_init_4 : decode cX1_init 4 = .ok (.aload_n 0, 1) := by decide +kernel
theorem dX1_init_5 : decode cX1_init 5 = .ok (.new 9, 3) := by decide +kernel
theorem dX1_init_8 : decode cX1_init 8 = .ok (.dup, 1) := by decide +kernel
theorem dX1_init_9 : decode cX1_init 9 = .ok (.sipush 512, 3) := by decide +kernel
theorem dX1_init_12 : decode cX1_init 12 = .ok (.invokespecial 13, 3) := by decide +kernel
theorem dX1_init_15 : decode cX1_init 15 = .ok (.putfield 16, 3) := by decide +kernel
theorem dX1_init_18 : decode cX1_init 18 = .ok (.aload_n 0, 1) := by decide +kernel
theorem dX1_init_19 : decode cX1_init 19 = .ok (.bipush 8, 2) := by decide +kernel
theorem dX1_init_21 : decode cX1_init 21 = .ok (.newarray .int, 2) := by decide +kernel
theorem dX1_init_23 : decode cX1_init 23 = .ok (.putfield 20, 3) := by decide +kernel
theorem dX1_init_26 : decode cX1_init 26 = .ok (.aload_n 0, 1) := by decide +kernel
theorem dX1_init_27 : decode cX1_init 27 = .ok (.bipush 64, 2) := by decide +kernel
theorem dX1_init_29 : decode cX1_init 29 = .ok (.newarray .int, 2) := by decide +kernel
theorem dX1_init_31 : decode cX1_init 31 = .ok (.putfield 24, 3) := by decide +kernel
theorem dX1_init_34 : decode cX1_init 34 = .ok (.aload_n 0, 1) := by decide +kernel
theorem dX1_init_35 : decode cX1_init 35 = .ok (.bipush 32, 2) := by decide +kernel
theorem dX1_init_37 : decode cX1_init 37 = .ok (.newarray .byte, 2) := by decide +kernel
theorem dX1_init_39 : decode cX1_init 39 = .ok (.putfield 27, 3) := by decide +kernel
theorem dX1_init_42 : decode cX1_init 42 = .ok (.return_, 1) := by decide +kernel
theorem dX1_begin_0 : decode cX1_begin 0 = .ok (.aload_n 0, 1) := by decide +kernel
theorem dX1_begin_1 : decode cX1_begin 1 = .ok (.getfield 16, 3) := by decide +kernel
theorem dX1_begin_4 : decode cX1_begin 4 = .ok (.iconst 0, 1) := by decide +kernel
theorem dX1_begin_5 : decode cX1_begin 5 = .ok (.putfield 31, 3) := by decide +kernel
theorem dX1_begin_8 : decode cX1_begin 8 = .ok (.aload_n 0, 1) := by decide +kernel
theorem dX1_begin_9 : decode cX1_begin 9 = .ok (.getfield 16, 3) := by decide +kernel
theorem dX1_begin_12 : decode cX1_begin 12 = .ok (.areturn, 1) := by decide +kernel
theorem dX1_beginKeyed_0 : decode cX1_beginKeyed 0 = .ok (.aload_n 0, 1) := by decide +kernel
theorem dX1_beginKeyed_1 : decode cX1_beginKeyed 1 = .ok (.getfield 16, 3) := by decide +kernel
theorem dX1_beginKeyed_4 : decode cX1_beginKeyed 4 = .ok (.iconst 0, 1) := by decide +kernel
theorem dX1_beginKeyed_5 : decode cX1_beginKeyed 5 = .ok (.putfield 31, 3) := by decide +kernel
theorem dX1_beginKeyed_8 : decode cX1_beginKeyed 8 = .ok (.aload_n 0, 1) := by decide +kernel
theorem dX1_beginKeyed_9 : decode cX1_beginKeyed 9 = .ok (.aload_n 1, 1) := by decide +kernel
theorem dX1_beginKeyed_10 : decode cX1_beginKeyed 10 = .ok (.bipush 54, 2) := by decide +kernel
theorem dX1_beginKeyed_12 : decode cX1_beginKeyed 12 = .ok (.invokevirtual 35, 3) := by decide +kernel
theorem dX1_beginKeyed_15 : decode cX1_beginKeyed 15 = .ok (.aload_n 0, 1) := by decide +kernel
theorem dX1_beginKeyed_16 : decode cX1_beginKeyed 16 = .ok (.getfield 16, 3) := by decide +kernel
theorem dX1_beginKeyed_19 : decode cX1_beginKeyed 19 = .ok (.areturn, 1) := by decide +kernel
theorem dX1_finishKeyed_0 : decode cX1_finishKeyed 0 = .ok (.aload_n 0, 1) := by decide +kernel
theorem dX1_finishKeyed_1 : decode cX1_finishKeyed 1 = .ok (.aload_n 0, 1) := by decide +kernel
theorem dX1_finishKeyed_2 : decode cX1_finishKeyed 2 = .ok (.getfield 27, 3) := by decide +kernel
theorem dX1_finishKeyed_5 : decode cX1_finishKeyed 5 = .ok (.invokevirtual 39, 3) := by decide +kernel
theorem dX1_finishKeyed_8 : decode cX1_finishKeyed 8 = .ok (.aload_n 0, 1) := by decide +kernel
theorem dX1_finishKeyed_9 : decode cX1_finishKeyed 9 = .ok (.getfield 16, 3) := by decide +kernel
theorem dX1_finishKeyed_12 : decode cX1_finishKeyed 12 = .ok (.iconst 0, 1) := by decide +kernel
theorem dX1_finishKeyed_13 : decode cX1_finishKeyed 13 = .ok (.putfield 31, 3) := by decide +kernel
theorem dX1_finishKeyed_16 : decode cX1_finishKeyed 16 = .ok (.aload_n 0, 1) := by decide +kernel
theorem dX1_finishKeyed_17 : decode cX1_finishKeyed 17 = .ok (.aload_n 1, 1) := by decide +kernel
theorem dX1_finishKeyed_18 : decode cX1_finishKeyed 18 = .ok (.bipush 92, 2) := by decide +kernel
theorem dX1_finishKeyed_20 : decode cX1_finishKeyed 20 = .ok (.invokevirtual 35, 3) := by decide +kernel
theorem dX1_finishKeyed_23 : decode cX1_finishKeyed 23 = .ok (.aload_n 0, 1) := by decide +kernel
theorem dX1_finishKeyed_24 : decode cX1_finishKeyed 24 = .ok (.getfield 16, 3) := by decide +kernel
theorem dX1_finishKeyed_27 : decode cX1_finishKeyed 27 = .ok (.aload_n 0, 1) := by decide +kernel
theorem dX1_finishKeyed_28 : decode cX1_finishKeyed 28 = .ok (.getfield 27, 3) := by decide +kernel
theorem dX1_finishKeyed_31 : decode cX1_finishKeyed 31 = .ok (.bipush 32, 2) := by decide +kernel
theorem dX1_finishKeyed_33 : decode cX1_finishKeyed 33 = .ok (.invokevirtual 43, 3) := by decide +kernel
theorem dX1_finishKeyed_36 : decode cX1_finishKeyed 36 = .ok (.aload_n 0, 1) := by decide +kernel
theorem dX1_finishKeyed_37 : decode cX1_finishKeyed 37 = .ok (.aload_n 2, 1) := by decide +kernel
theorem dX1_finishKeyed_38 : decode cX1_finishKeyed 38 = .ok (.invokevirtual 39, 3) := by decide +kernel
theorem dX1_finishKeyed_41 : decode cX1_finishKeyed 41 = .ok (.return_, 1) := by decide +kernel
theorem dX1_finish_0 : decode cX1_finish 0 = .ok (.aload_n 0, 1) := by decide +kernel
theorem dX1_finish_1 : decode cX1_finish 1 = .ok (.invokevirtual 46, 3) := by decide +kernel
theorem dX1_finish_4 : decode cX1_finish 4 = .ok (.getstatic 49, 3) := by decide +kernel
theorem dX1_finish_7 : decode cX1_finish 7 = .ok (.iconst 0, 1) := by decide +kernel
theorem dX1_finish_8 : decode cX1_finish 8 = .ok (.aload_n 0, 1) := by decide +kernel
theorem dX1_finish_9 : decode cX1_finish 9 = .ok (.getfield 20, 3) := by decide +kernel
theorem dX1_finish_12 : decode cX1_finish 12 = .ok (.iconst 0, 1) := by decide +kernel
theorem dX1_finish_13 : decode cX1_finish 13 = .ok (.aload_n 0, 1) := by decide +kernel
theorem dX1_finish_14 : decode cX1_finish 14 = .ok (.getfield 20, 3) := by decide +kernel
theorem dX1_finish_17 : decode cX1_finish 17 = .ok (.arraylength, 1) := by decide +kernel
theorem dX1_finish_18 : decode cX1_finish 18 = .ok (.invokestatic 52, 3) := by decide +kernel
theorem dX1_finish_21 : decode cX1_finish 21 = .ok (.iconst 0, 1) := by decide +kernel
theorem dX1_finish_22 : decode cX1_finish 22 = .ok (.istore_n 2, 1) := by decide +kernel
theorem dX1_finish_23 : decode cX1_finish 23 = .ok (.iload_n 2, 1) := by decide +kernel
theorem dX1_finish_24 : decode cX1_finish 24 = .ok (.aload_n 0, 1) := by decide +kernel
theorem dX1_finish_25 : decode cX1_finish 25 = .ok (.getfield 16, 3) := by decide +kernel
theorem dX1_finish_28 : decode cX1_finish 28 = .ok (.getfield 31, 3) := by decide +kernel
theorem dX1_finish_31 : decode cX1_finish 31 = .ok (.if_icmp .ge 18, 3) := by decide +kernel
theorem dX1_finish_34 : decode cX1_finish 34 = .ok (.aload_n 0, 1) := by decide +kernel
theorem dX1_finish_35 : decode cX1_finish 35 = .ok (.iload_n 2, 1) := by decide +kernel
theorem dX1_finish_36 : decode cX1_finish 36 = .ok (.invokevirtual 58, 3) := by decide +kernel
theorem dX1_finish_39 : decode cX1_finish 39 = .ok (.aload_n 0, 1) := by decide +kernel
theorem dX1_finish_40 : decode cX1_finish 40 = .ok (.invokevirtual 61, 3) := by decide +kernel
theorem dX1_finish_43 : decode cX1_finish 43 = .ok (.iinc 2 64, 3) := by decide +kernel
theorem dX1_finish_46 : decode cX1_finish 46 = .ok (.goto (-23), 3) := by decide +kernel
theorem dX1_finish_49 : decode cX1_finish 49 = .ok (.iconst 0, 1) := by decide +kernel
theorem dX1_finish_50 : decode cX1_finish 50 = .ok (.istore_n 2, 1) := by decide +kernel
theorem dX1_finish_51 : decode cX1_finish 51 = .ok (.iload_n 2, 1) := by decide +kernel
theorem dX1_finish_52 : decode cX1_finish 52 = .ok (.aload_n 0, 1) := by decide +kernel
theorem dX1_finish_53 : decode cX1_finish 53 = .ok (.getfield 20, 3) := by decide +kernel
theorem dX1_finish_56 : decode cX1_finish 56 = .ok (.arraylength, 1) := by decide +kernel
theorem dX1_finish_57 : decode cX1_finish 57 = .ok (.if_icmp .ge 72, 3) := by decide +kernel
theorem dX1_finish_60 : decode cX1_finish 60 = .ok (.aload_n 1, 1) := by decide +kernel
theorem dX1_finish_61 : decode cX1_finish 61 = .ok (.iconst 4, 1) := by decide +kernel
theorem dX1_finish_62 : decode cX1_finish 62 = .ok (.iload_n 2, 1) := by decide +kernel
theorem dX1_finish_63 : decode cX1_finish 63 = .ok (.imul, 1) := by decide +kernel
theorem dX1_finish_64 : decode cX1_finish 64 = .ok (.aload_n 0, 1) := by decide +kernel
theorem dX1_finish_65 : decode cX1_finish 65 = .ok (.getfield 20, 3) := by decide +kernel
theorem dX1_finish_68 : decode cX1_finish 68 = .ok (.iload_n 2, 1) := by decide +kernel
theorem dX1_finish_69 : decode cX1_finish 69 = .ok (.iaload, 1) := by decide +kernel
theorem dX1_finish_70 : decode cX1_finish 70 = .ok (.bipush 24, 2) := by decide +kernel
theorem dX1_finish_72 : decode cX1_finish 72 = .ok (.iushr, 1) := by decide +kernel
theorem dX1_finish_73 : decode cX1_finish 73 = .ok (.i2b, 1) := by decide +kernel
theorem dX1_finish_74 : decode cX1_finish 74 = .ok (.bastore, 1) := by decide +kernel
theorem dX1_finish_75 : decode cX1_finish 75 = .ok (.aload_n 1, 1) := by decide +kernel
theorem dX1_finish_76 : decode cX1_finish 76 = .ok (.iconst 4, 1) := by decide +kernel
theorem dX1_finish_77 : decode cX1_finish 77 = .ok (.iload_n 2, 1) := by decide +kernel
theorem dX1_finish_78 : decode cX1_finish 78 = .ok (.imul, 1) := by decide +kernel
theorem dX1_finish_79 : decode cX1_finish 79 = .ok (.iconst 1, 1) := by decide +kernel
theorem dX1_finish_80 : decode cX1_finish 80 = .ok (.iadd, 1) := by decide +kernel
theorem dX1_finish_81 : decode cX1_finish 81 = .ok (.aload_n 0, 1) := by decide +kernel
theorem dX1_finish_82 : decode cX1_finish 82 = .ok (.getfield 20, 3) := by decide +kernel
theorem dX1_finish_85 : decode cX1_finish 85 = .ok (.iload_n 2, 1) := by decide +kernel
theorem dX1_finish_86 : decode cX1_finish 86 = .ok (.iaload, 1) := by decide +kernel
theorem dX1_finish_87 : decode cX1_finish 87 = .ok (.bipush 16, 2) := by decide +kernel
theorem dX1_finish_89 : decode cX1_finish 89 = .ok (.iushr, 1) := by decide +kernel
theorem dX1_finish_90 : decode cX1_finish 90 = .ok (.i2b, 1) := by decide +kernel
theorem dX1_finish_91 : decode cX1_finish 91 = .ok (.bastore, 1) := by decide +kernel
theorem dX1_finish_92 : decode cX1_finish 92 = .ok (.aload_n 1, 1) := by decide +kernel
theorem dX1_finish_93 : decode cX1_finish 93 = .ok (.iconst 4, 1) := by decide +kernel
theorem dX1_finish_94 : decode cX1_finish 94 = .ok (.iload_n 2, 1) := by decide +kernel
theorem dX1_finish_95 : decode cX1_finish 95 = .ok (.imul, 1) := by decide +kernel
theorem dX1_finish_96 : decode cX1_finish 96 = .ok (.iconst 2, 1) := by decide +kernel
theorem dX1_finish_97 : decode cX1_finish 97 = .ok (.iadd, 1) := by decide +kernel
theorem dX1_finish_98 : decode cX1_finish 98 = .ok (.aload_n 0, 1) := by decide +kernel
theorem dX1_finish_99 : decode cX1_finish 99 = .ok (.getfield 20, 3) := by decide +kernel
theorem dX1_finish_102 : decode cX1_finish 102 = .ok (.iload_n 2, 1) := by decide +kernel
theorem dX1_finish_103 : decode cX1_finish 103 = .ok (.iaload, 1) := by decide +kernel
theorem dX1_finish_104 : decode cX1_finish 104 = .ok (.bipush 8, 2) := by decide +kernel
theorem dX1_finish_106 : decode cX1_finish 106 = .ok (.iushr, 1) := by decide +kernel
theorem dX1_finish_107 : decode cX1_finish 107 = .ok (.i2b, 1) := by decide +kernel
theorem dX1_finish_108 : decode cX1_finish 108 = .ok (.bastore, 1) := by decide +kernel
theorem dX1_finish_109 : decode cX1_finish 109 = .ok (.aload_n 1, 1) := by decide +kernel
theorem dX1_finish_110 : decode cX1_finish 110 = .ok (.iconst 4, 1) := by decide +kernel
theorem dX1_finish_111 : decode cX1_finish 111 = .ok (.iload_n 2, 1) := by decide +kernel
theorem dX1_finish_112 : decode cX1_finish 112 = .ok (.imul, 1) := by decide +kernel
theorem dX1_finish_113 : decode cX1_finish 113 = .ok (.iconst 3, 1) := by decide +kernel
theorem dX1_finish_114 : decode cX1_finish 114 = .ok (.iadd, 1) := by decide +kernel
theorem dX1_finish_115 : decode cX1_finish 115 = .ok (.aload_n 0, 1) := by decide +kernel
theorem dX1_finish_116 : decode cX1_finish 116 = .ok (.getfield 20, 3) := by decide +kernel
theorem dX1_finish_119 : decode cX1_finish 119 = .ok (.iload_n 2, 1) := by decide +kernel
theorem dX1_finish_120 : decode cX1_finish 120 = .ok (.iaload, 1) := by decide +kernel
theorem dX1_finish_121 : decode cX1_finish 121 = .ok (.i2b, 1) := by decide +kernel
theorem dX1_finish_122 : decode cX1_finish 122 = .ok (.bastore, 1) := by decide +kernel
theorem dX1_finish_123 : decode cX1_finish 123 = .ok (.iinc 2 1, 3) := by decide +kernel
theorem dX1_finish_126 : decode cX1_finish 126 = .ok (.goto (-75), 3) := by decide +kernel
theorem dX1_finish_129 : decode cX1_finish 129 = .ok (.return_, 1) := by decide +kernel
theorem dX1_putPad_0 : decode cX1_putPad 0 = .ok (.iconst 0, 1) := by decide +kernel
theorem dX1_putPad_1 : decode cX1_putPad 1 = .ok (.istore_n 3, 1) := by decide +kernel
theorem dX1_putPad_2 : decode cX1_putPad 2 = .ok (.iload_n 3, 1) := by decide +kernel
theorem dX1_putPad_3 : decode cX1_putPad 3 = .ok (.bipush 64, 2) := by decide +kernel
theorem dX1_putPad_5 : decode cX1_putPad 5 = .ok (.if_icmp .ge 31, 3) := by decide +kernel
theorem dX1_putPad_8 : decode cX1_putPad 8 = .ok (.aload_n 0, 1) := by decide +kernel
theorem dX1_putPad_9 : decode cX1_putPad 9 = .ok (.getfield 16, 3) := by decide +kernel
theorem dX1_putPad_12 : decode cX1_putPad 12 = .ok (.iload_n 3, 1) := by decide +kernel
theorem dX1_putPad_13 : decode cX1_putPad 13 = .ok (.bipush 32, 2) := by decide +kernel
theorem dX1_putPad_15 : decode cX1_putPad 15 = .ok (.if_icmp .ge 9, 3) := by decide +kernel
theorem dX1_putPad_18 : decode cX1_putPad 18 = .ok (.aload_n 1, 1) := by decide +kernel
theorem dX1_putPad_19 : decode cX1_putPad 19 = .ok (.iload_n 3, 1) := by decide +kernel
theorem dX1_putPad_20 : decode cX1_putPad 20 = .ok (.baload, 1) := by decide +kernel
theorem dX1_putPad_21 : decode cX1_putPad 21 = .ok (.goto 4, 3) := by decide +kernel
theorem dX1_putPad_24 : decode cX1_putPad 24 = .ok (.iconst 0, 1) := by decide +kernel
theorem dX1_putPad_25 : decode cX1_putPad 25 = .ok (.iload_n 2, 1) := by decide +kernel
theorem dX1_putPad_26 : decode cX1_putPad 26 = .ok (.ixor, 1) := by decide +kernel
theorem dX1_putPad_27 : decode cX1_putPad 27 = .ok (.invokevirtual 64, 3) := by decide +kernel
theorem dX1_putPad_30 : decode cX1_putPad 30 = .ok (.iinc 3 1, 3) := by decide +kernel
theorem dX1_putPad_33 : decode cX1_putPad 33 = .ok (.goto (-31), 3) := by decide +kernel
theorem dX1_putPad_36 : decode cX1_putPad 36 = .ok (.return_, 1) := by decide +kernel
theorem dX1_padMessage_0 : decode cX1_padMessage 0 = .ok (.aload_n 0, 1) := by decide +kernel
theorem dX1_padMessage_1 : decode cX1_padMessage 1 = .ok (.getfield 16, 3) := by decide +kernel
theorem dX1_padMessage_4 : decode cX1_padMessage 4 = .ok (.getfield 31, 3) := by decide +kernel
theorem dX1_padMessage_7 : decode cX1_padMessage 7 = .ok (.bipush 8, 2) := by decide +kernel
theorem dX1_padMessage_9 : decode cX1_padMessage 9 = .ok (.imul, 1) := by decide +kernel
theorem dX1_padMessage_10 : decode cX1_padMessage 10 = .ok (.istore_n 1, 1) := by decide +kernel
theorem dX1_padMessage_11 : decode cX1_padMessage 11 = .ok (.aload_n 0, 1) := by decide +kernel
theorem dX1_padMessage_12 : decode cX1_padMessage 12 = .ok (.getfield 16, 3) := by decide +kernel
theorem dX1_padMessage_15 : decode cX1_padMessage 15 = .ok (.sipush 128, 3) := by decide +kernel
theorem dX1_padMessage_18 : decode cX1_padMessage 18 = .ok (.invokevirtual 64, 3) := by decide +kernel
theorem dX1_padMessage_21 : decode cX1_padMessage 21 = .ok (.bipush 56, 2) := by decide +kernel
theorem dX1_padMessage_23 : decode cX1_padMessage 23 = .ok (.aload_n 0, 1) := by decide +kernel
theorem dX1_padMessage_24 : decode cX1_padMessage 24 = .ok (.getfield 16, 3) := by decide +kernel
theorem dX1_padMessage_27 : decode cX1_padMessage 27 = .ok (.getfield 31, 3) := by decide +kernel
theorem dX1_padMessage_30 : decode cX1_padMessage 30 = .ok (.isub, 1) := by decide +kernel
theorem dX1_padMessage_31 : decode cX1_padMessage 31 = .ok (.bipush 64, 2) := by decide +kernel
theorem dX1_padMessage_33 : decode cX1_padMessage 33 = .ok (.invokestatic 67, 3) := by decide +kernel
theorem dX1_padMessage_36 : decode cX1_padMessage 36 = .ok (.bipush 6, 2) := by decide +kernel
theorem dX1_padMessage_38 : decode cX1_padMessage 38 = .ok (.iadd, 1) := by decide +kernel
theorem dX1_padMessage_39 : decode cX1_padMessage 39 = .ok (.istore_n 2, 1) := by decide +kernel
theorem dX1_padMessage_40 : decode cX1_padMessage 40 = .ok (.iconst 0, 1) := by decide +kernel
theorem dX1_padMessage_41 : decode cX1_padMessage 41 = .ok (.istore_n 3, 1) := by decide +kernel
theorem dX1_padMessage_42 : decode cX1_padMessage 42 = .ok (.iload_n 3, 1) := by decide +kernel
theorem dX1_padMessage_43 : decode cX1_padMessage 43 = .ok (.iload_n 2, 1) := by decide +kernel
theorem dX1_padMessage_44 : decode cX1_padMessage 44 = .ok (.if_icmp .ge 17, 3) := by decide +kernel
theorem dX1_padMessage_47 : decode cX1_padMessage 47 = .ok (.aload_n 0, 1) := by decide +kernel
theorem dX1_padMessage_48 : decode cX1_padMessage 48 = .ok (.getfield 16, 3) := by decide +kernel
theorem dX1_padMessage_51 : decode cX1_padMessage 51 = .ok (.iconst 0, 1) := by decide +kernel
theorem dX1_padMessage_52 : decode cX1_padMessage 52 = .ok (.invokevirtual 64, 3) := by decide +kernel
theorem dX1_padMessage_55 : decode cX1_padMessage 55 = .ok (.iinc 3 1, 3) := by decide +kernel
theorem dX1_padMessage_58 : decode cX1_padMessage 58 = .ok (.goto (-16), 3) := by decide +kernel
theorem dX1_padMessage_61 : decode cX1_padMessage 61 = .ok (.aload_n 0, 1) := by decide +kernel
theorem dX1_padMessage_62 : decode cX1_padMessage 62 = .ok (.getfield 16, 3) := by decide +kernel
theorem dX1_padMessage_65 : decode cX1_padMessage 65 = .ok (.iload_n 1, 1) := by decide +kernel
theorem dX1_padMessage_66 : decode cX1_padMessage 66 = .ok (.bipush 8, 2) := by decide +kernel
theorem dX1_padMessage_68 : decode cX1_padMessage 68 = .ok (.iushr, 1) := by decide +kernel
theorem dX1_padMessage_69 : decode cX1_padMessage 69 = .ok (.invokevirtual 64, 3) := by decide +kernel
theorem dX1_padMessage_72 : decode cX1_padMessage 72 = .ok (.aload_n 0, 1) := by decide +kernel
theorem dX1_padMessage_73 : decode cX1_padMessage 73 = .ok (.getfield 16, 3) := by decide +kernel
theorem dX1_padMessage_76 : decode cX1_padMessage 76 = .ok (.iload_n 1, 1) := by decide +kernel
theorem dX1_padMessage_77 : decode cX1_padMessage 77 = .ok (.invokevirtual 64, 3) := by decide +kernel
theorem dX1_padMessage_80 : decode cX1_padMessage 80 = .ok (.return_, 1) := by decide +kernel
theorem dX1_spreadBlock_0 : decode cX1_spreadBlock 0 = .ok (.iconst 0, 1) := by decide +kernel
theorem dX1_spreadBlock_1 : decode cX1_spreadBlock 1 = .ok (.istore_n 2, 1) := by decide +kernel
theorem dX1_spreadBlock_2 : decode cX1_spreadBlock 2 = .ok (.iload_n 2, 1) := by decide +kernel
theorem dX1_spreadBlock_3 : decode cX1_spreadBlock 3 = .ok (.bipush 16, 2) := by decide +kernel
theorem dX1_spreadBlock_5 : decode cX1_spreadBlock 5 = .ok (.if_icmp .ge 27, 3) := by decide +kernel
theorem dX1_spreadBlock_8 : decode cX1_spreadBlock 8 = .ok (.aload_n 0, 1) := by decide +kernel
theorem dX1_spreadBlock_9 : decode cX1_spreadBlock 9 = .ok (.getfield 24, 3) := by decide +kernel
theorem dX1_spreadBlock_12 : decode cX1_spreadBlock 12 = .ok (.iload_n 2, 1) := by decide +kernel
theorem dX1_spreadBlock_13 : decode cX1_spreadBlock 13 = .ok (.aload_n 0, 1) := by decide +kernel
theorem dX1_spreadBlock_14 : decode cX1_spreadBlock 14 = .ok (.getfield 16, 3) := by decide +kernel
theorem dX1_spreadBlock_17 : decode cX1_spreadBlock 17 = .ok (.iload_n 1, 1) := by decide +kernel
theorem dX1_spreadBlock_18 : decode cX1_spreadBlock 18 = .ok (.iconst 4, 1) := by decide +kernel
theorem dX1_spreadBlock_19 : decode cX1_spreadBlock 19 = .ok (.iload_n 2, 1) := by decide +kernel
theorem dX1_spreadBlock_20 : decode cX1_spreadBlock 20 = .ok (.imul, 1) := by decide +kernel
theorem dX1_spreadBlock_21 : decode cX1_spreadBlock 21 = .ok (.iadd, 1) := by decide +kernel
theorem dX1_spreadBlock_22 : decode cX1_spreadBlock 22 = .ok (.invokevirtual 73, 3) := by decide +kernel
theorem dX1_spreadBlock_25 : decode cX1_spreadBlock 25 = .ok (.iastore, 1) := by decide +kernel
theorem dX1_spreadBlock_26 : decode cX1_spreadBlock 26 = .ok (.iinc 2 1, 3) := by decide +kernel
theorem dX1_spreadBlock_29 : decode cX1_spreadBlock 29 = .ok (.goto (-27), 3) := by decide +kernel
theorem dX1_spreadBlock_32 : decode cX1_spreadBlock 32 = .ok (.bipush 16, 2) := by decide +kernel
theorem dX1_spreadBlock_34 : decode cX1_spreadBlock 34 = .ok (.istore_n 2, 1) := by decide +kernel
theorem dX1_spreadBlock_35 : decode cX1_spreadBlock 35 = .ok (.iload_n 2, 1) := by decide +kernel
theorem dX1_spreadBlock_36 : decode cX1_spreadBlock 36 = .ok (.bipush 64, 2) := by decide +kernel
theorem dX1_spreadBlock_38 : decode cX1_spreadBlock 38 = .ok (.if_icmp .ge 116, 3) := by decide +kernel
theorem dX1_spreadBlock_41 : decode cX1_spreadBlock 41 = .ok (.aload_n 0, 1) := by decide +kernel
theorem dX1_spreadBlock_42 : decode cX1_spreadBlock 42 = .ok (.getfield 24, 3) := by decide +kernel
theorem dX1_spreadBlock_45 : decode cX1_spreadBlock 45 = .ok (.iload_n 2, 1) := by decide +kernel
theorem dX1_spreadBlock_46 : decode cX1_spreadBlock 46 = .ok (.bipush 15, 2) := by decide +kernel
theorem dX1_spreadBlock_48 : decode cX1_spreadBlock 48 = .ok (.isub, 1) := by decide +kernel
theorem dX1_spreadBlock_49 : decode cX1_spreadBlock 49 = .ok (.iaload, 1) := by decide +kernel
theorem dX1_spreadBlock_50 : decode cX1_spreadBlock 50 = .ok (.istore_n 3, 1) := by decide +kernel
theorem dX1_spreadBlock_51 : decode cX1_spreadBlock 51 = .ok (.aload_n 0, 1) := by decide +kernel
theorem dX1_spreadBlock_52 : decode cX1_spreadBlock 52 = .ok (.getfield 24, 3) := by decide +kernel
theorem dX1_spreadBlock_55 : decode cX1_spreadBlock 55 = .ok (.iload_n 2, 1) := by decide +kernel
theorem dX1_spreadBlock_56 : decode cX1_spreadBlock 56 = .ok (.iconst 2, 1) := by decide +kernel
theorem dX1_spreadBlock_57 : decode cX1_spreadBlock 57 = .ok (.isub, 1) := by decide +kernel
theorem dX1_spreadBlock_58 : decode cX1_spreadBlock 58 = .ok (.iaload, 1) := by decide +kernel
theorem dX1_spreadBlock_59 : decode cX1_spreadBlock 59 = .ok (.istore 4, 2) := by decide +kernel
theorem dX1_spreadBlock_61 : decode cX1_spreadBlock 61 = .ok (.iload_n 3, 1) := by decide +kernel
theorem dX1_spreadBlock_62 : decode cX1_spreadBlock 62 = .ok (.bipush 7, 2) := by decide +kernel
theorem dX1_spreadBlock_64 : decode cX1_spreadBlock 64 = .ok (.iushr, 1) := by decide +kernel
theorem dX1_spreadBlock_65 : decode cX1_spreadBlock 65 = .ok (.iload_n 3, 1) := by decide +kernel
theorem dX1_spreadBlock_66 : decode cX1_spreadBlock 66 = .ok (.bipush 25, 2) := by decide +kernel
theorem dX1_spreadBlock_68 : decode cX1_spreadBlock 68 = .ok (.ishl, 1) := by decide +kernel
theorem dX1_spreadBlock_69 : decode cX1_spreadBlock 69 = .ok (.ior, 1) := by decide +kernel
theorem dX1_spreadBlock_70 : decode cX1_spreadBlock 70 = .ok (.iload_n 3, 1) := by decide +kernel
theorem dX1_spreadBlock_71 : decode cX1_spreadBlock 71 = .ok (.bipush 18, 2) := by decide +kernel
theorem dX1_spreadBlock_73 : decode cX1_spreadBlock 73 = .ok (.iushr, 1) := by decide +kernel
theorem dX1_spreadBlock_74 : decode cX1_spreadBlock 74 = .ok (.iload_n 3, 1) := by decide +kernel
theorem dX1_spreadBlock_75 : decode cX1_spreadBlock 75 = .ok (.bipush 14, 2) := by decide +kernel
theorem dX1_spreadBlock_77 : decode cX1_spreadBlock 77 = .ok (.ishl, 1) := by decide +kernel
theorem dX1_spreadBlock_78 : decode cX1_spreadBlock 78 = .ok (.ior, 1) := by decide +kernel
theorem dX1_spreadBlock_79 : decode cX1_spreadBlock 79 = .ok (.ixor, 1) := by decide +kernel
theorem dX1_spreadBlock_80 : decode cX1_spreadBlock 80 = .ok (.iload_n 3, 1) := by decide +kernel
theorem dX1_spreadBlock_81 : decode cX1_spreadBlock 81 = .ok (.iconst 3, 1) := by decide +kernel
theorem dX1_spreadBlock_82 : decode cX1_spreadBlock 82 = .ok (.iushr, 1) := by decide +kernel
theorem dX1_spreadBlock_83 : decode cX1_spreadBlock 83 = .ok (.ixor, 1) := by decide +kernel
theorem dX1_spreadBlock_84 : decode cX1_spreadBlock 84 = .ok (.istore 5, 2) := by decide +kernel
theorem dX1_spreadBlock_86 : decode cX1_spreadBlock 86 = .ok (.iload 4, 2) := by decide +kernel
theorem dX1_spreadBlock_88 : decode cX1_spreadBlock 88 = .ok (.bipush 17, 2) := by decide +kernel
theorem dX1_spreadBlock_90 : decode cX1_spreadBlock 90 = .ok (.iushr, 1) := by decide +kernel
theorem dX1_spreadBlock_91 : decode cX1_spreadBlock 91 = .ok (.iload 4, 2) := by decide +kernel
theorem dX1_spreadBlock_93 : decode cX1_spreadBlock 93 = .ok (.bipush 15, 2) := by decide +kernel
theorem dX1_spreadBlock_95 : decode cX1_spreadBlock 95 = .ok (.ishl, 1) := by decide +kernel
theorem dX1_spreadBlock_96 : decode cX1_spreadBlock 96 = .ok (.ior, 1) := by decide +kernel
theorem dX1_spreadBlock_97 : decode cX1_spreadBlock 97 = .ok (.iload 4, 2) := by decide +kernel
theorem dX1_spreadBlock_99 : decode cX1_spreadBlock 99 = .ok (.bipush 19, 2) := by decide +kernel
theorem dX1_spreadBlock_101 : decode cX1_spreadBlock 101 = .ok (.iushr, 1) := by decide +kernel
theorem dX1_spreadBlock_102 : decode cX1_spreadBlock 102 = .ok (.iload 4, 2) := by decide +kernel
theorem dX1_spreadBlock_104 : decode cX1_spreadBlock 104 = .ok (.bipush 13, 2) := by decide +kernel
theorem dX1_spreadBlock_106 : decode cX1_spreadBlock 106 = .ok (.ishl, 1) := by decide +kernel
theorem dX1_spreadBlock_107 : decode cX1_spreadBlock 107 = .ok (.ior, 1) := by decide +kernel
theorem dX1_spreadBlock_108 : decode cX1_spreadBlock 108 = .ok (.ixor, 1) := by decide +kernel
theorem dX1_spreadBlock_109 : decode cX1_spreadBlock 109 = .ok (.iload 4, 2) := by decide +kernel
theorem dX1_spreadBlock_111 : decode cX1_spreadBlock 111 = .ok (.bipush 10, 2) := by decide +kernel
theorem dX1_spreadBlock_113 : decode cX1_spreadBlock 113 = .ok (.iushr, 1) := by decide +kernel
theorem dX1_spreadBlock_114 : decode cX1_spreadBlock 114 = .ok (.ixor, 1) := by decide +kernel
theorem dX1_spreadBlock_115 : decode cX1_spreadBlock 115 = .ok (.istore 6, 2) := by decide +kernel
theorem dX1_spreadBlock_117 : decode cX1_spreadBlock 117 = .ok (.aload_n 0, 1) := by decide +kernel
theorem dX1_spreadBlock_118 : decode cX1_spreadBlock 118 = .ok (.getfield 24, 3) := by decide +kernel
theorem dX1_spreadBlock_121 : decode cX1_spreadBlock 121 = .ok (.iload_n 2, 1) := by decide +kernel
theorem dX1_spreadBlock_122 : decode cX1_spreadBlock 122 = .ok (.aload_n 0, 1) := by decide +kernel
theorem dX1_spreadBlock_123 : decode cX1_spreadBlock 123 = .ok (.getfield 24, 3) := by decide +kernel
theorem dX1_spreadBlock_126 : decode cX1_spreadBlock 126 = .ok (.iload_n 2, 1) := by decide +kernel
theorem dX1_spreadBlock_127 : decode cX1_spreadBlock 127 = .ok (.bipush 16, 2) := by decide +kernel
theorem dX1_spreadBlock_129 : decode cX1_spreadBlock 129 = .ok (.isub, 1) := by decide +kernel
theorem dX1_spreadBlock_130 : decode cX1_spreadBlock 130 = .ok (.iaload, 1) := by decide +kernel
theorem dX1_spreadBlock_131 : decode cX1_spreadBlock 131 = .ok (.iload 5, 2) := by decide +kernel
theorem dX1_spreadBlock_133 : decode cX1_spreadBlock 133 = .ok (.iadd, 1) := by decide +kernel
theorem dX1_spreadBlock_134 : decode cX1_spreadBlock 134 = .ok (.aload_n 0, 1) := by decide +kernel
theorem dX1_spreadBlock_135 : decode cX1_spreadBlock 135 = .ok (.getfield 24, 3) := by decide +kernel
theorem dX1_spreadBlock_138 : decode cX1_spreadBlock 138 = .ok (.iload_n 2, 1) := by decide +kernel
theorem dX1_spreadBlock_139 : decode cX1_spreadBlock 139 = .ok (.bipush 7, 2) := by decide +kernel
theorem dX1_spreadBlock_141 : decode cX1_spreadBlock 141 = .ok (.isub, 1) := by decide +kernel
theorem dX1_spreadBlock_142 : decode cX1_spreadBlock 142 = .ok (.iaload, 1) := by decide +kernel
theorem dX1_spreadBlock_143 : decode cX1_spreadBlock 143 = .ok (.iadd, 1) := by decide +kernel
theorem dX1_spreadBlock_144 : decode cX1_spreadBlock 144 = .ok (.iload 6, 2) := by decide +kernel
theorem dX1_spreadBlock_146 : decode cX1_spreadBlock 146 = .ok (.iadd, 1) := by decide +kernel
theorem dX1_spreadBlock_147 : decode cX1_spreadBlock 147 = .ok (.iastore, 1) := by decide +kernel
theorem dX1_spreadBlock_148 : decode cX1_spreadBlock 148 = .ok (.iinc 2 1, 3) := by decide +kernel
theorem dX1_spreadBlock_151 : decode cX1_spreadBlock 151 = .ok (.goto (-116), 3) := by decide +kernel
theorem dX1_spreadBlock_154 : decode cX1_spreadBlock 154 = .ok (.return_, 1) := by decide +kernel
theorem dX1_mixBlock_0 : decode cX1_mixBlock 0 = .ok (.aload_n 0, 1) := by decide +kernel
theorem dX1_mixBlock_1 : decode cX1_mixBlock 1 = .ok (.getfield 20, 3) := by decide +kernel
theorem dX1_mixBlock_4 : decode cX1_mixBlock 4 = .ok (.iconst 0, 1) := by decide +kernel
theorem dX1_mixBlock_5 : decode cX1_mixBlock 5 = .ok (.iaload, 1) := by decide +kernel
theorem dX1_mixBlock_6 : decode cX1_mixBlock 6 = .ok (.istore_n 1, 1) := by decide +kernel
theorem dX1_mixBlock_7 : decode cX1_mixBlock 7 = .ok (.aload_n 0, 1) := by decide +kernel
theorem dX1_mixBlock_8 : decode cX1_mixBlock 8 = .ok (.getfield 20, 3) := by decide +kernel
theorem dX1_mixBlock_11 : decode cX1_mixBlock 11 = .ok (.iconst 1, 1) := by decide +kernel
theorem dX1_mixBlock_12 : decode cX1_mixBlock 12 = .ok (.iaload, 1) := by decide +kernel
theorem dX1_mixBlock_13 : decode cX1_mixBlock 13 = .ok (.istore_n 2, 1) := by decide +kernel
theorem dX1_mixBlock_14 : decode cX1_mixBlock 14 = .ok (.aload_n 0, 1) := by decide +kernel
theorem dX1_mixBlock_15 : decode cX1_mixBlock 15 = .ok (.getfield 20, 3) := by decide +kernel
theorem dX1_mixBlock_18 : decode cX1_mixBlock 18 = .ok (.iconst 2, 1) := by decide +kernel
theorem dX1_mixBlock_19 : decode cX1_mixBlock 19 = .ok (.iaload, 1) := by decide +kernel
theorem dX1_mixBlock_20 : decode cX1_mixBlock 20 = .ok (.istore_n 3, 1) := by decide +kernel
theorem dX1_mixBlock_21 : decode cX1_mixBlock 21 = .ok (.aload_n 0, 1) := by decide +kernel
theorem dX1_mixBlock_22 : decode cX1_mixBlock 22 = .ok (.getfield 20, 3) := by decide +kernel
theorem dX1_mixBlock_25 : decode cX1_mixBlock 25 = .ok (.iconst 3, 1) := by decide +kernel
theorem dX1_mixBlock_26 : decode cX1_mixBlock 26 = .ok (.iaload, 1) := by decide +kernel
theorem dX1_mixBlock_27 : decode cX1_mixBlock 27 = .ok (.istore 4, 2) := by decide +kernel
theorem dX1_mixBlock_29 : decode cX1_mixBlock 29 = .ok (.aload_n 0, 1) := by decide +kernel
theorem dX1_mixBlock_30 : decode cX1_mixBlock 30 = .ok (.getfield 20, 3) := by decide +kernel
theorem dX1_mixBlock_33 : decode cX1_mixBlock 33 = .ok (.iconst 4, 1) := by decide +kernel
theorem dX1_mixBlock_34 : decode cX1_mixBlock 34 = .ok (.iaload, 1) := by decide +kernel
theorem dX1_mixBlock_35 : decode cX1_mixBlock 35 = .ok (.istore 5, 2) := by decide +kernel
theorem dX1_mixBlock_37 : decode cX1_mixBlock 37 = .ok (.aload_n 0, 1) := by decide +kernel
theorem dX1_mixBlock_38 : decode cX1_mixBlock 38 = .ok (.getfield 20, 3) := by decide +kernel
theorem dX1_mixBlock_41 : decode cX1_mixBlock 41 = .ok (.iconst 5, 1) := by decide +kernel
theorem dX1_mixBlock_42 : decode cX1_mixBlock 42 = .ok (.iaload, 1) := by decide +kernel
theorem dX1_mixBlock_43 : decode cX1_mixBlock 43 = .ok (.istore 6, 2) := by decide +kernel
theorem dX1_mixBlock_45 : decode cX1_mixBlock 45 = .ok (.aload_n 0, 1) := by decide +kernel
theorem dX1_mixBlock_46 : decode cX1_mixBlock 46 = .ok (.getfield 20, 3) := by decide +kernel
theorem dX1_mixBlock_49 : decode cX1_mixBlock 49 = .ok (.bipush 6, 2) := by decide +kernel
theorem dX1_mixBlock_51 : decode cX1_mixBlock 51 = .ok (.iaload, 1) := by decide +kernel
theorem dX1_mixBlock_52 : decode cX1_mixBlock 52 = .ok (.istore 7, 2) := by decide +kernel
theorem dX1_mixBlock_54 : decode cX1_mixBlock 54 = .ok (.aload_n 0, 1) := by decide +kernel
theorem dX1_mixBlock_55 : decode cX1_mixBlock 55 = .ok (.getfield 20, 3) := by decide +kernel
theorem dX1_mixBlock_58 : decode cX1_mixBlock 58 = .ok (.bipush 7, 2) := by decide +kernel
theorem dX1_mixBlock_60 : decode cX1_mixBlock 60 = .ok (.iaload, 1) := by decide +kernel
theorem dX1_mixBlock_61 : decode cX1_mixBlock 61 = .ok (.istore 8, 2) := by decide +kernel
theorem dX1_mixBlock_63 : decode cX1_mixBlock 63 = .ok (.iconst 0, 1) := by decide +kernel
theorem dX1_mixBlock_64 : decode cX1_mixBlock 64 = .ok (.istore 9, 2) := by decide +kernel
theorem dX1_mixBlock_66 : decode cX1_mixBlock 66 = .ok (.iload 9, 2) := by decide +kernel
theorem dX1_mixBlock_68 : decode cX1_mixBlock 68 = .ok (.bipush 64, 2) := by decide +kernel
theorem dX1_mixBlock_70 : decode cX1_mixBlock 70 = .ok (.if_icmp .ge 160, 3) := by decide +kernel
theorem dX1_mixBlock_73 : decode cX1_mixBlock 73 = .ok (.iload 5, 2) := by decide +kernel
theorem dX1_mixBlock_75 : decode cX1_mixBlock 75 = .ok (.bipush 6, 2) := by decide +kernel
theorem dX1_mixBlock_77 : decode cX1_mixBlock 77 = .ok (.iushr, 1) := by decide +kernel
theorem dX1_mixBlock_78 : decode cX1_mixBlock 78 = .ok (.iload 5, 2) := by decide +kernel
theorem dX1_mixBlock_80 : decode cX1_mixBlock 80 = .ok (.bipush 26, 2) := by decide +kernel
theorem dX1_mixBlock_82 : decode cX1_mixBlock 82 = .ok (.ishl, 1) := by decide +kernel
theorem dX1_mixBlock_83 : decode cX1_mixBlock 83 = .ok (.ior, 1) := by decide +kernel
theorem dX1_mixBlock_84 : decode cX1_mixBlock 84 = .ok (.iload 5, 2) := by decide +kernel
theorem dX1_mixBlock_86 : decode cX1_mixBlock 86 = .ok (.bipush 11, 2) := by decide +kernel
theorem dX1_mixBlock_88 : decode cX1_mixBlock 88 = .ok (.iushr, 1) := by decide +kernel
theorem dX1_mixBlock_89 : decode cX1_mixBlock 89 = .ok (.iload 5, 2) := by decide +kernel
theorem dX1_mixBlock_91 : decode cX1_mixBlock 91 = .ok (.bipush 21, 2) := by decide +kernel
theorem dX1_mixBlock_93 : decode cX1_mixBlock 93 = .ok (.ishl, 1) := by decide +kernel
theorem dX1_mixBlock_94 : decode cX1_mixBlock 94 = .ok (.ior, 1) := by decide +kernel
theorem dX1_mixBlock_95 : decode cX1_mixBlock 95 = .ok (.ixor, 1) := by decide +kernel
theorem dX1_mixBlock_96 : decode cX1_mixBlock 96 = .ok (.iload 5, 2) := by decide +kernel
theorem dX1_mixBlock_98 : decode cX1_mixBlock 98 = .ok (.bipush 25, 2) := by decide +kernel
theorem dX1_mixBlock_100 : decode cX1_mixBlock 100 = .ok (.iushr, 1) := by decide +kernel
theorem dX1_mixBlock_101 : decode cX1_mixBlock 101 = .ok (.iload 5, 2) := by decide +kernel
theorem dX1_mixBlock_103 : decode cX1_mixBlock 103 = .ok (.bipush 7, 2) := by decide +kernel
theorem dX1_mixBlock_105 : decode cX1_mixBlock 105 = .ok (.ishl, 1) := by decide +kernel
theorem dX1_mixBlock_106 : decode cX1_mixBlock 106 = .ok (.ior, 1) := by decide +kernel
theorem dX1_mixBlock_107 : decode cX1_mixBlock 107 = .ok (.ixor, 1) := by decide +kernel
theorem dX1_mixBlock_108 : decode cX1_mixBlock 108 = .ok (.istore 10, 2) := by decide +kernel
theorem dX1_mixBlock_110 : decode cX1_mixBlock 110 = .ok (.iload 8, 2) := by decide +kernel
theorem dX1_mixBlock_112 : decode cX1_mixBlock 112 = .ok (.iload 10, 2) := by decide +kernel
theorem dX1_mixBlock_114 : decode cX1_mixBlock 114 = .ok (.iadd, 1) := by decide +kernel
theorem dX1_mixBlock_115 : decode cX1_mixBlock 115 = .ok (.iload 5, 2) := by decide +kernel
theorem dX1_mixBlock_117 : decode cX1_mixBlock 117 = .ok (.iload 6, 2) := by decide +kernel
theorem dX1_mixBlock_119 : decode cX1_mixBlock 119 = .ok (.iand, 1) := by decide +kernel
theorem dX1_mixBlock_120 : decode cX1_mixBlock 120 = .ok (.iload 5, 2) := by decide +kernel
theorem dX1_mixBlock_122 : decode cX1_mixBlock 122 = .ok (.iconst (-1), 1) := by decide +kernel
theorem dX1_mixBlock_123 : decode cX1_mixBlock 123 = .ok (.ixor, 1) := by decide +kernel
theorem dX1_mixBlock_124 : decode cX1_mixBlock 124 = .ok (.iload 7, 2) := by decide +kernel
theorem dX1_mixBlock_126 : decode cX1_mixBlock 126 = .ok (.iand, 1) := by decide +kernel
theorem dX1_mixBlock_127 : decode cX1_mixBlock 127 = .ok (.ixor, 1) := by decide +kernel
theorem dX1_mixBlock_128 : decode cX1_mixBlock 128 = .ok (.iadd, 1) := by decide +kernel
theorem dX1_mixBlock_129 : decode cX1_mixBlock 129 = .ok (.getstatic 77, 3) := by decide +kernel
theorem dX1_mixBlock_132 : decode cX1_mixBlock 132 = .ok (.iload 9, 2) := by decide +kernel
theorem dX1_mixBlock_134 : decode cX1_mixBlock 134 = .ok (.iaload, 1) := by decide +kernel
theorem dX1_mixBlock_135 : decode cX1_mixBlock 135 = .ok (.iadd, 1) := by decide +kernel
theorem dX1_mixBlock_136 : decode cX1_mixBlock 136 = .ok (.aload_n 0, 1) := by decide +kernel
theorem dX1_mixBlock_137 : decode cX1_mixBlock 137 = .ok (.getfield 24, 3) := by decide +kernel
theorem dX1_mixBlock_140 : decode cX1_mixBlock 140 = .ok (.iload 9, 2) := by decide +kernel
theorem dX1_mixBlock_142 : decode cX1_mixBlock 142 = .ok (.iaload, 1) := by decide +kernel
theorem dX1_mixBlock_143 : decode cX1_mixBlock 143 = .ok (.iadd, 1) := by decide +kernel
theorem dX1_mixBlock_144 : decode cX1_mixBlock 144 = .ok (.istore 11, 2) := by decide +kernel
theorem dX1_mixBlock_146 : decode cX1_mixBlock 146 = .ok (.iload_n 1, 1) := by decide +kernel
theorem dX1_mixBlock_147 : decode cX1_mixBlock 147 = .ok (.iconst 2, 1) := by decide +kernel
theorem dX1_mixBlock_148 : decode cX1_mixBlock 148 = .ok (.iushr, 1) := by decide +kernel
theorem dX1_mixBlock_149 : decode cX1_mixBlock 149 = .ok (.iload_n 1, 1) := by decide +kernel
theorem dX1_mixBlock_150 : decode cX1_mixBlock 150 = .ok (.bipush 30, 2) := by decide +kernel
theorem dX1_mixBlock_152 : decode cX1_mixBlock 152 = .ok (.ishl, 1) := by decide +kernel
theorem dX1_mixBlock_153 : decode cX1_mixBlock 153 = .ok (.ior, 1) := by decide +kernel
theorem dX1_mixBlock_154 : decode cX1_mixBlock 154 = .ok (.iload_n 1, 1) := by decide +kernel
theorem dX1_mixBlock_155 : decode cX1_mixBlock 155 = .ok (.bipush 13, 2) := by decide +kernel
theorem dX1_mixBlock_157 : decode cX1_mixBlock 157 = .ok (.iushr, 1) := by decide +kernel
theorem dX1_mixBlock_158 : decode cX1_mixBlock 158 = .ok (.iload_n 1, 1) := by decide +kernel
theorem dX1_mixBlock_159 : decode cX1_mixBlock 159 = .ok (.bipush 19, 2) := by decide +kernel
theorem dX1_mixBlock_161 : decode cX1_mixBlock 161 = .ok (.ishl, 1) := by decide +kernel
theorem dX1_mixBlock_162 : decode cX1_mixBlock 162 = .ok (.ior, 1) := by decide +kernel
theorem dX1_mixBlock_163 : decode cX1_mixBlock 163 = .ok (.ixor, 1) := by decide +kernel
theorem dX1_mixBlock_164 : decode cX1_mixBlock 164 = .ok (.iload_n 1, 1) := by decide +kernel
theorem dX1_mixBlock_165 : decode cX1_mixBlock 165 = .ok (.bipush 22, 2) := by decide +kernel
theorem dX1_mixBlock_167 : decode cX1_mixBlock 167 = .ok (.iushr, 1) := by decide +kernel
theorem dX1_mixBlock_168 : decode cX1_mixBlock 168 = .ok (.iload_n 1, 1) := by decide +kernel
theorem dX1_mixBlock_169 : decode cX1_mixBlock 169 = .ok (.bipush 10, 2) := by decide +kernel
theorem dX1_mixBlock_171 : decode cX1_mixBlock 171 = .ok (.ishl, 1) := by decide +kernel
theorem dX1_mixBlock_172 : decode cX1_mixBlock 172 = .ok (.ior, 1) := by decide +kernel
theorem dX1_mixBlock_173 : decode cX1_mixBlock 173 = .ok (.ixor, 1) := by decide +kernel
theorem dX1_mixBlock_174 : decode cX1_mixBlock 174 = .ok (.istore 12, 2) := by decide +kernel
theorem dX1_mixBlock_176 : decode cX1_mixBlock 176 = .ok (.iload 12, 2) := by decide +kernel
theorem dX1_mixBlock_178 : decode cX1_mixBlock 178 = .ok (.iload_n 1, 1) := by decide +kernel
theorem dX1_mixBlock_179 : decode cX1_mixBlock 179 = .ok (.iload_n 2, 1) := by decide +kernel
theorem dX1_mixBlock_180 : decode cX1_mixBlock 180 = .ok (.iand, 1) := by decide +kernel
theorem dX1_mixBlock_181 : decode cX1_mixBlock 181 = .ok (.iload_n 1, 1) := by decide +kernel
theorem dX1_mixBlock_182 : decode cX1_mixBlock 182 = .ok (.iload_n 3, 1) := by decide +kernel
theorem dX1_mixBlock_183 : decode cX1_mixBlock 183 = .ok (.iand, 1) := by decide +kernel
theorem dX1_mixBlock_184 : decode cX1_mixBlock 184 = .ok (.ixor, 1) := by decide +kernel
theorem dX1_mixBlock_185 : decode cX1_mixBlock 185 = .ok (.iload_n 2, 1) := by decide +kernel
theorem dX1_mixBlock_186 : decode cX1_mixBlock 186 = .ok (.iload_n 3, 1) := by decide +kernel
theorem dX1_mixBlock_187 : decode cX1_mixBlock 187 = .ok (.iand, 1) := by decide +kernel
theorem dX1_mixBlock_188 : decode cX1_mixBlock 188 = .ok (.ixor, 1) := by decide +kernel
theorem dX1_mixBlock_189 : decode cX1_mixBlock 189 = .ok (.iadd, 1) := by decide +kernel
theorem dX1_mixBlock_190 : decode cX1_mixBlock 190 = .ok (.istore 13, 2) := by decide +kernel
theorem dX1_mixBlock_192 : decode cX1_mixBlock 192 = .ok (.iload 7, 2) := by decide +kernel
theorem dX1_mixBlock_194 : decode cX1_mixBlock 194 = .ok (.istore 8, 2) := by decide +kernel
theorem dX1_mixBlock_196 : decode cX1_mixBlock 196 = .ok (.iload 6, 2) := by decide +kernel
theorem dX1_mixBlock_198 : decode cX1_mixBlock 198 = .ok (.istore 7, 2) := by decide +kernel
theorem dX1_mixBlock_200 : decode cX1_mixBlock 200 = .ok (.iload 5, 2) := by decide +kernel
theorem dX1_mixBlock_202 : decode cX1_mixBlock 202 = .ok (.istore 6, 2) := by decide +kernel
theorem dX1_mixBlock_204 : decode cX1_mixBlock 204 = .ok (.iload 4, 2) := by decide +kernel
theorem dX1_mixBlock_206 : decode cX1_mixBlock 206 = .ok (.iload 11, 2) := by decide +kernel
theorem dX1_mixBlock_208 : decode cX1_mixBlock 208 = .ok (.iadd, 1) := by decide +kernel
theorem dX1_mixBlock_209 : decode cX1_mixBlock 209 = .ok (.istore 5, 2) := by decide +kernel
theorem dX1_mixBlock_211 : decode cX1_mixBlock 211 = .ok (.iload_n 3, 1) := by decide +kernel
theorem dX1_mixBlock_212 : decode cX1_mixBlock 212 = .ok (.istore 4, 2) := by decide +kernel
theorem dX1_mixBlock_214 : decode cX1_mixBlock 214 = .ok (.iload_n 2, 1) := by decide +kernel
theorem dX1_mixBlock_215 : decode cX1_mixBlock 215 = .ok (.istore_n 3, 1) := by decide +kernel
theorem dX1_mixBlock_216 : decode cX1_mixBlock 216 = .ok (.iload_n 1, 1) := by decide +kernel
theorem dX1_mixBlock_217 : decode cX1_mixBlock 217 = .ok (.istore_n 2, 1) := by decide +kernel
theorem dX1_mixBlock_218 : decode cX1_mixBlock 218 = .ok (.iload 11, 2) := by decide +kernel
theorem dX1_mixBlock_220 : decode cX1_mixBlock 220 = .ok (.iload 13, 2) := by decide +kernel
theorem dX1_mixBlock_222 : decode cX1_mixBlock 222 = .ok (.iadd, 1) := by decide +kernel
theorem dX1_mixBlock_223 : decode cX1_mixBlock 223 = .ok (.istore_n 1, 1) := by decide +kernel
theorem dX1_mixBlock_224 : decode cX1_mixBlock 224 = .ok (.iinc 9 1, 3) := by decide +kernel
theorem dX1_mixBlock_227 : decode cX1_mixBlock 227 = .ok (.goto (-161), 3) := by decide +kernel
theorem dX1_mixBlock_230 : decode cX1_mixBlock 230 = .ok (.aload_n 0, 1) := by decide +kernel
theorem dX1_mixBlock_231 : decode cX1_mixBlock 231 = .ok (.getfield 20, 3) := by decide +kernel
theorem dX1_mixBlock_234 : decode cX1_mixBlock 234 = .ok (.iconst 0, 1) := by decide +kernel
theorem dX1_mixBlock_235 : decode cX1_mixBlock 235 = .ok (.dup2, 1) := by decide +kernel
theorem dX1_mixBlock_236 : decode cX1_mixBlock 236 = .ok (.iaload, 1) := by decide +kernel
theorem dX1_mixBlock_237 : decode cX1_mixBlock 237 = .ok (.iload_n 1, 1) := by decide +kernel
theorem dX1_mixBlock_238 : decode cX1_mixBlock 238 = .ok (.iadd, 1) := by decide +kernel
theorem dX1_mixBlock_239 : decode cX1_mixBlock 239 = .ok (.iastore, 1) := by decide +kernel
theorem dX1_mixBlock_240 : decode cX1_mixBlock 240 = .ok (.aload_n 0, 1) := by decide +kernel
theorem dX1_mixBlock_241 : decode cX1_mixBlock 241 = .ok (.getfield 20, 3) := by decide +kernel
theorem dX1_mixBlock_244 : decode cX1_mixBlock 244 = .ok (.iconst 1, 1) := by decide +kernel
theorem dX1_mixBlock_245 : decode cX1_mixBlock 245 = .ok (.dup2, 1) := by decide +kernel
theorem dX1_mixBlock_246 : decode cX1_mixBlock 246 = .ok (.iaload, 1) := by decide +kernel
theorem dX1_mixBlock_247 : decode cX1_mixBlock 247 = .ok (.iload_n 2, 1) := by decide +kernel
theorem dX1_mixBlock_248 : decode cX1_mixBlock 248 = .ok (.iadd, 1) := by decide +kernel
theorem dX1_mixBlock_249 : decode cX1_mixBlock 249 = .ok (.iastore, 1) := by decide +kernel
theorem dX1_mixBlock_250 : decode cX1_mixBlock 250 = .ok (.aload_n 0, 1) := by decide +kernel
theorem dX1_mixBlock_251 : decode cX1_mixBlock 251 = .ok (.getfield 20, 3) := by decide +kernel
theorem dX1_mixBlock_254 : decode cX1_mixBlock 254 = .ok (.iconst 2, 1) := by decide +kernel
theorem dX1_mixBlock_255 : decode cX1_mixBlock 255 = .ok (.dup2, 1) := by decide +kernel
theorem dX1_mixBlock_256 : decode cX1_mixBlock 256 = .ok (.iaload, 1) := by decide +kernel
theorem dX1_mixBlock_257 : decode cX1_mixBlock 257 = .ok (.iload_n 3, 1) := by decide +kernel
theorem dX1_mixBlock_258 : decode cX1_mixBlock 258 = .ok (.iadd, 1) := by decide +kernel
theorem dX1_mixBlock_259 : decode cX1_mixBlock 259 = .ok (.iastore, 1) := by decide +kernel
theorem dX1_mixBlock_260 : decode cX1_mixBlock 260 = .ok (.aload_n 0, 1) := by decide +kernel
theorem dX1_mixBlock_261 : decode cX1_mixBlock 261 = .ok (.getfield 20, 3) := by decide +kernel
theorem dX1_mixBlock_264 : decode cX1_mixBlock 264 = .ok (.iconst 3, 1) := by decide +kernel
theorem dX1_mixBlock_265 : decode cX1_mixBlock 265 = .ok (.dup2, 1) := by decide +kernel
theorem dX1_mixBlock_266 : decode cX1_mixBlock 266 = .ok (.iaload, 1) := by decide +kernel
theorem dX1_mixBlock_267 : decode cX1_mixBlock 267 = .ok (.iload 4, 2) := by decide +kernel
theorem dX1_mixBlock_269 : decode cX1_mixBlock 269 = .ok (.iadd, 1) := by decide +kernel
theorem dX1_mixBlock_270 : decode cX1_mixBlock 270 = .ok (.iastore, 1) := by decide +kernel
theorem dX1_mixBlock_271 : decode cX1_mixBlock 271 = .ok (.aload_n 0, 1) := by decide +kernel
theorem dX1_mixBlock_272 : decode cX1_mixBlock 272 = .ok (.getfield 20, 3) := by decide +kernel
theorem dX1_mixBlock_275 : decode cX1_mixBlock 275 = .ok (.iconst 4, 1) := by decide +kernel
theorem dX1_mixBlock_276 : decode cX1_mixBlock 276 = .ok (.dup2, 1) := by decide +kernel
theorem dX1_mixBlock_277 : decode cX1_mixBlock 277 = .ok (.iaload, 1) := by decide +kernel
theorem dX1_mixBlock_278 : decode cX1_mixBlock 278 = .ok (.iload 5, 2) := by decide +kernel
theorem dX1_mixBlock_280 : decode cX1_mixBlock 280 = .ok (.iadd, 1) := by decide +kernel
theorem dX1_mixBlock_281 : decode cX1_mixBlock 281 = .ok (.iastore, 1) := by decide +kernel
theorem dX1_mixBlock_282 : decode cX1_mixBlock 282 = .ok (.aload_n 0, 1) := by decide +kernel
theorem dX1_mixBlock_283 : decode cX1_mixBlock 283 = .ok (.getfield 20, 3) := by decide +kernel
theorem dX1_mixBlock_286 : decode cX1_mixBlock 286 = .ok (.iconst 5, 1) := by decide +kernel
theorem dX1_mixBlock_287 : decode cX1_mixBlock 287 = .ok (.dup2, 1) := by decide +kernel
theorem dX1_mixBlock_288 : decode cX1_mixBlock 288 = .ok (.iaload, 1) := by decide +kernel
theorem dX1_mixBlock_289 : decode cX1_mixBlock 289 = .ok (.iload 6, 2) := by decide +kernel
theorem dX1_mixBlock_291 : decode cX1_mixBlock 291 = .ok (.iadd, 1) := by decide +kernel
theorem dX1_mixBlock_292 : decode cX1_mixBlock 292 = .ok (.iastore, 1) := by decide +kernel
theorem dX1_mixBlock_293 : decode cX1_mixBlock 293 = .ok (.aload_n 0, 1) := by decide +kernel
theorem dX1_mixBlock_294 : decode cX1_mixBlock 294 = .ok (.getfield 20, 3) := by decide +kernel
theorem dX1_mixBlock_297 : decode cX1_mixBlock 297 = .ok (.bipush 6, 2) := by decide +kernel
theorem dX1_mixBlock_299 : decode cX1_mixBlock 299 = .ok (.dup2, 1) := by decide +kernel
theorem dX1_mixBlock_300 : decode cX1_mixBlock 300 = .ok (.iaload, 1) := by decide +kernel
theorem dX1_mixBlock_301 : decode cX1_mixBlock 301 = .ok (.iload 7, 2) := by decide +kernel
theorem dX1_mixBlock_303 : decode cX1_mixBlock 303 = .ok (.iadd, 1) := by decide +kernel
theorem dX1_mixBlock_304 : decode cX1_mixBlock 304 = .ok (.iastore, 1) := by decide +kernel
theorem dX1_mixBlock_305 : decode cX1_mixBlock 305 = .ok (.aload_n 0, 1) := by decide +kernel
theorem dX1_mixBlock_306 : decode cX1_mixBlock 306 = .ok (.getfield 20, 3) := by decide +kernel
theorem dX1_mixBlock_309 : decode cX1_mixBlock 309 = .ok (.bipush 7, 2) := by decide +kernel
theorem dX1_mixBlock_311 : decode cX1_mixBlock 311 = .ok (.dup2, 1) := by decide +kernel
theorem dX1_mixBlock_312 : decode cX1_mixBlock 312 = .ok (.iaload, 1) := by decide +kernel
theorem dX1_mixBlock_313 : decode cX1_mixBlock 313 = .ok (.iload 8, 2) := by decide +kernel
theorem dX1_mixBlock_315 : decode cX1_mixBlock 315 = .ok (.iadd, 1) := by decide +kernel
theorem dX1_mixBlock_316 : decode cX1_mixBlock 316 = .ok (.iastore, 1) := by decide +kernel
theorem dX1_mixBlock_317 : decode cX1_mixBlock 317 = .ok (.return_, 1) := by decide +kernel
theorem dX2_init_0 : decode cX2_init 0 = .ok (.aload_n 0, 1) := by decide +kernel
theorem dX2_init_1 : decode cX2_init 1 = .ok (.invokespecial 3, 3) := by decide +kernel
theorem dX2_init_4 : decode cX2_init 4 = .ok (.aload_n 0, 1) := by decide +kernel
theorem dX2_init_5 : decode cX2_init 5 = .ok (.sipush 256, 3) := by decide +kernel
theorem dX2_init_8 : decode cX2_init 8 = .ok (.newarray .byte, 2) := by decide +kernel
theorem dX2_init_10 : decode cX2_init 10 = .ok (.putfield 11, 3) := by decide +kernel
theorem dX2_init_13 : decode cX2_init 13 = .ok (.aload_n 0, 1) := by decide +kernel
theorem dX2_init_14 : decode cX2_init 14 = .ok (.bipush 32, 2) := by decide +kernel
theorem dX2_init_16 : decode cX2_init 16 = .ok (.newarray .byte, 2) := by decide +kernel
theorem dX2_init_18 : decode cX2_init 18 = .ok (.putfield 15, 3) := by decide +kernel
theorem dX2_init_21 : decode cX2_init 21 = .ok (.return_, 1) := by decide +kernel
theorem dX2_mixIn_0 : decode cX2_mixIn 0 = .ok (.aload_n 0, 1) := by decide +kernel
theorem dX2_mixIn_1 : decode cX2_mixIn 1 = .ok (.getfield 11, 3) := by decide +kernel
theorem dX2_mixIn_4 : decode cX2_mixIn 4 = .ok (.iload_n 1, 1) := by decide +kernel
theorem dX2_mixIn_5 : decode cX2_mixIn 5 = .ok (.bipush 32, 2) := by decide +kernel
theorem dX2_mixIn_7 : decode cX2_mixIn 7 = .ok (.imul, 1) := by decide +kernel
theorem dX2_mixIn_8 : decode cX2_mixIn 8 = .ok (.aload_n 0, 1) := by decide +kernel
theorem dX2_mixIn_9 : decode cX2_mixIn 9 = .ok (.getfield 15, 3) := by decide +kernel
theorem dX2_mixIn_12 : decode cX2_mixIn 12 = .ok (.iconst 0, 1) := by decide +kernel
theorem dX2_mixIn_13 : decode cX2_mixIn 13 = .ok (.bipush 32, 2) := by decide +kernel
theorem dX2_mixIn_15 : decode cX2_mixIn 15 = .ok (.invokestatic 18, 3) := by decide +kernel
theorem dX2_mixIn_18 : decode cX2_mixIn 18 = .ok (.aload_n 3, 1) := by decide +kernel
theorem dX2_mixIn_19 : decode cX2_mixIn 19 = .ok (.invokevirtual 24, 3) := by decide +kernel
theorem dX2_mixIn_22 : decode cX2_mixIn 22 = .ok (.astore 4, 2) := by decide +kernel
theorem dX2_mixIn_24 : decode cX2_mixIn 24 = .ok (.aload 4, 2) := by decide +kernel
theorem dX2_mixIn_26 : decode cX2_mixIn 26 = .ok (.aload_n 0, 1) := by decide +kernel
theorem dX2_mixIn_27 : decode cX2_mixIn 27 = .ok (.getfield 15, 3) := by decide +kernel
theorem dX2_mixIn_30 : decode cX2_mixIn 30 = .ok (.bipush 32, 2) := by decide +kernel
theorem dX2_mixIn_32 : decode cX2_mixIn 32 = .ok (.invokevirtual 30, 3) := by decide +kernel
theorem dX2_mixIn_35 : decode cX2_mixIn 35 = .ok (.aload 4, 2) := by decide +kernel
theorem dX2_mixIn_37 : decode cX2_mixIn 37 = .ok (.aload_n 2, 1) := by decide +kernel
theorem dX2_mixIn_38 : decode cX2_mixIn 38 = .ok (.bipush 32, 2) := by decide +kernel
theorem dX2_mixIn_40 : decode cX2_mixIn 40 = .ok (.invokevirtual 30, 3) := by decide +kernel
theorem dX2_mixIn_43 : decode cX2_mixIn 43 = .ok (.aload_n 3, 1) := by decide +kernel
theorem dX2_mixIn_44 : decode cX2_mixIn 44 = .ok (.aload_n 0, 1) := by decide +kernel
theorem dX2_mixIn_45 : decode cX2_mixIn 45 = .ok (.getfield 15, 3) := by decide +kernel
theorem dX2_mixIn_48 : decode cX2_mixIn 48 = .ok (.invokevirtual 36, 3) := by decide +kernel
theorem dX2_mixIn_51 : decode cX2_mixIn 51 = .ok (.aload_n 0, 1) := by decide +kernel
theorem dX2_mixIn_52 : decode cX2_mixIn 52 = .ok (.getfield 15, 3) := by decide +kernel
theorem dX2_mixIn_55 : decode cX2_mixIn 55 = .ok (.iconst 0, 1) := by decide +kernel
theorem dX2_mixIn_56 : decode cX2_mixIn 56 = .ok (.aload_n 0, 1) := by decide +kernel
theorem dX2_mixIn_57 : decode cX2_mixIn 57 = .ok (.getfield 11, 3) := by decide +kernel
theorem dX2_mixIn_60 : decode cX2_mixIn 60 = .ok (.iload_n 1, 1) := by decide +kernel
theorem dX2_mixIn_61 : decode cX2_mixIn 61 = .ok (.bipush 32, 2) := by decide +kernel
theorem dX2_mixIn_63 : decode cX2_mixIn 63 = .ok (.imul, 1) := by decide +kernel
theorem dX2_mixIn_64 : decode cX2_mixIn 64 = .ok (.bipush 32, 2) := by decide +kernel
theorem dX2_mixIn_66 : decode cX2_mixIn 66 = .ok (.invokestatic 18, 3) := by decide +kernel
theorem dX2_mixIn_69 : decode cX2_mixIn 69 = .ok (.aload_n 0, 1) := by decide +kernel
theorem dX2_mixIn_70 : decode cX2_mixIn 70 = .ok (.dup, 1) := by decide +kernel
theorem dX2_mixIn_71 : decode cX2_mixIn 71 = .ok (.getfield 40, 3) := by decide +kernel
theorem dX2_mixIn_74 : decode cX2_mixIn 74 = .ok (.iconst 1, 1) := by decide +kernel
theorem dX2_mixIn_75 : decode cX2_mixIn 75 = .ok (.iadd, 1) := by decide +kernel
theorem dX2_mixIn_76 : decode cX2_mixIn 76 = .ok (.putfield 40, 3) := by decide +kernel
theorem dX2_mixIn_79 : decode cX2_mixIn 79 = .ok (.return_, 1) := by decide +kernel
theorem dX2_zero_0 : decode cX2_zero 0 = .ok (.iconst 0, 1) := by decide +kernel
theorem dX2_zero_1 : decode cX2_zero 1 = .ok (.istore_n 2, 1) := by decide +kernel
theorem dX2_zero_2 : decode cX2_zero 2 = .ok (.iload_n 2, 1) := by decide +kernel
theorem dX2_zero_3 : decode cX2_zero 3 = .ok (.bipush 32, 2) := by decide +kernel
theorem dX2_zero_5 : decode cX2_zero 5 = .ok (.if_icmp .ge 21, 3) := by decide +kernel
theorem dX2_zero_8 : decode cX2_zero 8 = .ok (.aload_n 0, 1) := by decide +kernel
theorem dX2_zero_9 : decode cX2_zero 9 = .ok (.getfield 11, 3) := by decide +kernel
theorem dX2_zero_12 : decode cX2_zero 12 = .ok (.iload_n 1, 1) := by decide +kernel
theorem dX2_zero_13 : decode cX2_zero 13 = .ok (.bipush 32, 2) := by decide +kernel
theorem dX2_zero_15 : decode cX2_zero 15 = .ok (.imul, 1) := by decide +kernel
theorem dX2_zero_16 : decode cX2_zero 16 = .ok (.iload_n 2, 1) := by decide +kernel
theorem dX2_zero_17 : decode cX2_zero 17 = .ok (.iadd, 1) := by decide +kernel
theorem dX2_zero_18 : decode cX2_zero 18 = .ok (.iconst 0, 1) := by decide +kernel
theorem dX2_zero_19 : decode cX2_zero 19 = .ok (.bastore, 1) := by decide +kernel
theorem dX2_zero_20 : decode cX2_zero 20 = .ok (.iinc 2 1, 3) := by decide +kernel
theorem dX2_zero_23 : decode cX2_zero 23 = .ok (.goto (-21), 3) := by decide +kernel
theorem dX2_zero_26 : decode cX2_zero 26 = .ok (.aload_n 0, 1) := by decide +kernel
theorem dX2_zero_27 : decode cX2_zero 27 = .ok (.dup, 1) := by decide +kernel
theorem dX2_zero_28 : decode cX2_zero 28 = .ok (.getfield 40, 3) := by decide +kernel
theorem dX2_zero_31 : decode cX2_zero 31 = .ok (.iconst 1, 1) := by decide +kernel
theorem dX2_zero_32 : decode cX2_zero 32 = .ok (.iadd, 1) := by decide +kernel
theorem dX2_zero_33 : decode cX2_zero 33 = .ok (.putfield 40, 3) := by decide +kernel
theorem dX2_zero_36 : decode cX2_zero 36 = .ok (.return_, 1) := by decide +kernel
theorem dX2_measure_0 : decode cX2_measure 0 = .ok (.aload_n 2, 1) := by decide +kernel
theorem dX2_measure_1 : decode cX2_measure 1 = .ok (.invokevirtual 24, 3) := by decide +kernel
theorem dX2_measure_4 : decode cX2_measure 4 = .ok (.astore 4, 2) := by decide +kernel
theorem dX2_measure_6 : decode cX2_measure 6 = .ok (.iconst 0, 1) := by decide +kernel
theorem dX2_measure_7 : decode cX2_measure 7 = .ok (.istore 5, 2) := by decide +kernel
theorem dX2_measure_9 : decode cX2_measure 9 = .ok (.iload 5, 2) := by decide +kernel
theorem dX2_measure_11 : decode cX2_measure 11 = .ok (.bipush 8, 2) := by decide +kernel
theorem dX2_measure_13 : decode cX2_measure 13 = .ok (.if_icmp .ge 48, 3) := by decide +kernel
theorem dX2_measure_16 : decode cX2_measure 16 = .ok (.iload_n 1, 1) := by decide +kernel
theorem dX2_measure_17 : decode cX2_measure 17 = .ok (.iload 5, 2) := by decide +kernel
theorem dX2_measure_19 : decode cX2_measure 19 = .ok (.iushr, 1) := by decide +kernel
theorem dX2_measure_20 : decode cX2_measure 20 = .ok (.iconst 1, 1) := by decide +kernel
theorem dX2_measure_21 : decode cX2_measure 21 = .ok (.iand, 1) := by decide +kernel
theorem dX2_measure_22 : decode cX2_measure 22 = .ok (.ifCond .eq 33, 3) := by decide +kernel
theorem dX2_measure_25 : decode cX2_measure 25 = .ok (.aload_n 0, 1) := by decide +kernel
theorem dX2_measure_26 : decode cX2_measure 26 = .ok (.getfield 11, 3) := by decide +kernel
theorem dX2_measure_29 : decode cX2_measure 29 = .ok (.iload 5, 2) := by decide +kernel
theorem dX2_measure_31 : decode cX2_measure 31 = .ok (.bipush 32, 2) := by decide +kernel
theorem dX2_measure_33 : decode cX2_measure 33 = .ok (.imul, 1) := by decide +kernel
theorem dX2_measure_34 : decode cX2_measure 34 = .ok (.aload_n 0, 1) := by decide +kernel
theorem dX2_measure_35 : decode cX2_measure 35 = .ok (.getfield 15, 3) := by decide +kernel
theorem dX2_measure_38 : decode cX2_measure 38 = .ok (.iconst 0, 1) := by decide +kernel
theorem dX2_measure_39 : decode cX2_measure 39 = .ok (.bipush 32, 2) := by decide +kernel
theorem dX2_measure_41 : decode cX2_measure 41 = .ok (.invokestatic 18, 3) := by decide +kernel
theorem dX2_measure_44 : decode cX2_measure 44 = .ok (.aload 4, 2) := by decide +kernel
theorem dX2_measure_46 : decode cX2_measure 46 = .ok (.aload_n 0, 1) := by decide +kernel
theorem dX2_measure_47 : decode cX2_measure 47 = .ok (.getfield 15, 3) := by decide +kernel
theorem dX2_measure_50 : decode cX2_measure 50 = .ok (.bipush 32, 2) := by decide +kernel
theorem dX2_measure_52 : decode cX2_measure 52 = .ok (.invokevirtual 30, 3) := by decide +kernel
theorem dX2_measure_55 : decode cX2_measure 55 = .ok (.iinc 5 1, 3) := by decide +kernel
theorem dX2_measure_58 : decode cX2_measure 58 = .ok (.goto (-49), 3) := by decide +kernel
theorem dX2_measure_61 : decode cX2_measure 61 = .ok (.aload_n 2, 1) := by decide +kernel
theorem dX2_measure_62 : decode cX2_measure 62 = .ok (.aload_n 3, 1) := by decide +kernel
theorem dX2_measure_63 : decode cX2_measure 63 = .ok (.invokevirtual 36, 3) := by decide +kernel
theorem dX2_measure_66 : decode cX2_measure 66 = .ok (.return_, 1) := by decide +kernel
theorem dX3_init_0 : decode cX3_init 0 = .ok (.aload_n 0, 1) := by decide +kernel
theorem dX3_init_1 : decode cX3_init 1 = .ok (.invokespecial 3, 3) := by decide +kernel
theorem dX3_init_4 : decode cX3_init 4 = .ok (.aload_n 0, 1) := by decide +kernel
theorem dX3_init_5 : decode cX3_init 5 = .ok (.bipush 32, 2) := by decide +kernel
theorem dX3_init_7 : decode cX3_init 7 = .ok (.newarray .byte, 2) := by decide +kernel
theorem dX3_init_9 : decode cX3_init 9 = .ok (.putfield 9, 3) := by decide +kernel
theorem dX3_init_12 : decode cX3_init 12 = .ok (.aload_n 0, 1) := by decide +kernel
theorem dX3_init_13 : decode cX3_init 13 = .ok (.bipush 32, 2) := by decide +kernel
theorem dX3_init_15 : decode cX3_init 15 = .ok (.newarray .byte, 2) := by decide +kernel
theorem dX3_init_17 : decode cX3_init 17 = .ok (.putfield 15, 3) := by decide +kernel
theorem dX3_init_20 : decode cX3_init 20 = .ok (.aload_n 0, 1) := by decide +kernel
theorem dX3_init_21 : decode cX3_init 21 = .ok (.bipush 32, 2) := by decide +kernel
theorem dX3_init_23 : decode cX3_init 23 = .ok (.newarray .byte, 2) := by decide +kernel
theorem dX3_init_25 : decode cX3_init 25 = .ok (.putfield 18, 3) := by decide +kernel
theorem dX3_init_28 : decode cX3_init 28 = .ok (.aload_n 0, 1) := by decide +kernel
theorem dX3_init_29 : decode cX3_init 29 = .ok (.aload_n 1, 1) := by decide +kernel
theorem dX3_init_30 : decode cX3_init 30 = .ok (.putfield 21, 3) := by decide +kernel
theorem dX3_init_33 : decode cX3_init 33 = .ok (.aload_n 1, 1) := by decide +kernel
theorem dX3_init_34 : decode cX3_init 34 = .ok (.invokevirtual 25, 3) := by decide +kernel
theorem dX3_init_37 : decode cX3_init 37 = .ok (.astore_n 3, 1) := by decide +kernel
theorem dX3_init_38 : decode cX3_init 38 = .ok (.aload_n 3, 1) := by decide +kernel
theorem dX3_init_39 : decode cX3_init 39 = .ok (.bipush 83, 2) := by decide +kernel
theorem dX3_init_41 : decode cX3_init 41 = .ok (.invokevirtual 31, 3) := by decide +kernel
theorem dX3_init_44 : decode cX3_init 44 = .ok (.aload_n 3, 1) := by decide +kernel
theorem dX3_init_45 : decode cX3_init 45 = .ok (.bipush 69, 2) := by decide +kernel
theorem dX3_init_47 : decode cX3_init 47 = .ok (.invokevirtual 31, 3) := by decide +kernel
theorem dX3_init_50 : decode cX3_init 50 = .ok (.aload_n 3, 1) := by decide +kernel
theorem dX3_init_51 : decode cX3_init 51 = .ok (.bipush 69, 2) := by decide +kernel
theorem dX3_init_53 : decode cX3_init 53 = .ok (.invokevirtual 31, 3) := by decide +kernel
theorem dX3_init_56 : decode cX3_init 56 = .ok (.aload_n 3, 1) := by decide +kernel
theorem dX3_init_57 : decode cX3_init 57 = .ok (.bipush 68, 2) := by decide +kernel
theorem dX3_init_59 : decode cX3_init 59 = .ok (.invokevirtual 31, 3) := by decide +kernel
theorem dX3_init_62 : decode cX3_init 62 = .ok (.aload_n 3, 1) := by decide +kernel
theorem dX3_init_63 : decode cX3_init 63 = .ok (.iload_n 2, 1) := by decide +kernel
theorem dX3_init_64 : decode cX3_init 64 = .ok (.invokevirtual 37, 3) := by decide +kernel
theorem dX3_init_67 : decode cX3_init 67 = .ok (.aload_n 1, 1) := by decide +kernel
theorem dX3_init_68 : decode cX3_init 68 = .ok (.aload_n 0, 1) := by decide +kernel
theorem dX3_init_69 : decode cX3_init 69 = .ok (.getfield 9, 3) := by decide +kernel
theorem dX3_init_72 : decode cX3_init 72 = .ok (.invokevirtual 40, 3) := by decide +kernel
theorem dX3_init_75 : decode cX3_init 75 = .ok (.return_, 1) := by decide +kernel
theorem dX3_renew_0 : decode cX3_renew 0 = .ok (.aload_n 0, 1) := by decide +kernel
theorem dX3_renew_1 : decode cX3_renew 1 = .ok (.getfield 21, 3) := by decide +kernel
theorem dX3_renew_4 : decode cX3_renew 4 = .ok (.invokevirtual 25, 3) := by decide +kernel
theorem dX3_renew_7 : decode cX3_renew 7 = .ok (.aload_n 0, 1) := by decide +kernel
theorem dX3_renew_8 : decode cX3_renew 8 = .ok (.getfield 9, 3) := by decide +kernel
theorem dX3_renew_11 : decode cX3_renew 11 = .ok (.bipush 32, 2) := by decide +kernel
theorem dX3_renew_13 : decode cX3_renew 13 = .ok (.invokevirtual 44, 3) := by decide +kernel
theorem dX3_renew_16 : decode cX3_renew 16 = .ok (.aload_n 0, 1) := by decide +kernel
theorem dX3_renew_17 : decode cX3_renew 17 = .ok (.getfield 21, 3) := by decide +kernel
theorem dX3_renew_20 : decode cX3_renew 20 = .ok (.aload_n 0, 1) := by decide +kernel
theorem dX3_renew_21 : decode cX3_renew 21 = .ok (.getfield 9, 3) := by decide +kernel
theorem dX3_renew_24 : decode cX3_renew 24 = .ok (.invokevirtual 40, 3) := by decide +kernel
theorem dX3_renew_27 : decode cX3_renew 27 = .ok (.return_, 1) := by decide +kernel
theorem dX3_sign_0 : decode cX3_sign 0 = .ok (.aload_n 0, 1) := by decide +kernel
theorem dX3_sign_1 : decode cX3_sign 1 = .ok (.getfield 21, 3) := by decide +kernel
theorem dX3_sign_4 : decode cX3_sign 4 = .ok (.aload_n 0, 1) := by decide +kernel
theorem dX3_sign_5 : decode cX3_sign 5 = .ok (.getfield 9, 3) := by decide +kernel
theorem dX3_sign_8 : decode cX3_sign 8 = .ok (.invokevirtual 48, 3) := by decide +kernel
theorem dX3_sign_11 : decode cX3_sign 11 = .ok (.bipush 81, 2) := by decide +kernel
theorem dX3_sign_13 : decode cX3_sign 13 = .ok (.invokevirtual 31, 3) := by decide +kernel
theorem dX3_sign_16 : decode cX3_sign 16 = .ok (.aload_n 0, 1) := by decide +kernel
theorem dX3_sign_17 : decode cX3_sign 17 = .ok (.getfield 21, 3) := by decide +kernel
theorem dX3_sign_20 : decode cX3_sign 20 = .ok (.aload_n 0, 1) := by decide +kernel
theorem dX3_sign_21 : decode cX3_sign 21 = .ok (.getfield 9, 3) := by decide +kernel
theorem dX3_sign_24 : decode cX3_sign 24 = .ok (.aload_n 0, 1) := by decide +kernel
theorem dX3_sign_25 : decode cX3_sign 25 = .ok (.getfield 15, 3) := by decide +kernel
theorem dX3_sign_28 : decode cX3_sign 28 = .ok (.invokevirtual 52, 3) := by decide +kernel
theorem dX3_sign_31 : decode cX3_sign 31 = .ok (.aload_n 0, 1) := by decide +kernel
theorem dX3_sign_32 : decode cX3_sign 32 = .ok (.aload_n 1, 1) := by decide +kernel
theorem dX3_sign_33 : decode cX3_sign 33 = .ok (.getfield 56, 3) := by decide +kernel
theorem dX3_sign_36 : decode cX3_sign 36 = .ok (.aload_n 1, 1) := by decide +kernel
theorem dX3_sign_37 : decode cX3_sign 37 = .ok (.getfield 59, 3) := by decide +kernel
theorem dX3_sign_40 : decode cX3_sign 40 = .ok (.invokevirtual 63, 3) := by decide +kernel
theorem dX3_sign_43 : decode cX3_sign 43 = .ok (.aload_n 1, 1) := by decide +kernel
theorem dX3_sign_44 : decode cX3_sign 44 = .ok (.aload_n 0, 1) := by decide +kernel
theorem dX3_sign_45 : decode cX3_sign 45 = .ok (.getfield 18, 3) := by decide +kernel
theorem dX3_sign_48 : decode cX3_sign 48 = .ok (.bipush 32, 2) := by decide +kernel
theorem dX3_sign_50 : decode cX3_sign 50 = .ok (.invokevirtual 44, 3) := by decide +kernel
theorem dX3_sign_53 : decode cX3_sign 53 = .ok (.return_, 1) := by decide +kernel
theorem dX3_wrap_0 : decode cX3_wrap 0 = .ok (.aload 4, 2) := by decide +kernel
theorem dX3_wrap_2 : decode cX3_wrap 2 = .ok (.iconst 0, 1) := by decide +kernel
theorem dX3_wrap_3 : decode cX3_wrap 3 = .ok (.putfield 59, 3) := by decide +kernel
theorem dX3_wrap_6 : decode cX3_wrap 6 = .ok (.aload 4, 2) := by decide +kernel
theorem dX3_wrap_8 : decode cX3_wrap 8 = .ok (.aload_n 0, 1) := by decide +kernel
theorem dX3_wrap_9 : decode cX3_wrap 9 = .ok (.getfield 66, 3) := by decide +kernel
theorem dX3_wrap_12 : decode cX3_wrap 12 = .ok (.invokevirtual 37, 3) := by decide +kernel
theorem dX3_wrap_15 : decode cX3_wrap 15 = .ok (.aload 4, 2) := by decide +kernel
theorem dX3_wrap_17 : decode cX3_wrap 17 = .ok (.aload_n 3, 1) := by decide +kernel
theorem dX3_wrap_18 : decode cX3_wrap 18 = .ok (.bipush 32, 2) := by decide +kernel
theorem dX3_wrap_20 : decode cX3_wrap 20 = .ok (.invokevirtual 44, 3) := by decide +kernel
theorem dX3_wrap_23 : decode cX3_wrap 23 = .ok (.aload 4, 2) := by decide +kernel
theorem dX3_wrap_25 : decode cX3_wrap 25 = .ok (.aload_n 2, 1) := by decide +kernel
theorem dX3_wrap_26 : decode cX3_wrap 26 = .ok (.bipush 32, 2) := by decide +kernel
theorem dX3_wrap_28 : decode cX3_wrap 28 = .ok (.invokevirtual 44, 3) := by decide +kernel
theorem dX3_wrap_31 : decode cX3_wrap 31 = .ok (.aload 4, 2) := by decide +kernel
theorem dX3_wrap_33 : decode cX3_wrap 33 = .ok (.aload_n 1, 1) := by decide +kernel
theorem dX3_wrap_34 : decode cX3_wrap 34 = .ok (.getfield 59, 3) := by decide +kernel
theorem dX3_wrap_37 : decode cX3_wrap 37 = .ok (.invokevirtual 31, 3) := by decide +kernel
theorem dX3_wrap_40 : decode cX3_wrap 40 = .ok (.aload 4, 2) := by decide +kernel
theorem dX3_wrap_42 : decode cX3_wrap 42 = .ok (.aload_n 1, 1) := by decide +kernel
theorem dX3_wrap_43 : decode cX3_wrap 43 = .ok (.getfield 56, 3) := by decide +kernel
theorem dX3_wrap_46 : decode cX3_wrap 46 = .ok (.aload_n 1, 1) := by decide +kernel
theorem dX3_wrap_47 : decode cX3_wrap 47 = .ok (.getfield 59, 3) := by decide +kernel
theorem dX3_wrap_50 : decode cX3_wrap 50 = .ok (.invokevirtual 44, 3) := by decide +kernel
theorem dX3_wrap_53 : decode cX3_wrap 53 = .ok (.aload_n 0, 1) := by decide +kernel
theorem dX3_wrap_54 : decode cX3_wrap 54 = .ok (.bipush 69, 2) := by decide +kernel
theorem dX3_wrap_56 : decode cX3_wrap 56 = .ok (.aload_n 0, 1) := by decide +kernel
theorem dX3_wrap_57 : decode cX3_wrap 57 = .ok (.getfield 66, 3) := by decide +kernel
theorem dX3_wrap_60 : decode cX3_wrap 60 = .ok (.invokevirtual 69, 3) := by decide +kernel
theorem dX3_wrap_63 : decode cX3_wrap 63 = .ok (.aload_n 0, 1) := by decide +kernel
theorem dX3_wrap_64 : decode cX3_wrap 64 = .ok (.aload 4, 2) := by decide +kernel
theorem dX3_wrap_66 : decode cX3_wrap 66 = .ok (.getfield 56, 3) := by decide +kernel
theorem dX3_wrap_69 : decode cX3_wrap 69 = .ok (.aload 4, 2) := by decide +kernel
theorem dX3_wrap_71 : decode cX3_wrap 71 = .ok (.getfield 59, 3) := by decide +kernel
theorem dX3_wrap_74 : decode cX3_wrap 74 = .ok (.invokevirtual 73, 3) := by decide +kernel
theorem dX3_wrap_77 : decode cX3_wrap 77 = .ok (.aload_n 0, 1) := by decide +kernel
theorem dX3_wrap_78 : decode cX3_wrap 78 = .ok (.bipush 77, 2) := by decide +kernel
theorem dX3_wrap_80 : decode cX3_wrap 80 = .ok (.aload_n 0, 1) := by decide +kernel
theorem dX3_wrap_81 : decode cX3_wrap 81 = .ok (.getfield 66, 3) := by decide +kernel
theorem dX3_wrap_84 : decode cX3_wrap 84 = .ok (.invokevirtual 69, 3) := by decide +kernel
theorem dX3_wrap_87 : decode cX3_wrap 87 = .ok (.aload_n 0, 1) := by decide +kernel
theorem dX3_wrap_88 : decode cX3_wrap 88 = .ok (.aload 4, 2) := by decide +kernel
theorem dX3_wrap_90 : decode cX3_wrap 90 = .ok (.getfield 56, 3) := by decide +kernel
theorem dX3_wrap_93 : decode cX3_wrap 93 = .ok (.aload 4, 2) := by decide +kernel
theorem dX3_wrap_95 : decode cX3_wrap 95 = .ok (.getfield 59, 3) := by decide +kernel
theorem dX3_wrap_98 : decode cX3_wrap 98 = .ok (.invokevirtual 63, 3) := by decide +kernel
theorem dX3_wrap_101 : decode cX3_wrap 101 = .ok (.aload 4, 2) := by decide +kernel
theorem dX3_wrap_103 : decode cX3_wrap 103 = .ok (.aload_n 0, 1) := by decide +kernel
theorem dX3_wrap_104 : decode cX3_wrap 104 = .ok (.getfield 18, 3) := by decide +kernel
theorem dX3_wrap_107 : decode cX3_wrap 107 = .ok (.bipush 32, 2) := by decide +kernel
theorem dX3_wrap_109 : decode cX3_wrap 109 = .ok (.invokevirtual 44, 3) := by decide +kernel
theorem dX3_wrap_112 : decode cX3_wrap 112 = .ok (.aload_n 0, 1) := by decide +kernel
theorem dX3_wrap_113 : decode cX3_wrap 113 = .ok (.dup, 1) := by decide +kernel
theorem dX3_wrap_114 : decode cX3_wrap 114 = .ok (.getfield 66, 3) := by decide +kernel
theorem dX3_wrap_117 : decode cX3_wrap 117 = .ok (.iconst 1, 1) := by decide +kernel
theorem dX3_wrap_118 : decode cX3_wrap 118 = .ok (.iadd, 1) := by decide +kernel
theorem dX3_wrap_119 : decode cX3_wrap 119 = .ok (.putfield 66, 3) := by decide +kernel
theorem dX3_wrap_122 : decode cX3_wrap 122 = .ok (.return_, 1) := by decide +kernel
theorem dX3_unwrap_0 : decode cX3_unwrap 0 = .ok (.aload_n 1, 1) := by decide +kernel
theorem dX3_unwrap_1 : decode cX3_unwrap 1 = .ok (.getfield 59, 3) := by decide +kernel
theorem dX3_unwrap_4 : decode cX3_unwrap 4 = .ok (.bipush 101, 2) := by decide +kernel
theorem dX3_unwrap_6 : decode cX3_unwrap 6 = .ok (.isub, 1) := by decide +kernel
theorem dX3_unwrap_7 : decode cX3_unwrap 7 = .ok (.istore_n 2, 1) := by decide +kernel
theorem dX3_unwrap_8 : decode cX3_unwrap 8 = .ok (.iload_n 2, 1) := by decide +kernel
theorem dX3_unwrap_9 : decode cX3_unwrap 9 = .ok (.ifCond .lt 10, 3) := by decide +kernel
theorem dX3_unwrap_12 : decode cX3_unwrap 12 = .ok (.iload_n 2, 1) := by decide +kernel
theorem dX3_unwrap_13 : decode cX3_unwrap 13 = .ok (.sipush 128, 3) := by decide +kernel
theorem dX3_unwrap_16 : decode cX3_unwrap 16 = .ok (.if_icmp .le 5, 3) := by decide +kernel
theorem dX3_unwrap_19 : decode cX3_unwrap 19 = .ok (.iconst 0, 1) := by decide +kernel
theorem dX3_unwrap_20 : decode cX3_unwrap 20 = .ok (.ireturn, 1) := by decide +kernel
theorem dX3_unwrap_21 : decode cX3_unwrap 21 = .ok (.aload_n 1, 1) := by decide +kernel
theorem dX3_unwrap_22 : decode cX3_unwrap 22 = .ok (.getfield 56, 3) := by decide +kernel
theorem dX3_unwrap_25 : decode cX3_unwrap 25 = .ok (.astore_n 3, 1) := by decide +kernel
theorem dX3_unwrap_26 : decode cX3_unwrap 26 = .ok (.aload_n 1, 1) := by decide +kernel
theorem dX3_unwrap_27 : decode cX3_unwrap 27 = .ok (.iconst 0, 1) := by decide +kernel
theorem dX3_unwrap_28 : decode cX3_unwrap 28 = .ok (.invokevirtual 76, 3) := by decide +kernel
theorem dX3_unwrap_31 : decode cX3_unwrap 31 = .ok (.istore 4, 2) := by decide +kernel
theorem dX3_unwrap_33 : decode cX3_unwrap 33 = .ok (.aload_n 0, 1) := by decide +kernel
theorem dX3_unwrap_34 : decode cX3_unwrap 34 = .ok (.bipush 77, 2) := by decide +kernel
theorem dX3_unwrap_36 : decode cX3_unwrap 36 = .ok (.iload 4, 2) := by decide +kernel
theorem dX3_unwrap_38 : decode cX3_unwrap 38 = .ok (.invokevirtual 69, 3) := by decide +kernel
theorem dX3_unwrap_41 : decode cX3_unwrap 41 = .ok (.aload_n 0, 1) := by decide +kernel
theorem dX3_unwrap_42 : decode cX3_unwrap 42 = .ok (.aload_n 3, 1) := by decide +kernel
theorem dX3_unwrap_43 : decode cX3_unwrap 43 = .ok (.bipush 69, 2) := by decide +kernel
theorem dX3_unwrap_45 : decode cX3_unwrap 45 = .ok (.iload_n 2, 1) := by decide +kernel
theorem dX3_unwrap_46 : decode cX3_unwrap 46 = .ok (.iadd, 1) := by decide +kernel
theorem dX3_unwrap_47 : decode cX3_unwrap 47 = .ok (.invokevirtual 63, 3) := by decide +kernel
theorem dX3_unwrap_50 : decode cX3_unwrap 50 = .ok (.aload_n 0, 1) := by decide +kernel
theorem dX3_unwrap_51 : decode cX3_unwrap 51 = .ok (.getfield 18, 3) := by decide +kernel
theorem dX3_unwrap_54 : decode cX3_unwrap 54 = .ok (.aload_n 3, 1) := by decide +kernel
theorem dX3_unwrap_55 : decode cX3_unwrap 55 = .ok (.bipush 69, 2) := by decide +kernel
theorem dX3_unwrap_57 : decode cX3_unwrap 57 = .ok (.iload_n 2, 1) := by decide +kernel
theorem dX3_unwrap_58 : decode cX3_unwrap 58 = .ok (.iadd, 1) := by decide +kernel
theorem dX3_unwrap_59 : decode cX3_unwrap 59 = .ok (.invokestatic 80, 3) := by decide +kernel
theorem dX3_unwrap_62 : decode cX3_unwrap 62 = .ok (.ifCond .ne 5, 3) := by decide +kernel
theorem dX3_unwrap_65 : decode cX3_unwrap 65 = .ok (.iconst 0, 1) := by decide +kernel
theorem dX3_unwrap_66 : decode cX3_unwrap 66 = .ok (.ireturn, 1) := by decide +kernel
theorem dX3_unwrap_67 : decode cX3_unwrap 67 = .ok (.aload_n 0, 1) := by decide +kernel
theorem dX3_unwrap_68 : decode cX3_unwrap 68 = .ok (.bipush 69, 2) := by decide +kernel
theorem dX3_unwrap_70 : decode cX3_unwrap 70 = .ok (.iload 4, 2) := by decide +kernel
theorem dX3_unwrap_72 : decode cX3_unwrap 72 = .ok (.invokevirtual 69, 3) := by decide +kernel
theorem dX3_unwrap_75 : decode cX3_unwrap 75 = .ok (.aload_n 0, 1) := by decide +kernel
theorem dX3_unwrap_76 : decode cX3_unwrap 76 = .ok (.aload_n 3, 1) := by decide +kernel
theorem dX3_unwrap_77 : decode cX3_unwrap 77 = .ok (.bipush 69, 2) := by decide +kernel
theorem dX3_unwrap_79 : decode cX3_unwrap 79 = .ok (.iload_n 2, 1) := by decide +kernel
theorem dX3_unwrap_80 : decode cX3_unwrap 80 = .ok (.iadd, 1) := by decide +kernel
theorem dX3_unwrap_81 : decode cX3_unwrap 81 = .ok (.invokevirtual 73, 3) := by decide +kernel
theorem dX3_unwrap_84 : decode cX3_unwrap 84 = .ok (.aload_n 3, 1) := by decide +kernel
theorem dX3_unwrap_85 : decode cX3_unwrap 85 = .ok (.bipush 68, 2) := by decide +kernel
theorem dX3_unwrap_87 : decode cX3_unwrap 87 = .ok (.baload, 1) := by decide +kernel
theorem dX3_unwrap_88 : decode cX3_unwrap 88 = .ok (.sipush 255, 3) := by decide +kernel
theorem dX3_unwrap_91 : decode cX3_unwrap 91 = .ok (.iand, 1) := by decide +kernel
theorem dX3_unwrap_92 : decode cX3_unwrap 92 = .ok (.iload_n 2, 1) := by decide +kernel
theorem dX3_unwrap_93 : decode cX3_unwrap 93 = .ok (.if_icmp .ne 7, 3) := by decide +kernel
theorem dX3_unwrap_96 : decode cX3_unwrap 96 = .ok (.iconst 1, 1) := by decide +kernel
theorem dX3_unwrap_97 : decode cX3_unwrap 97 = .ok (.goto 4, 3) := by decide +kernel
theorem dX3_unwrap_100 : decode cX3_unwrap 100 = .ok (.iconst 0, 1) := by decide +kernel
theorem dX3_unwrap_101 : decode cX3_unwrap 101 = .ok (.ireturn, 1) := by decide +kernel
theorem dX3_derive_0 : decode cX3_derive 0 = .ok (.aload_n 0, 1) := by decide +kernel
theorem dX3_derive_1 : decode cX3_derive 1 = .ok (.getfield 21, 3) := by decide +kernel
theorem dX3_derive_4 : decode cX3_derive 4 = .ok (.aload_n 0, 1) := by decide +kernel
theorem dX3_derive_5 : decode cX3_derive 5 = .ok (.getfield 9, 3) := by decide +kernel
theorem dX3_derive_8 : decode cX3_derive 8 = .ok (.invokevirtual 48, 3) := by decide +kernel
theorem dX3_derive_11 : decode cX3_derive 11 = .ok (.astore_n 3, 1) := by decide +kernel
theorem dX3_derive_12 : decode cX3_derive 12 = .ok (.aload_n 3, 1) := by decide +kernel
theorem dX3_derive_13 : decode cX3_derive 13 = .ok (.iload_n 1, 1) := by decide +kernel
theorem dX3_derive_14 : decode cX3_derive 14 = .ok (.invokevirtual 31, 3) := by decide +kernel
theorem dX3_derive_17 : decode cX3_derive 17 = .ok (.aload_n 3, 1) := by decide +kernel
theorem dX3_derive_18 : decode cX3_derive 18 = .ok (.iload_n 2, 1) := by decide +kernel
theorem dX3_derive_19 : decode cX3_derive 19 = .ok (.invokevirtual 37, 3) := by decide +kernel
theorem dX3_derive_22 : decode cX3_derive 22 = .ok (.aload_n 0, 1) := by decide +kernel
theorem dX3_derive_23 : decode cX3_derive 23 = .ok (.getfield 21, 3) := by decide +kernel
theorem dX3_derive_26 : decode cX3_derive 26 = .ok (.aload_n 0, 1) := by decide +kernel
theorem dX3_derive_27 : decode cX3_derive 27 = .ok (.getfield 9, 3) := by decide +kernel
theorem dX3_derive_30 : decode cX3_derive 30 = .ok (.aload_n 0, 1) := by decide +kernel
theorem dX3_derive_31 : decode cX3_derive 31 = .ok (.getfield 15, 3) := by decide +kernel
theorem dX3_derive_34 : decode cX3_derive 34 = .ok (.invokevirtual 52, 3) := by decide +kernel
theorem dX3_derive_37 : decode cX3_derive 37 = .ok (.return_, 1) := by decide +kernel
theorem dX3_findMark_0 : decode cX3_findMark 0 = .ok (.aload_n 0, 1) := by decide +kernel
theorem dX3_findMark_1 : decode cX3_findMark 1 = .ok (.getfield 21, 3) := by decide +kernel
theorem dX3_findMark_4 : decode cX3_findMark 4 = .ok (.aload_n 0, 1) := by decide +kernel
theorem dX3_findMark_5 : decode cX3_findMark 5 = .ok (.getfield 15, 3) := by decide +kernel
theorem dX3_findMark_8 : decode cX3_findMark 8 = .ok (.invokevirtual 48, 3) := by decide +kernel
theorem dX3_findMark_11 : decode cX3_findMark 11 = .ok (.aload_n 1, 1) := by decide +kernel
theorem dX3_findMark_12 : decode cX3_findMark 12 = .ok (.iload_n 2, 1) := by decide +kernel
theorem dX3_findMark_13 : decode cX3_findMark 13 = .ok (.invokevirtual 44, 3) := by decide +kernel
theorem dX3_findMark_16 : decode cX3_findMark 16 = .ok (.aload_n 0, 1) := by decide +kernel
theorem dX3_findMark_17 : decode cX3_findMark 17 = .ok (.getfield 21, 3) := by decide +kernel
theorem dX3_findMark_20 : decode cX3_findMark 20 = .ok (.aload_n 0, 1) := by decide +kernel
theorem dX3_findMark_21 : decode cX3_findMark 21 = .ok (.getfield 15, 3) := by decide +kernel
theorem dX3_findMark_24 : decode cX3_findMark 24 = .ok (.aload_n 0, 1) := by decide +kernel
theorem dX3_findMark_25 : decode cX3_findMark 25 = .ok (.getfield 18, 3) := by decide +kernel
theorem dX3_findMark_28 : decode cX3_findMark 28 = .ok (.invokevirtual 52, 3) := by decide +kernel
theorem dX3_findMark_31 : decode cX3_findMark 31 = .ok (.return_, 1) := by decide +kernel
theorem dX3_cover_0 : decode cX3_cover 0 = .ok (.bipush 36, 2) := by decide +kernel
theorem dX3_cover_2 : decode cX3_cover 2 = .ok (.istore_n 3, 1) := by decide +kernel
theorem dX3_cover_3 : decode cX3_cover 3 = .ok (.iload_n 3, 1) := by decide +kernel
theorem dX3_cover_4 : decode cX3_cover 4 = .ok (.iload_n 2, 1) := by decide +kernel
theorem dX3_cover_5 : decode cX3_cover 5 = .ok (.if_icmp .ge 81, 3) := by decide +kernel
theorem dX3_cover_8 : decode cX3_cover 8 = .ok (.iload_n 3, 1) := by decide +kernel
theorem dX3_cover_9 : decode cX3_cover 9 = .ok (.bipush 36, 2) := by decide +kernel
theorem dX3_cover_11 : decode cX3_cover 11 = .ok (.isub, 1) := by decide +kernel
theorem dX3_cover_12 : decode cX3_cover 12 = .ok (.istore 4, 2) := by decide +kernel
theorem dX3_cover_14 : decode cX3_cover 14 = .ok (.iload 4, 2) := by decide +kernel
theorem dX3_cover_16 : decode cX3_cover 16 = .ok (.bipush 32, 2) := by decide +kernel
theorem dX3_cover_18 : decode cX3_cover 18 = .ok (.irem, 1) := by decide +kernel
theorem dX3_cover_19 : decode cX3_cover 19 = .ok (.ifCond .ne 44, 3) := by decide +kernel
theorem dX3_cover_22 : decode cX3_cover 22 = .ok (.aload_n 0, 1) := by decide +kernel
theorem dX3_cover_23 : decode cX3_cover 23 = .ok (.getfield 21, 3) := by decide +kernel
theorem dX3_cover_26 : decode cX3_cover 26 = .ok (.invokevirtual 25, 3) := by decide +kernel
theorem dX3_cover_29 : decode cX3_cover 29 = .ok (.astore 5, 2) := by decide +kernel
theorem dX3_cover_31 : decode cX3_cover 31 = .ok (.aload 5, 2) := by decide +kernel
theorem dX3_cover_33 : decode cX3_cover 33 = .ok (.aload_n 0, 1) := by decide +kernel
theorem dX3_cover_34 : decode cX3_cover 34 = .ok (.getfield 15, 3) := by decide +kernel
theorem dX3_cover_37 : decode cX3_cover 37 = .ok (.bipush 32, 2) := by decide +kernel
theorem dX3_cover_39 : decode cX3_cover 39 = .ok (.invokevirtual 44, 3) := by decide +kernel
theorem dX3_cover_42 : decode cX3_cover 42 = .ok (.aload 5, 2) := by decide +kernel
theorem dX3_cover_44 : decode cX3_cover 44 = .ok (.iload 4, 2) := by decide +kernel
theorem dX3_cover_46 : decode cX3_cover 46 = .ok (.bipush 32, 2) := by decide +kernel
theorem dX3_cover_48 : decode cX3_cover 48 = .ok (.idiv, 1) := by decide +kernel
theorem dX3_cover_49 : decode cX3_cover 49 = .ok (.invokevirtual 31, 3) := by decide +kernel
theorem dX3_cover_52 : decode cX3_cover 52 = .ok (.aload_n 0, 1) := by decide +kernel
theorem dX3_cover_53 : decode cX3_cover 53 = .ok (.getfield 21, 3) := by decide +kernel
theorem dX3_cover_56 : decode cX3_cover 56 = .ok (.aload_n 0, 1) := by decide +kernel
theorem dX3_cover_57 : decode cX3_cover 57 = .ok (.getfield 18, 3) := by decide +kernel
theorem dX3_cover_60 : decode cX3_cover 60 = .ok (.invokevirtual 40, 3) := by decide +kernel
theorem dX3_cover_63 : decode cX3_cover 63 = .ok (.aload_n 1, 1) := by decide +kernel
theorem dX3_cover_64 : decode cX3_cover 64 = .ok (.iload_n 3, 1) := by decide +kernel
theorem dX3_cover_65 : decode cX3_cover 65 = .ok (.dup2, 1) := by decide +kernel
theorem dX3_cover_66 : decode cX3_cover 66 = .ok (.baload, 1) := by decide +kernel
theorem dX3_cover_67 : decode cX3_cover 67 = .ok (.aload_n 0, 1) := by decide +kernel
theorem dX3_cover_68 : decode cX3_cover 68 = .ok (.getfield 18, 3) := by decide +kernel
theorem dX3_cover_71 : decode cX3_cover 71 = .ok (.iload 4, 2) := by decide +kernel
theorem dX3_cover_73 : decode cX3_cover 73 = .ok (.bipush 32, 2) := by decide +kernel
theorem dX3_cover_75 : decode cX3_cover 75 = .ok (.irem, 1) := by decide +kernel
theorem dX3_cover_76 : decode cX3_cover 76 = .ok (.baload, 1) := by decide +kernel
theorem dX3_cover_77 : decode cX3_cover 77 = .ok (.ixor, 1) := by decide +kernel
theorem dX3_cover_78 : decode cX3_cover 78 = .ok (.i2b, 1) := by decide +kernel
theorem dX3_cover_79 : decode cX3_cover 79 = .ok (.bastore, 1) := by decide +kernel
theorem dX3_cover_80 : decode cX3_cover 80 = .ok (.iinc 3 1, 3) := by decide +kernel
theorem dX3_cover_83 : decode cX3_cover 83 = .ok (.goto (-80), 3) := by decide +kernel
theorem dX3_cover_86 : decode cX3_cover 86 = .ok (.return_, 1) := by decide +kernel
theorem dX4_init_0 : decode cX4_init 0 = .ok (.aload_n 0, 1) := by decide +kernel
theorem dX4_init_1 : decode cX4_init 1 = .ok (.invokespecial 3, 3) := by decide +kernel
theorem dX4_init_4 : decode cX4_init 4 = .ok (.aload_n 0, 1) := by decide +kernel
theorem dX4_init_5 : decode cX4_init 5 = .ok (.bipush 32, 2) := by decide +kernel
theorem dX4_init_7 : decode cX4_init 7 = .ok (.newarray .byte, 2) := by decide +kernel
theorem dX4_init_9 : decode cX4_init 9 = .ok (.putfield 9, 3) := by decide +kernel
theorem dX4_init_12 : decode cX4_init 12 = .ok (.return_, 1) := by decide +kernel
theorem dX4_begin_0 : decode cX4_begin 0 = .ok (.aload_n 0, 1) := by decide +kernel
theorem dX4_begin_1 : decode cX4_begin 1 = .ok (.getfield 9, 3) := by decide +kernel
theorem dX4_begin_4 : decode cX4_begin 4 = .ok (.iconst 0, 1) := by decide +kernel
theorem dX4_begin_5 : decode cX4_begin 5 = .ok (.invokestatic 15, 3) := by decide +kernel
theorem dX4_begin_8 : decode cX4_begin 8 = .ok (.aload_n 0, 1) := by decide +kernel
theorem dX4_begin_9 : decode cX4_begin 9 = .ok (.iconst 1, 1) := by decide +kernel
theorem dX4_begin_10 : decode cX4_begin 10 = .ok (.putfield 21, 3) := by decide +kernel
theorem dX4_begin_13 : decode cX4_begin 13 = .ok (.aload_n 0, 1) := by decide +kernel
theorem dX4_begin_14 : decode cX4_begin 14 = .ok (.iconst 0, 1) := by decide +kernel
theorem dX4_begin_15 : decode cX4_begin 15 = .ok (.putfield 25, 3) := by decide +kernel
theorem dX4_begin_18 : decode cX4_begin 18 = .ok (.aload_n 0, 1) := by decide +kernel
theorem dX4_begin_19 : decode cX4_begin 19 = .ok (.iconst 0, 1) := by decide +kernel
theorem dX4_begin_20 : decode cX4_begin 20 = .ok (.putfield 28, 3) := by decide +kernel
theorem dX4_begin_23 : decode cX4_begin 23 = .ok (.aload_n 0, 1) := by decide +kernel
theorem dX4_begin_24 : decode cX4_begin 24 = .ok (.iconst 0, 1) := by decide +kernel
theorem dX4_begin_25 : decode cX4_begin 25 = .ok (.putfield 32, 3) := by decide +kernel
theorem dX4_begin_28 : decode cX4_begin 28 = .ok (.aload_n 0, 1) := by decide +kernel
theorem dX4_begin_29 : decode cX4_begin 29 = .ok (.iconst 0, 1) := by decide +kernel
theorem dX4_begin_30 : decode cX4_begin 30 = .ok (.putfield 35, 3) := by decide +kernel
theorem dX4_begin_33 : decode cX4_begin 33 = .ok (.return_, 1) := by decide +kernel
theorem dX4_startStep_0 : decode cX4_startStep 0 = .ok (.aload_n 1, 1) := by decide +kernel
theorem dX4_startStep_1 : decode cX4_startStep 1 = .ok (.invokevirtual 38, 3) := by decide +kernel
theorem dX4_startStep_4 : decode cX4_startStep 4 = .ok (.astore_n 3, 1) := by decide +kernel
theorem dX4_startStep_5 : decode cX4_startStep 5 = .ok (.aload_n 3, 1) := by decide +kernel
theorem dX4_startStep_6 : decode cX4_startStep 6 = .ok (.aload_n 0, 1) := by decide +kernel
theorem dX4_startStep_7 : decode cX4_startStep 7 = .ok (.getfield 9, 3) := by decide +kernel
theorem dX4_startStep_10 : decode cX4_startStep 10 = .ok (.bipush 32, 2) := by decide +kernel
theorem dX4_startStep_12 : decode cX4_startStep 12 = .ok (.invokevirtual 44, 3) := by decide +kernel
theorem dX4_startStep_15 : decode cX4_startStep 15 = .ok (.aload_n 3, 1) := by decide +kernel
theorem dX4_startStep_16 : decode cX4_startStep 16 = .ok (.iload_n 2, 1) := by decide +kernel
theorem dX4_startStep_17 : decode cX4_startStep 17 = .ok (.invokevirtual 50, 3) := by decide +kernel
theorem dX4_startStep_20 : decode cX4_startStep 20 = .ok (.aload_n 3, 1) := by decide +kernel
theorem dX4_startStep_21 : decode cX4_startStep 21 = .ok (.areturn, 1) := by decide +kernel
