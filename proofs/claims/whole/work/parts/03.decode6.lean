theorem dX8_write_0 : decode cX8_write 0 = .ok (.aload_n 0, 1) := by decide +kernel
theorem dX8_write_1 : decode cX8_write 1 = .ok (.getfield 137, 3) := by decide +kernel
theorem dX8_write_4 : decode cX8_write 4 = .ok (.istore 4, 2) := by decide +kernel
theorem dX8_write_6 : decode cX8_write 6 = .ok (.aload_n 0, 1) := by decide +kernel
theorem dX8_write_7 : decode cX8_write 7 = .ok (.iconst 0, 1) := by decide +kernel
theorem dX8_write_8 : decode cX8_write 8 = .ok (.putfield 137, 3) := by decide +kernel
theorem dX8_write_11 : decode cX8_write 11 = .ok (.aload_n 0, 1) := by decide +kernel
theorem dX8_write_12 : decode cX8_write 12 = .ok (.iload_n 1, 1) := by decide +kernel
theorem dX8_write_13 : decode cX8_write 13 = .ok (.iconst 0, 1) := by decide +kernel
theorem dX8_write_14 : decode cX8_write 14 = .ok (.invokevirtual 228, 3) := by decide +kernel
theorem dX8_write_17 : decode cX8_write 17 = .ok (.istore 5, 2) := by decide +kernel
theorem dX8_write_19 : decode cX8_write 19 = .ok (.iload 5, 2) := by decide +kernel
theorem dX8_write_21 : decode cX8_write 21 = .ok (.ifCond .ge 6, 3) := by decide +kernel
theorem dX8_write_24 : decode cX8_write 24 = .ok (.bipush (-2), 2) := by decide +kernel
theorem dX8_write_26 : decode cX8_write 26 = .ok (.ireturn, 1) := by decide +kernel
theorem dX8_write_27 : decode cX8_write 27 = .ok (.iload_n 2, 1) := by decide +kernel
theorem dX8_write_28 : decode cX8_write 28 = .ok (.ifCond .lt 17, 3) := by decide +kernel
theorem dX8_write_31 : decode cX8_write 31 = .ok (.iload_n 2, 1) := by decide +kernel
theorem dX8_write_32 : decode cX8_write 32 = .ok (.aload_n 0, 1) := by decide +kernel
theorem dX8_write_33 : decode cX8_write 33 = .ok (.getfield 85, 3) := by decide +kernel
theorem dX8_write_36 : decode cX8_write 36 = .ok (.iload 5, 2) := by decide +kernel
theorem dX8_write_38 : decode cX8_write 38 = .ok (.iaload, 1) := by decide +kernel
theorem dX8_write_39 : decode cX8_write 39 = .ok (.iload 4, 2) := by decide +kernel
theorem dX8_write_41 : decode cX8_write 41 = .ok (.isub, 1) := by decide +kernel
theorem dX8_write_42 : decode cX8_write 42 = .ok (.if_icmp .le 5, 3) := by decide +kernel
theorem dX8_write_45 : decode cX8_write 45 = .ok (.iconst (-1), 1) := by decide +kernel
theorem dX8_write_46 : decode cX8_write 46 = .ok (.ireturn, 1) := by decide +kernel
theorem dX8_write_47 : decode cX8_write 47 = .ok (.aload_n 0, 1) := by decide +kernel
theorem dX8_write_48 : decode cX8_write 48 = .ok (.getfield 94, 3) := by decide +kernel
theorem dX8_write_51 : decode cX8_write 51 = .ok (.iload 5, 2) := by decide +kernel
theorem dX8_write_53 : decode cX8_write 53 = .ok (.baload, 1) := by decide +kernel
theorem dX8_write_54 : decode cX8_write 54 = .ok (.ifCond .eq 6, 3) := by decide +kernel
theorem dX8_write_57 : decode cX8_write 57 = .ok (.bipush (-3), 2) := by decide +kernel
theorem dX8_write_59 : decode cX8_write 59 = .ok (.ireturn, 1) := by decide +kernel
theorem dX8_write_60 : decode cX8_write 60 = .ok (.aload_n 0, 1) := by decide +kernel
theorem dX8_write_61 : decode cX8_write 61 = .ok (.iload 5, 2) := by decide +kernel
theorem dX8_write_63 : decode cX8_write 63 = .ok (.iload_n 3, 1) := by decide +kernel
theorem dX8_write_64 : decode cX8_write 64 = .ok (.iconst 2, 1) := by decide +kernel
theorem dX8_write_65 : decode cX8_write 65 = .ok (.invokevirtual 217, 3) := by decide +kernel
theorem dX8_write_68 : decode cX8_write 68 = .ok (.istore 6, 2) := by decide +kernel
theorem dX8_write_70 : decode cX8_write 70 = .ok (.iload 6, 2) := by decide +kernel
theorem dX8_write_72 : decode cX8_write 72 = .ok (.ifCond .ge 6, 3) := by decide +kernel
theorem dX8_write_75 : decode cX8_write 75 = .ok (.iload 6, 2) := by decide +kernel
theorem dX8_write_77 : decode cX8_write 77 = .ok (.ireturn, 1) := by decide +kernel
theorem dX8_write_78 : decode cX8_write 78 = .ok (.iconst 0, 1) := by decide +kernel
theorem dX8_write_79 : decode cX8_write 79 = .ok (.istore 7, 2) := by decide +kernel
theorem dX8_write_81 : decode cX8_write 81 = .ok (.iload 7, 2) := by decide +kernel
theorem dX8_write_83 : decode cX8_write 83 = .ok (.iload 4, 2) := by decide +kernel
theorem dX8_write_85 : decode cX8_write 85 = .ok (.if_icmp .ge 32, 3) := by decide +kernel
theorem dX8_write_88 : decode cX8_write 88 = .ok (.aload_n 0, 1) := by decide +kernel
theorem dX8_write_89 : decode cX8_write 89 = .ok (.getfield 82, 3) := by decide +kernel
theorem dX8_write_92 : decode cX8_write 92 = .ok (.sipush 128, 3) := by decide +kernel
theorem dX8_write_95 : decode cX8_write 95 = .ok (.iload 5, 2) := by decide +kernel
theorem dX8_write_97 : decode cX8_write 97 = .ok (.imul, 1) := by decide +kernel
theorem dX8_write_98 : decode cX8_write 98 = .ok (.iload_n 2, 1) := by decide +kernel
theorem dX8_write_99 : decode cX8_write 99 = .ok (.iadd, 1) := by decide +kernel
theorem dX8_write_100 : decode cX8_write 100 = .ok (.iload 7, 2) := by decide +kernel
theorem dX8_write_102 : decode cX8_write 102 = .ok (.iadd, 1) := by decide +kernel
theorem dX8_write_103 : decode cX8_write 103 = .ok (.aload_n 0, 1) := by decide +kernel
theorem dX8_write_104 : decode cX8_write 104 = .ok (.getfield 9, 3) := by decide +kernel
theorem dX8_write_107 : decode cX8_write 107 = .ok (.iload 7, 2) := by decide +kernel
theorem dX8_write_109 : decode cX8_write 109 = .ok (.baload, 1) := by decide +kernel
theorem dX8_write_110 : decode cX8_write 110 = .ok (.bastore, 1) := by decide +kernel
theorem dX8_write_111 : decode cX8_write 111 = .ok (.iinc 7 1, 3) := by decide +kernel
theorem dX8_write_114 : decode cX8_write 114 = .ok (.goto (-33), 3) := by decide +kernel
theorem dX8_write_117 : decode cX8_write 117 = .ok (.aload_n 0, 1) := by decide +kernel
theorem dX8_write_118 : decode cX8_write 118 = .ok (.getfield 91, 3) := by decide +kernel
theorem dX8_write_121 : decode cX8_write 121 = .ok (.iload 5, 2) := by decide +kernel
theorem dX8_write_123 : decode cX8_write 123 = .ok (.iconst 1, 1) := by decide +kernel
theorem dX8_write_124 : decode cX8_write 124 = .ok (.bastore, 1) := by decide +kernel
theorem dX8_write_125 : decode cX8_write 125 = .ok (.iconst 0, 1) := by decide +kernel
theorem dX8_write_126 : decode cX8_write 126 = .ok (.ireturn, 1) := by decide +kernel
theorem dX8_count_0 : decode cX8_count 0 = .ok (.aload_n 0, 1) := by decide +kernel
theorem dX8_count_1 : decode cX8_count 1 = .ok (.iload_n 1, 1) := by decide +kernel
theorem dX8_count_2 : decode cX8_count 2 = .ok (.iconst 1, 1) := by decide +kernel
theorem dX8_count_3 : decode cX8_count 3 = .ok (.invokevirtual 228, 3) := by decide +kernel
theorem dX8_count_6 : decode cX8_count 6 = .ok (.istore_n 3, 1) := by decide +kernel
theorem dX8_count_7 : decode cX8_count 7 = .ok (.iload_n 3, 1) := by decide +kernel
theorem dX8_count_8 : decode cX8_count 8 = .ok (.ifCond .ge 6, 3) := by decide +kernel
theorem dX8_count_11 : decode cX8_count 11 = .ok (.bipush (-2), 2) := by decide +kernel
theorem dX8_count_13 : decode cX8_count 13 = .ok (.ireturn, 1) := by decide +kernel
theorem dX8_count_14 : decode cX8_count 14 = .ok (.aload_n 0, 1) := by decide +kernel
theorem dX8_count_15 : decode cX8_count 15 = .ok (.getfield 94, 3) := by decide +kernel
theorem dX8_count_18 : decode cX8_count 18 = .ok (.iload_n 3, 1) := by decide +kernel
theorem dX8_count_19 : decode cX8_count 19 = .ok (.baload, 1) := by decide +kernel
theorem dX8_count_20 : decode cX8_count 20 = .ok (.ifCond .eq 6, 3) := by decide +kernel
theorem dX8_count_23 : decode cX8_count 23 = .ok (.bipush (-3), 2) := by decide +kernel
theorem dX8_count_25 : decode cX8_count 25 = .ok (.ireturn, 1) := by decide +kernel
theorem dX8_count_26 : decode cX8_count 26 = .ok (.aload_n 0, 1) := by decide +kernel
theorem dX8_count_27 : decode cX8_count 27 = .ok (.iload_n 3, 1) := by decide +kernel
theorem dX8_count_28 : decode cX8_count 28 = .ok (.iload_n 2, 1) := by decide +kernel
theorem dX8_count_29 : decode cX8_count 29 = .ok (.iconst 3, 1) := by decide +kernel
theorem dX8_count_30 : decode cX8_count 30 = .ok (.invokevirtual 217, 3) := by decide +kernel
theorem dX8_count_33 : decode cX8_count 33 = .ok (.istore 4, 2) := by decide +kernel
theorem dX8_count_35 : decode cX8_count 35 = .ok (.iload 4, 2) := by decide +kernel
theorem dX8_count_37 : decode cX8_count 37 = .ok (.ifCond .ge 6, 3) := by decide +kernel
theorem dX8_count_40 : decode cX8_count 40 = .ok (.iload 4, 2) := by decide +kernel
theorem dX8_count_42 : decode cX8_count 42 = .ok (.ireturn, 1) := by decide +kernel
theorem dX8_count_43 : decode cX8_count 43 = .ok (.lconst 0, 1) := by decide +kernel
theorem dX8_count_44 : decode cX8_count 44 = .ok (.lstore 5, 2) := by decide +kernel
theorem dX8_count_46 : decode cX8_count 46 = .ok (.iconst 0, 1) := by decide +kernel
theorem dX8_count_47 : decode cX8_count 47 = .ok (.istore 7, 2) := by decide +kernel
theorem dX8_count_49 : decode cX8_count 49 = .ok (.iload 7, 2) := by decide +kernel
theorem dX8_count_51 : decode cX8_count 51 = .ok (.bipush 8, 2) := by decide +kernel
theorem dX8_count_53 : decode cX8_count 53 = .ok (.if_icmp .ge 35, 3) := by decide +kernel
theorem dX8_count_56 : decode cX8_count 56 = .ok (.lload 5, 2) := by decide +kernel
theorem dX8_count_58 : decode cX8_count 58 = .ok (.bipush 8, 2) := by decide +kernel
theorem dX8_count_60 : decode cX8_count 60 = .ok (.lshl, 1) := by decide +kernel
theorem dX8_count_61 : decode cX8_count 61 = .ok (.aload_n 0, 1) := by decide +kernel
theorem dX8_count_62 : decode cX8_count 62 = .ok (.getfield 82, 3) := by decide +kernel
theorem dX8_count_65 : decode cX8_count 65 = .ok (.sipush 128, 3) := by decide +kernel
theorem dX8_count_68 : decode cX8_count 68 = .ok (.iload_n 3, 1) := by decide +kernel
theorem dX8_count_69 : decode cX8_count 69 = .ok (.imul, 1) := by decide +kernel
theorem dX8_count_70 : decode cX8_count 70 = .ok (.iload 7, 2) := by decide +kernel
theorem dX8_count_72 : decode cX8_count 72 = .ok (.iadd, 1) := by decide +kernel
theorem dX8_count_73 : decode cX8_count 73 = .ok (.baload, 1) := by decide +kernel
theorem dX8_count_74 : decode cX8_count 74 = .ok (.sipush 255, 3) := by decide +kernel
theorem dX8_count_77 : decode cX8_count 77 = .ok (.iand, 1) := by decide +kernel
theorem dX8_count_78 : decode cX8_count 78 = .ok (.i2l, 1) := by decide +kernel
theorem dX8_count_79 : decode cX8_count 79 = .ok (.lor, 1) := by decide +kernel
theorem dX8_count_80 : decode cX8_count 80 = .ok (.lstore 5, 2) := by decide +kernel
theorem dX8_count_82 : decode cX8_count 82 = .ok (.iinc 7 1, 3) := by decide +kernel
theorem dX8_count_85 : decode cX8_count 85 = .ok (.goto (-36), 3) := by decide +kernel
theorem dX8_count_88 : decode cX8_count 88 = .ok (.aload_n 0, 1) := by decide +kernel
theorem dX8_count_89 : decode cX8_count 89 = .ok (.getfield 91, 3) := by decide +kernel
theorem dX8_count_92 : decode cX8_count 92 = .ok (.iload_n 3, 1) := by decide +kernel
theorem dX8_count_93 : decode cX8_count 93 = .ok (.baload, 1) := by decide +kernel
theorem dX8_count_94 : decode cX8_count 94 = .ok (.ifCond .eq 8, 3) := by decide +kernel
theorem dX8_count_97 : decode cX8_count 97 = .ok (.lload 5, 2) := by decide +kernel
theorem dX8_count_99 : decode cX8_count 99 = .ok (.goto 7, 3) := by decide +kernel
theorem dX8_count_102 : decode cX8_count 102 = .ok (.aload_n 0, 1) := by decide +kernel
theorem dX8_count_103 : decode cX8_count 103 = .ok (.getfield 232, 3) := by decide +kernel
theorem dX8_count_106 : decode cX8_count 106 = .ok (.lconst 1, 1) := by decide +kernel
theorem dX8_count_107 : decode cX8_count 107 = .ok (.ladd, 1) := by decide +kernel
theorem dX8_count_108 : decode cX8_count 108 = .ok (.lstore 5, 2) := by decide +kernel
theorem dX8_count_110 : decode cX8_count 110 = .ok (.lload 5, 2) := by decide +kernel
theorem dX8_count_112 : decode cX8_count 112 = .ok (.aload_n 0, 1) := by decide +kernel
theorem dX8_count_113 : decode cX8_count 113 = .ok (.getfield 232, 3) := by decide +kernel
theorem dX8_count_116 : decode cX8_count 116 = .ok (.lcmp, 1) := by decide +kernel
theorem dX8_count_117 : decode cX8_count 117 = .ok (.ifCond .le 9, 3) := by decide +kernel
theorem dX8_count_120 : decode cX8_count 120 = .ok (.aload_n 0, 1) := by decide +kernel
theorem dX8_count_121 : decode cX8_count 121 = .ok (.lload 5, 2) := by decide +kernel
theorem dX8_count_123 : decode cX8_count 123 = .ok (.putfield 232, 3) := by decide +kernel
theorem dX8_count_126 : decode cX8_count 126 = .ok (.aload_n 0, 1) := by decide +kernel
theorem dX8_count_127 : decode cX8_count 127 = .ok (.getfield 91, 3) := by decide +kernel
theorem dX8_count_130 : decode cX8_count 130 = .ok (.iload_n 3, 1) := by decide +kernel
theorem dX8_count_131 : decode cX8_count 131 = .ok (.iconst 1, 1) := by decide +kernel
theorem dX8_count_132 : decode cX8_count 132 = .ok (.bastore, 1) := by decide +kernel
theorem dX8_count_133 : decode cX8_count 133 = .ok (.iconst 0, 1) := by decide +kernel
theorem dX8_count_134 : decode cX8_count 134 = .ok (.istore 7, 2) := by decide +kernel
theorem dX8_count_136 : decode cX8_count 136 = .ok (.iload 7, 2) := by decide +kernel
theorem dX8_count_138 : decode cX8_count 138 = .ok (.bipush 8, 2) := by decide +kernel
theorem dX8_count_140 : decode cX8_count 140 = .ok (.if_icmp .ge 35, 3) := by decide +kernel
theorem dX8_count_143 : decode cX8_count 143 = .ok (.aload_n 0, 1) := by decide +kernel
theorem dX8_count_144 : decode cX8_count 144 = .ok (.getfield 82, 3) := by decide +kernel
theorem dX8_count_147 : decode cX8_count 147 = .ok (.sipush 128, 3) := by decide +kernel
theorem dX8_count_150 : decode cX8_count 150 = .ok (.iload_n 3, 1) := by decide +kernel
theorem dX8_count_151 : decode cX8_count 151 = .ok (.imul, 1) := by decide +kernel
theorem dX8_count_152 : decode cX8_count 152 = .ok (.iload 7, 2) := by decide +kernel
theorem dX8_count_154 : decode cX8_count 154 = .ok (.iadd, 1) := by decide +kernel
theorem dX8_count_155 : decode cX8_count 155 = .ok (.lload 5, 2) := by decide +kernel
theorem dX8_count_157 : decode cX8_count 157 = .ok (.bipush 56, 2) := by decide +kernel
theorem dX8_count_159 : decode cX8_count 159 = .ok (.bipush 8, 2) := by decide +kernel
theorem dX8_count_161 : decode cX8_count 161 = .ok (.iload 7, 2) := by decide +kernel
theorem dX8_count_163 : decode cX8_count 163 = .ok (.imul, 1) := by decide +kernel
theorem dX8_count_164 : decode cX8_count 164 = .ok (.isub, 1) := by decide +kernel
theorem dX8_count_165 : decode cX8_count 165 = .ok (.lshr, 1) := by decide +kernel
theorem dX8_count_166 : decode cX8_count 166 = .ok (.l2i, 1) := by decide +kernel
theorem dX8_count_167 : decode cX8_count 167 = .ok (.i2b, 1) := by decide +kernel
theorem dX8_count_168 : decode cX8_count 168 = .ok (.bastore, 1) := by decide +kernel
theorem dX8_count_169 : decode cX8_count 169 = .ok (.iinc 7 1, 3) := by decide +kernel
theorem dX8_count_172 : decode cX8_count 172 = .ok (.goto (-36), 3) := by decide +kernel
theorem dX8_count_175 : decode cX8_count 175 = .ok (.lload 5, 2) := by decide +kernel
theorem dX8_count_177 : decode cX8_count 177 = .ok (.ldc2_w 238, 3) := by decide +kernel
theorem dX8_count_180 : decode cX8_count 180 = .ok (.land, 1) := by decide +kernel
theorem dX8_count_181 : decode cX8_count 181 = .ok (.l2i, 1) := by decide +kernel
theorem dX8_count_182 : decode cX8_count 182 = .ok (.ireturn, 1) := by decide +kernel
theorem dX8_chain_0 : decode cX8_chain 0 = .ok (.aload_n 0, 1) := by decide +kernel
theorem dX8_chain_1 : decode cX8_chain 1 = .ok (.getfield 137, 3) := by decide +kernel
theorem dX8_chain_4 : decode cX8_chain 4 = .ok (.istore_n 3, 1) := by decide +kernel
theorem dX8_chain_5 : decode cX8_chain 5 = .ok (.aload_n 0, 1) := by decide +kernel
theorem dX8_chain_6 : decode cX8_chain 6 = .ok (.iconst 0, 1) := by decide +kernel
theorem dX8_chain_7 : decode cX8_chain 7 = .ok (.putfield 137, 3) := by decide +kernel
theorem dX8_chain_10 : decode cX8_chain 10 = .ok (.aload_n 0, 1) := by decide +kernel
theorem dX8_chain_11 : decode cX8_chain 11 = .ok (.iload_n 1, 1) := by decide +kernel
theorem dX8_chain_12 : decode cX8_chain 12 = .ok (.iconst 2, 1) := by decide +kernel
theorem dX8_chain_13 : decode cX8_chain 13 = .ok (.invokevirtual 228, 3) := by decide +kernel
theorem dX8_chain_16 : decode cX8_chain 16 = .ok (.istore 4, 2) := by decide +kernel
theorem dX8_chain_18 : decode cX8_chain 18 = .ok (.iload 4, 2) := by decide +kernel
theorem dX8_chain_20 : decode cX8_chain 20 = .ok (.ifCond .ge 6, 3) := by decide +kernel
theorem dX8_chain_23 : decode cX8_chain 23 = .ok (.bipush (-2), 2) := by decide +kernel
theorem dX8_chain_25 : decode cX8_chain 25 = .ok (.ireturn, 1) := by decide +kernel
theorem dX8_chain_26 : decode cX8_chain 26 = .ok (.aload_n 0, 1) := by decide +kernel
theorem dX8_chain_27 : decode cX8_chain 27 = .ok (.getfield 94, 3) := by decide +kernel
theorem dX8_chain_30 : decode cX8_chain 30 = .ok (.iload 4, 2) := by decide +kernel
theorem dX8_chain_32 : decode cX8_chain 32 = .ok (.baload, 1) := by decide +kernel
theorem dX8_chain_33 : decode cX8_chain 33 = .ok (.ifCond .eq 6, 3) := by decide +kernel
theorem dX8_chain_36 : decode cX8_chain 36 = .ok (.bipush (-3), 2) := by decide +kernel
theorem dX8_chain_38 : decode cX8_chain 38 = .ok (.ireturn, 1) := by decide +kernel
theorem dX8_chain_39 : decode cX8_chain 39 = .ok (.aload_n 0, 1) := by decide +kernel
theorem dX8_chain_40 : decode cX8_chain 40 = .ok (.iload 4, 2) := by decide +kernel
theorem dX8_chain_42 : decode cX8_chain 42 = .ok (.iload_n 2, 1) := by decide +kernel
theorem dX8_chain_43 : decode cX8_chain 43 = .ok (.iconst 4, 1) := by decide +kernel
theorem dX8_chain_44 : decode cX8_chain 44 = .ok (.invokevirtual 217, 3) := by decide +kernel
theorem dX8_chain_47 : decode cX8_chain 47 = .ok (.istore 5, 2) := by decide +kernel
theorem dX8_chain_49 : decode cX8_chain 49 = .ok (.iload 5, 2) := by decide +kernel
theorem dX8_chain_51 : decode cX8_chain 51 = .ok (.ifCond .ge 6, 3) := by decide +kernel
theorem dX8_chain_54 : decode cX8_chain 54 = .ok (.iload 5, 2) := by decide +kernel
theorem dX8_chain_56 : decode cX8_chain 56 = .ok (.ireturn, 1) := by decide +kernel
theorem dX8_chain_57 : decode cX8_chain 57 = .ok (.aload_n 0, 1) := by decide +kernel
theorem dX8_chain_58 : decode cX8_chain 58 = .ok (.iconst 0, 1) := by decide +kernel
theorem dX8_chain_59 : decode cX8_chain 59 = .ok (.putfield 100, 3) := by decide +kernel
theorem dX8_chain_62 : decode cX8_chain 62 = .ok (.aload_n 0, 1) := by decide +kernel
theorem dX8_chain_63 : decode cX8_chain 63 = .ok (.aload_n 0, 1) := by decide +kernel
theorem dX8_chain_64 : decode cX8_chain 64 = .ok (.getfield 82, 3) := by decide +kernel
theorem dX8_chain_67 : decode cX8_chain 67 = .ok (.sipush 128, 3) := by decide +kernel
theorem dX8_chain_70 : decode cX8_chain 70 = .ok (.iload 4, 2) := by decide +kernel
theorem dX8_chain_72 : decode cX8_chain 72 = .ok (.imul, 1) := by decide +kernel
theorem dX8_chain_73 : decode cX8_chain 73 = .ok (.bipush 32, 2) := by decide +kernel
theorem dX8_chain_75 : decode cX8_chain 75 = .ok (.invokevirtual 134, 3) := by decide +kernel
theorem dX8_chain_78 : decode cX8_chain 78 = .ok (.aload_n 0, 1) := by decide +kernel
theorem dX8_chain_79 : decode cX8_chain 79 = .ok (.aload_n 0, 1) := by decide +kernel
theorem dX8_chain_80 : decode cX8_chain 80 = .ok (.getfield 9, 3) := by decide +kernel
theorem dX8_chain_83 : decode cX8_chain 83 = .ok (.iconst 0, 1) := by decide +kernel
theorem dX8_chain_84 : decode cX8_chain 84 = .ok (.iload_n 3, 1) := by decide +kernel
theorem dX8_chain_85 : decode cX8_chain 85 = .ok (.invokevirtual 134, 3) := by decide +kernel
theorem dX8_chain_88 : decode cX8_chain 88 = .ok (.aload_n 0, 1) := by decide +kernel
theorem dX8_chain_89 : decode cX8_chain 89 = .ok (.aload_n 0, 1) := by decide +kernel
theorem dX8_chain_90 : decode cX8_chain 90 = .ok (.getfield 82, 3) := by decide +kernel
theorem dX8_chain_93 : decode cX8_chain 93 = .ok (.sipush 128, 3) := by decide +kernel
theorem dX8_chain_96 : decode cX8_chain 96 = .ok (.iload 4, 2) := by decide +kernel
theorem dX8_chain_98 : decode cX8_chain 98 = .ok (.imul, 1) := by decide +kernel
theorem dX8_chain_99 : decode cX8_chain 99 = .ok (.invokevirtual 111, 3) := by decide +kernel
theorem dX8_chain_102 : decode cX8_chain 102 = .ok (.aload_n 0, 1) := by decide +kernel
theorem dX8_chain_103 : decode cX8_chain 103 = .ok (.getfield 91, 3) := by decide +kernel
theorem dX8_chain_106 : decode cX8_chain 106 = .ok (.iload 4, 2) := by decide +kernel
theorem dX8_chain_108 : decode cX8_chain 108 = .ok (.iconst 1, 1) := by decide +kernel
theorem dX8_chain_109 : decode cX8_chain 109 = .ok (.bastore, 1) := by decide +kernel
theorem dX8_chain_110 : decode cX8_chain 110 = .ok (.iconst 0, 1) := by decide +kernel
theorem dX8_chain_111 : decode cX8_chain 111 = .ok (.ireturn, 1) := by decide +kernel
theorem dX8_read_0 : decode cX8_read 0 = .ok (.aload_n 0, 1) := by decide +kernel
theorem dX8_read_1 : decode cX8_read 1 = .ok (.iload_n 1, 1) := by decide +kernel
theorem dX8_read_2 : decode cX8_read 2 = .ok (.iconst (-1), 1) := by decide +kernel
theorem dX8_read_3 : decode cX8_read 3 = .ok (.invokevirtual 228, 3) := by decide +kernel
theorem dX8_read_6 : decode cX8_read 6 = .ok (.istore_n 3, 1) := by decide +kernel
theorem dX8_read_7 : decode cX8_read 7 = .ok (.iload_n 3, 1) := by decide +kernel
theorem dX8_read_8 : decode cX8_read 8 = .ok (.ifCond .ge 6, 3) := by decide +kernel
theorem dX8_read_11 : decode cX8_read 11 = .ok (.bipush (-2), 2) := by decide +kernel
theorem dX8_read_13 : decode cX8_read 13 = .ok (.ireturn, 1) := by decide +kernel
theorem dX8_read_14 : decode cX8_read 14 = .ok (.aload_n 0, 1) := by decide +kernel
theorem dX8_read_15 : decode cX8_read 15 = .ok (.getfield 91, 3) := by decide +kernel
theorem dX8_read_18 : decode cX8_read 18 = .ok (.iload_n 3, 1) := by decide +kernel
theorem dX8_read_19 : decode cX8_read 19 = .ok (.baload, 1) := by decide +kernel
theorem dX8_read_20 : decode cX8_read 20 = .ok (.ifCond .ne 6, 3) := by decide +kernel
theorem dX8_read_23 : decode cX8_read 23 = .ok (.bipush (-3), 2) := by decide +kernel
theorem dX8_read_25 : decode cX8_read 25 = .ok (.ireturn, 1) := by decide +kernel
theorem dX8_read_26 : decode cX8_read 26 = .ok (.aload_n 0, 1) := by decide +kernel
theorem dX8_read_27 : decode cX8_read 27 = .ok (.iload_n 3, 1) := by decide +kernel
theorem dX8_read_28 : decode cX8_read 28 = .ok (.iload_n 2, 1) := by decide +kernel
theorem dX8_read_29 : decode cX8_read 29 = .ok (.iconst 5, 1) := by decide +kernel
theorem dX8_read_30 : decode cX8_read 30 = .ok (.invokevirtual 217, 3) := by decide +kernel
theorem dX8_read_33 : decode cX8_read 33 = .ok (.istore 4, 2) := by decide +kernel
theorem dX8_read_35 : decode cX8_read 35 = .ok (.iload 4, 2) := by decide +kernel
theorem dX8_read_37 : decode cX8_read 37 = .ok (.ifCond .ge 8, 3) := by decide +kernel
theorem dX8_read_40 : decode cX8_read 40 = .ok (.iload 4, 2) := by decide +kernel
theorem dX8_read_42 : decode cX8_read 42 = .ok (.goto 8, 3) := by decide +kernel
theorem dX8_read_45 : decode cX8_read 45 = .ok (.aload_n 0, 1) := by decide +kernel
theorem dX8_read_46 : decode cX8_read 46 = .ok (.iload_n 3, 1) := by decide +kernel
theorem dX8_read_47 : decode cX8_read 47 = .ok (.invokevirtual 221, 3) := by decide +kernel
theorem dX8_read_50 : decode cX8_read 50 = .ok (.ireturn, 1) := by decide +kernel
theorem dX8_shut_0 : decode cX8_shut 0 = .ok (.aload_n 0, 1) := by decide +kernel
theorem dX8_shut_1 : decode cX8_shut 1 = .ok (.iload_n 1, 1) := by decide +kernel
theorem dX8_shut_2 : decode cX8_shut 2 = .ok (.iconst (-1), 1) := by decide +kernel
theorem dX8_shut_3 : decode cX8_shut 3 = .ok (.invokevirtual 228, 3) := by decide +kernel
theorem dX8_shut_6 : decode cX8_shut 6 = .ok (.istore_n 3, 1) := by decide +kernel
theorem dX8_shut_7 : decode cX8_shut 7 = .ok (.iload_n 3, 1) := by decide +kernel
theorem dX8_shut_8 : decode cX8_shut 8 = .ok (.ifCond .ge 6, 3) := by decide +kernel
theorem dX8_shut_11 : decode cX8_shut 11 = .ok (.bipush (-2), 2) := by decide +kernel
theorem dX8_shut_13 : decode cX8_shut 13 = .ok (.ireturn, 1) := by decide +kernel
theorem dX8_shut_14 : decode cX8_shut 14 = .ok (.aload_n 0, 1) := by decide +kernel
theorem dX8_shut_15 : decode cX8_shut 15 = .ok (.iload_n 3, 1) := by decide +kernel
theorem dX8_shut_16 : decode cX8_shut 16 = .ok (.iload_n 2, 1) := by decide +kernel
theorem dX8_shut_17 : decode cX8_shut 17 = .ok (.bipush 6, 2) := by decide +kernel
theorem dX8_shut_19 : decode cX8_shut 19 = .ok (.invokevirtual 217, 3) := by decide +kernel
theorem dX8_shut_22 : decode cX8_shut 22 = .ok (.istore 4, 2) := by decide +kernel
theorem dX8_shut_24 : decode cX8_shut 24 = .ok (.iload 4, 2) := by decide +kernel
theorem dX8_shut_26 : decode cX8_shut 26 = .ok (.ifCond .ne 10, 3) := by decide +kernel
theorem dX8_shut_29 : decode cX8_shut 29 = .ok (.aload_n 0, 1) := by decide +kernel
theorem dX8_shut_30 : decode cX8_shut 30 = .ok (.getfield 94, 3) := by decide +kernel
theorem dX8_shut_33 : decode cX8_shut 33 = .ok (.iload_n 3, 1) := by decide +kernel
theorem dX8_shut_34 : decode cX8_shut 34 = .ok (.iconst 1, 1) := by decide +kernel
theorem dX8_shut_35 : decode cX8_shut 35 = .ok (.bastore, 1) := by decide +kernel
theorem dX8_shut_36 : decode cX8_shut 36 = .ok (.iload 4, 2) := by decide +kernel
theorem dX8_shut_38 : decode cX8_shut 38 = .ok (.ireturn, 1) := by decide +kernel
theorem dX8_own_0 : decode cX8_own 0 = .ok (.aload_n 0, 1) := by decide +kernel
theorem dX8_own_1 : decode cX8_own 1 = .ok (.getfield 137, 3) := by decide +kernel
theorem dX8_own_4 : decode cX8_own 4 = .ok (.istore_n 1, 1) := by decide +kernel
theorem dX8_own_5 : decode cX8_own 5 = .ok (.aload_n 0, 1) := by decide +kernel
theorem dX8_own_6 : decode cX8_own 6 = .ok (.iconst 0, 1) := by decide +kernel
theorem dX8_own_7 : decode cX8_own 7 = .ok (.putfield 137, 3) := by decide +kernel
theorem dX8_own_10 : decode cX8_own 10 = .ok (.aload_n 0, 1) := by decide +kernel
theorem dX8_own_11 : decode cX8_own 11 = .ok (.invokevirtual 225, 3) := by decide +kernel
theorem dX8_own_14 : decode cX8_own 14 = .ok (.istore_n 2, 1) := by decide +kernel
theorem dX8_own_15 : decode cX8_own 15 = .ok (.iload_n 2, 1) := by decide +kernel
theorem dX8_own_16 : decode cX8_own 16 = .ok (.ifCond .ge 5, 3) := by decide +kernel
theorem dX8_own_19 : decode cX8_own 19 = .ok (.iload_n 2, 1) := by decide +kernel
theorem dX8_own_20 : decode cX8_own 20 = .ok (.ireturn, 1) := by decide +kernel
theorem dX8_own_21 : decode cX8_own 21 = .ok (.aload_n 0, 1) := by decide +kernel
theorem dX8_own_22 : decode cX8_own 22 = .ok (.iconst 0, 1) := by decide +kernel
theorem dX8_own_23 : decode cX8_own 23 = .ok (.putfield 100, 3) := by decide +kernel
theorem dX8_own_26 : decode cX8_own 26 = .ok (.aload_n 0, 1) := by decide +kernel
theorem dX8_own_27 : decode cX8_own 27 = .ok (.aload_n 0, 1) := by decide +kernel
theorem dX8_own_28 : decode cX8_own 28 = .ok (.getfield 9, 3) := by decide +kernel
theorem dX8_own_31 : decode cX8_own 31 = .ok (.iconst 0, 1) := by decide +kernel
theorem dX8_own_32 : decode cX8_own 32 = .ok (.iload_n 1, 1) := by decide +kernel
theorem dX8_own_33 : decode cX8_own 33 = .ok (.invokevirtual 134, 3) := by decide +kernel
theorem dX8_own_36 : decode cX8_own 36 = .ok (.aload_n 0, 1) := by decide +kernel
theorem dX8_own_37 : decode cX8_own 37 = .ok (.aload_n 0, 1) := by decide +kernel
theorem dX8_own_38 : decode cX8_own 38 = .ok (.getfield 41, 3) := by decide +kernel
theorem dX8_own_41 : decode cX8_own 41 = .ok (.iconst 0, 1) := by decide +kernel
theorem dX8_own_42 : decode cX8_own 42 = .ok (.invokevirtual 111, 3) := by decide +kernel
theorem dX8_own_45 : decode cX8_own 45 = .ok (.iconst 0, 1) := by decide +kernel
theorem dX8_own_46 : decode cX8_own 46 = .ok (.ireturn, 1) := by decide +kernel
theorem dX8_unlock_0 : decode cX8_unlock 0 = .ok (.aload_n 0, 1) := by decide +kernel
theorem dX8_unlock_1 : decode cX8_unlock 1 = .ok (.getfield 38, 3) := by decide +kernel
theorem dX8_unlock_4 : decode cX8_unlock 4 = .ok (.iconst 0, 1) := by decide +kernel
theorem dX8_unlock_5 : decode cX8_unlock 5 = .ok (.aload_n 0, 1) := by decide +kernel
theorem dX8_unlock_6 : decode cX8_unlock 6 = .ok (.getfield 41, 3) := by decide +kernel
theorem dX8_unlock_9 : decode cX8_unlock 9 = .ok (.iconst 0, 1) := by decide +kernel
theorem dX8_unlock_10 : decode cX8_unlock 10 = .ok (.invokestatic 189, 3) := by decide +kernel
theorem dX8_unlock_13 : decode cX8_unlock 13 = .ok (.ifCond .ne 16, 3) := by decide +kernel
theorem dX8_unlock_16 : decode cX8_unlock 16 = .ok (.aload_n 0, 1) := by decide +kernel
theorem dX8_unlock_17 : decode cX8_unlock 17 = .ok (.dup, 1) := by decide +kernel
theorem dX8_unlock_18 : decode cX8_unlock 18 = .ok (.getfield 193, 3) := by decide +kernel
theorem dX8_unlock_21 : decode cX8_unlock 21 = .ok (.iconst 1, 1) := by decide +kernel
theorem dX8_unlock_22 : decode cX8_unlock 22 = .ok (.iadd, 1) := by decide +kernel
theorem dX8_unlock_23 : decode cX8_unlock 23 = .ok (.putfield 193, 3) := by decide +kernel
theorem dX8_unlock_26 : decode cX8_unlock 26 = .ok (.bipush (-4), 2) := by decide +kernel
theorem dX8_unlock_28 : decode cX8_unlock 28 = .ok (.ireturn, 1) := by decide +kernel
theorem dX8_unlock_29 : decode cX8_unlock 29 = .ok (.aload_n 0, 1) := by decide +kernel
theorem dX8_unlock_30 : decode cX8_unlock 30 = .ok (.iconst 0, 1) := by decide +kernel
theorem dX8_unlock_31 : decode cX8_unlock 31 = .ok (.putfield 193, 3) := by decide +kernel
theorem dX8_unlock_34 : decode cX8_unlock 34 = .ok (.iconst 0, 1) := by decide +kernel
theorem dX8_unlock_35 : decode cX8_unlock 35 = .ok (.ireturn, 1) := by decide +kernel
theorem dX8_clear_0 : decode cX8_clear 0 = .ok (.aload_n 0, 1) := by decide +kernel
theorem dX8_clear_1 : decode cX8_clear 1 = .ok (.invokevirtual 225, 3) := by decide +kernel
theorem dX8_clear_4 : decode cX8_clear 4 = .ok (.istore_n 1, 1) := by decide +kernel
theorem dX8_clear_5 : decode cX8_clear 5 = .ok (.iload_n 1, 1) := by decide +kernel
theorem dX8_clear_6 : decode cX8_clear 6 = .ok (.ifCond .ge 5, 3) := by decide +kernel
theorem dX8_clear_9 : decode cX8_clear 9 = .ok (.iload_n 1, 1) := by decide +kernel
theorem dX8_clear_10 : decode cX8_clear 10 = .ok (.ireturn, 1) := by decide +kernel
theorem dX8_clear_11 : decode cX8_clear 11 = .ok (.aload_n 0, 1) := by decide +kernel
theorem dX8_clear_12 : decode cX8_clear 12 = .ok (.iconst 0, 1) := by decide +kernel
theorem dX8_clear_13 : decode cX8_clear 13 = .ok (.putfield 100, 3) := by decide +kernel
theorem dX8_clear_16 : decode cX8_clear 16 = .ok (.aload_n 0, 1) := by decide +kernel
theorem dX8_clear_17 : decode cX8_clear 17 = .ok (.aload_n 0, 1) := by decide +kernel
theorem dX8_clear_18 : decode cX8_clear 18 = .ok (.getfield 35, 3) := by decide +kernel
theorem dX8_clear_21 : decode cX8_clear 21 = .ok (.iconst 0, 1) := by decide +kernel
theorem dX8_clear_22 : decode cX8_clear 22 = .ok (.bipush 32, 2) := by decide +kernel
theorem dX8_clear_24 : decode cX8_clear 24 = .ok (.invokevirtual 134, 3) := by decide +kernel
theorem dX8_clear_27 : decode cX8_clear 27 = .ok (.aload_n 0, 1) := by decide +kernel
theorem dX8_clear_28 : decode cX8_clear 28 = .ok (.aload_n 0, 1) := by decide +kernel
theorem dX8_clear_29 : decode cX8_clear 29 = .ok (.getfield 35, 3) := by decide +kernel
theorem dX8_clear_32 : decode cX8_clear 32 = .ok (.iconst 0, 1) := by decide +kernel
theorem dX8_clear_33 : decode cX8_clear 33 = .ok (.invokevirtual 111, 3) := by decide +kernel
theorem dX8_clear_36 : decode cX8_clear 36 = .ok (.iconst 0, 1) := by decide +kernel
theorem dX8_clear_37 : decode cX8_clear 37 = .ok (.istore_n 2, 1) := by decide +kernel
theorem dX8_clear_38 : decode cX8_clear 38 = .ok (.iload_n 2, 1) := by decide +kernel
theorem dX8_clear_39 : decode cX8_clear 39 = .ok (.bipush 12, 2) := by decide +kernel
theorem dX8_clear_41 : decode cX8_clear 41 = .ok (.if_icmp .ge 16, 3) := by decide +kernel
theorem dX8_clear_44 : decode cX8_clear 44 = .ok (.aload_n 0, 1) := by decide +kernel
theorem dX8_clear_45 : decode cX8_clear 45 = .ok (.getfield 73, 3) := by decide +kernel
theorem dX8_clear_48 : decode cX8_clear 48 = .ok (.iload_n 2, 1) := by decide +kernel
theorem dX8_clear_49 : decode cX8_clear 49 = .ok (.iconst 0, 1) := by decide +kernel
theorem dX8_clear_50 : decode cX8_clear 50 = .ok (.bastore, 1) := by decide +kernel
theorem dX8_clear_51 : decode cX8_clear 51 = .ok (.iinc 2 1, 3) := by decide +kernel
theorem dX8_clear_54 : decode cX8_clear 54 = .ok (.goto (-16), 3) := by decide +kernel
theorem dX8_clear_57 : decode cX8_clear 57 = .ok (.aload_n 0, 1) := by decide +kernel
theorem dX8_clear_58 : decode cX8_clear 58 = .ok (.iconst 0, 1) := by decide +kernel
theorem dX8_clear_59 : decode cX8_clear 59 = .ok (.putfield 100, 3) := by decide +kernel
theorem dX8_clear_62 : decode cX8_clear 62 = .ok (.aload_n 0, 1) := by decide +kernel
theorem dX8_clear_63 : decode cX8_clear 63 = .ok (.aload_n 0, 1) := by decide +kernel
theorem dX8_clear_64 : decode cX8_clear 64 = .ok (.getfield 41, 3) := by decide +kernel
theorem dX8_clear_67 : decode cX8_clear 67 = .ok (.iconst 0, 1) := by decide +kernel
theorem dX8_clear_68 : decode cX8_clear 68 = .ok (.invokevirtual 111, 3) := by decide +kernel
theorem dX8_clear_71 : decode cX8_clear 71 = .ok (.iconst 0, 1) := by decide +kernel
theorem dX8_clear_72 : decode cX8_clear 72 = .ok (.ireturn, 1) := by decide +kernel
theorem dX8_tick_0 : decode cX8_tick 0 = .ok (.iload_n 1, 1) := by decide +kernel
theorem dX8_tick_1 : decode cX8_tick 1 = .ok (.ifCond .lt 20, 3) := by decide +kernel
theorem dX8_tick_4 : decode cX8_tick 4 = .ok (.iload_n 1, 1) := by decide +kernel
theorem dX8_tick_5 : decode cX8_tick 5 = .ok (.ldc 240, 2) := by decide +kernel
theorem dX8_tick_7 : decode cX8_tick 7 = .ok (.if_icmp .gt 14, 3) := by decide +kernel
theorem dX8_tick_10 : decode cX8_tick 10 = .ok (.aload_n 0, 1) := by decide +kernel
theorem dX8_tick_11 : decode cX8_tick 11 = .ok (.getfield 163, 3) := by decide +kernel
theorem dX8_tick_14 : decode cX8_tick 14 = .ok (.ldc 241, 2) := by decide +kernel
theorem dX8_tick_16 : decode cX8_tick 16 = .ok (.iload_n 1, 1) := by decide +kernel
theorem dX8_tick_17 : decode cX8_tick 17 = .ok (.isub, 1) := by decide +kernel
theorem dX8_tick_18 : decode cX8_tick 18 = .ok (.if_icmp .le 5, 3) := by decide +kernel
theorem dX8_tick_21 : decode cX8_tick 21 = .ok (.iconst (-1), 1) := by decide +kernel
theorem dX8_tick_22 : decode cX8_tick 22 = .ok (.ireturn, 1) := by decide +kernel
theorem dX8_tick_23 : decode cX8_tick 23 = .ok (.aload_n 0, 1) := by decide +kernel
theorem dX8_tick_24 : decode cX8_tick 24 = .ok (.getfield 163, 3) := by decide +kernel
theorem dX8_tick_27 : decode cX8_tick 27 = .ok (.iload_n 1, 1) := by decide +kernel
theorem dX8_tick_28 : decode cX8_tick 28 = .ok (.iadd, 1) := by decide +kernel
theorem dX8_tick_29 : decode cX8_tick 29 = .ok (.bipush 100, 2) := by decide +kernel
theorem dX8_tick_31 : decode cX8_tick 31 = .ok (.idiv, 1) := by decide +kernel
theorem dX8_tick_32 : decode cX8_tick 32 = .ok (.aload_n 0, 1) := by decide +kernel
theorem dX8_tick_33 : decode cX8_tick 33 = .ok (.getfield 163, 3) := by decide +kernel
theorem dX8_tick_36 : decode cX8_tick 36 = .ok (.bipush 100, 2) := by decide +kernel
theorem dX8_tick_38 : decode cX8_tick 38 = .ok (.idiv, 1) := by decide +kernel
theorem dX8_tick_39 : decode cX8_tick 39 = .ok (.isub, 1) := by decide +kernel
theorem dX8_tick_40 : decode cX8_tick 40 = .ok (.istore_n 2, 1) := by decide +kernel
theorem dX8_tick_41 : decode cX8_tick 41 = .ok (.aload_n 0, 1) := by decide +kernel
theorem dX8_tick_42 : decode cX8_tick 42 = .ok (.dup, 1) := by decide +kernel
theorem dX8_tick_43 : decode cX8_tick 43 = .ok (.getfield 163, 3) := by decide +kernel
theorem dX8_tick_46 : decode cX8_tick 46 = .ok (.iload_n 1, 1) := by decide +kernel
theorem dX8_tick_47 : decode cX8_tick 47 = .ok (.iadd, 1) := by decide +kernel
theorem dX8_tick_48 : decode cX8_tick 48 = .ok (.putfield 163, 3) := by decide +kernel
theorem dX8_tick_51 : decode cX8_tick 51 = .ok (.aload_n 0, 1) := by decide +kernel
theorem dX8_tick_52 : decode cX8_tick 52 = .ok (.aload_n 0, 1) := by decide +kernel
theorem dX8_tick_53 : decode cX8_tick 53 = .ok (.getfield 193, 3) := by decide +kernel
theorem dX8_tick_56 : decode cX8_tick 56 = .ok (.iload_n 2, 1) := by decide +kernel
theorem dX8_tick_57 : decode cX8_tick 57 = .ok (.if_icmp .le 12, 3) := by decide +kernel
theorem dX8_tick_60 : decode cX8_tick 60 = .ok (.aload_n 0, 1) := by decide +kernel
theorem dX8_tick_61 : decode cX8_tick 61 = .ok (.getfield 193, 3) := by decide +kernel
theorem dX8_tick_64 : decode cX8_tick 64 = .ok (.iload_n 2, 1) := by decide +kernel
theorem dX8_tick_65 : decode cX8_tick 65 = .ok (.isub, 1) := by decide +kernel
theorem dX8_tick_66 : decode cX8_tick 66 = .ok (.goto 4, 3) := by decide +kernel
theorem dX8_tick_69 : decode cX8_tick 69 = .ok (.iconst 0, 1) := by decide +kernel
theorem dX8_tick_70 : decode cX8_tick 70 = .ok (.putfield 193, 3) := by decide +kernel
theorem dX8_tick_73 : decode cX8_tick 73 = .ok (.aload_n 0, 1) := by decide +kernel
theorem dX8_tick_74 : decode cX8_tick 74 = .ok (.getfield 163, 3) := by decide +kernel
theorem dX8_tick_77 : decode cX8_tick 77 = .ok (.ireturn, 1) := by decide +kernel
theorem dX8_restart_0 : decode cX8_restart 0 = .ok (.aload_n 0, 1) := by decide +kernel
theorem dX8_restart_1 : decode cX8_restart 1 = .ok (.dup, 1) := by decide +kernel
theorem dX8_restart_2 : decode cX8_restart 2 = .ok (.getfield 169, 3) := by decide +kernel
theorem dX8_restart_5 : decode cX8_restart 5 = .ok (.iconst 1, 1) := by decide +kernel
theorem dX8_restart_6 : decode cX8_restart 6 = .ok (.iadd, 1) := by decide +kernel
theorem dX8_restart_7 : decode cX8_restart 7 = .ok (.putfield 169, 3) := by decide +kernel
theorem dX8_restart_10 : decode cX8_restart 10 = .ok (.iconst 0, 1) := by decide +kernel
theorem dX8_restart_11 : decode cX8_restart 11 = .ok (.istore_n 1, 1) := by decide +kernel
theorem dX8_restart_12 : decode cX8_restart 12 = .ok (.iload_n 1, 1) := by decide +kernel
theorem dX8_restart_13 : decode cX8_restart 13 = .ok (.aload_n 0, 1) := by decide +kernel
theorem dX8_restart_14 : decode cX8_restart 14 = .ok (.getfield 44, 3) := by decide +kernel
theorem dX8_restart_17 : decode cX8_restart 17 = .ok (.arraylength, 1) := by decide +kernel
theorem dX8_restart_18 : decode cX8_restart 18 = .ok (.if_icmp .ge 16, 3) := by decide +kernel
theorem dX8_restart_21 : decode cX8_restart 21 = .ok (.aload_n 0, 1) := by decide +kernel
theorem dX8_restart_22 : decode cX8_restart 22 = .ok (.getfield 44, 3) := by decide +kernel
theorem dX8_restart_25 : decode cX8_restart 25 = .ok (.iload_n 1, 1) := by decide +kernel
theorem dX8_restart_26 : decode cX8_restart 26 = .ok (.iconst 0, 1) := by decide +kernel
theorem dX8_restart_27 : decode cX8_restart 27 = .ok (.bastore, 1) := by decide +kernel
theorem dX8_restart_28 : decode cX8_restart 28 = .ok (.iinc 1 1, 3) := by decide +kernel
theorem dX8_restart_31 : decode cX8_restart 31 = .ok (.goto (-19), 3) := by decide +kernel
theorem dX8_restart_34 : decode cX8_restart 34 = .ok (.iconst 0, 1) := by decide +kernel
theorem dX8_restart_35 : decode cX8_restart 35 = .ok (.istore_n 1, 1) := by decide +kernel
theorem dX8_restart_36 : decode cX8_restart 36 = .ok (.iload_n 1, 1) := by decide +kernel
theorem dX8_restart_37 : decode cX8_restart 37 = .ok (.iconst 4, 1) := by decide +kernel
theorem dX8_restart_38 : decode cX8_restart 38 = .ok (.if_icmp .ge 16, 3) := by decide +kernel
theorem dX8_restart_41 : decode cX8_restart 41 = .ok (.aload_n 0, 1) := by decide +kernel
theorem dX8_restart_42 : decode cX8_restart 42 = .ok (.getfield 47, 3) := by decide +kernel
theorem dX8_restart_45 : decode cX8_restart 45 = .ok (.iload_n 1, 1) := by decide +kernel
theorem dX8_restart_46 : decode cX8_restart 46 = .ok (.iconst 0, 1) := by decide +kernel
theorem dX8_restart_47 : decode cX8_restart 47 = .ok (.bastore, 1) := by decide +kernel
theorem dX8_restart_48 : decode cX8_restart 48 = .ok (.iinc 1 1, 3) := by decide +kernel
theorem dX8_restart_51 : decode cX8_restart 51 = .ok (.goto (-15), 3) := by decide +kernel
theorem dX8_restart_54 : decode cX8_restart 54 = .ok (.iconst 0, 1) := by decide +kernel
theorem dX8_restart_55 : decode cX8_restart 55 = .ok (.istore_n 1, 1) := by decide +kernel
theorem dX8_restart_56 : decode cX8_restart 56 = .ok (.iload_n 1, 1) := by decide +kernel
theorem dX8_restart_57 : decode cX8_restart 57 = .ok (.iconst 4, 1) := by decide +kernel
theorem dX8_restart_58 : decode cX8_restart 58 = .ok (.if_icmp .ge 16, 3) := by decide +kernel
theorem dX8_restart_61 : decode cX8_restart 61 = .ok (.aload_n 0, 1) := by decide +kernel
theorem dX8_restart_62 : decode cX8_restart 62 = .ok (.getfield 73, 3) := by decide +kernel
theorem dX8_restart_65 : decode cX8_restart 65 = .ok (.iload_n 1, 1) := by decide +kernel
theorem dX8_restart_66 : decode cX8_restart 66 = .ok (.iconst 0, 1) := by decide +kernel
theorem dX8_restart_67 : decode cX8_restart 67 = .ok (.bastore, 1) := by decide +kernel
theorem dX8_restart_68 : decode cX8_restart 68 = .ok (.iinc 1 1, 3) := by decide +kernel
theorem dX8_restart_71 : decode cX8_restart 71 = .ok (.goto (-15), 3) := by decide +kernel
theorem dX8_restart_74 : decode cX8_restart 74 = .ok (.iconst 4, 1) := by decide +kernel
theorem dX8_restart_75 : decode cX8_restart 75 = .ok (.istore_n 1, 1) := by decide +kernel
theorem dX8_restart_76 : decode cX8_restart 76 = .ok (.iload_n 1, 1) := by decide +kernel
theorem dX8_restart_77 : decode cX8_restart 77 = .ok (.bipush 12, 2) := by decide +kernel
theorem dX8_restart_79 : decode cX8_restart 79 = .ok (.if_icmp .ge 16, 3) := by decide +kernel
theorem dX8_restart_82 : decode cX8_restart 82 = .ok (.aload_n 0, 1) := by decide +kernel
theorem dX8_restart_83 : decode cX8_restart 83 = .ok (.getfield 94, 3) := by decide +kernel
theorem dX8_restart_86 : decode cX8_restart 86 = .ok (.iload_n 1, 1) := by decide +kernel
theorem dX8_restart_87 : decode cX8_restart 87 = .ok (.iconst 0, 1) := by decide +kernel
theorem dX8_restart_88 : decode cX8_restart 88 = .ok (.bastore, 1) := by decide +kernel
theorem dX8_restart_89 : decode cX8_restart 89 = .ok (.iinc 1 1, 3) := by decide +kernel
theorem dX8_restart_92 : decode cX8_restart 92 = .ok (.goto (-16), 3) := by decide +kernel
theorem dX8_restart_95 : decode cX8_restart 95 = .ok (.aload_n 0, 1) := by decide +kernel
theorem dX8_restart_96 : decode cX8_restart 96 = .ok (.getfield 169, 3) := by decide +kernel
theorem dX8_restart_99 : decode cX8_restart 99 = .ok (.ireturn, 1) := by decide +kernel
theorem dX8_many_0 : decode cX8_many 0 = .ok (.iconst 0, 1) := by decide +kernel
theorem dX8_many_1 : decode cX8_many 1 = .ok (.istore_n 3, 1) := by decide +kernel
theorem dX8_many_2 : decode cX8_many 2 = .ok (.iload_n 1, 1) := by decide +kernel
theorem dX8_many_3 : decode cX8_many 3 = .ok (.istore 4, 2) := by decide +kernel
theorem dX8_many_5 : decode cX8_many 5 = .ok (.iload 4, 2) := by decide +kernel
theorem dX8_many_7 : decode cX8_many 7 = .ok (.iload_n 2, 1) := by decide +kernel
theorem dX8_many_8 : decode cX8_many 8 = .ok (.if_icmp .ge 24, 3) := by decide +kernel
theorem dX8_many_11 : decode cX8_many 11 = .ok (.iload_n 3, 1) := by decide +kernel
theorem dX8_many_12 : decode cX8_many 12 = .ok (.aload_n 0, 1) := by decide +kernel
theorem dX8_many_13 : decode cX8_many 13 = .ok (.iload 4, 2) := by decide +kernel
theorem dX8_many_15 : decode cX8_many 15 = .ok (.baload, 1) := by decide +kernel
theorem dX8_many_16 : decode cX8_many 16 = .ok (.ifCond .eq 7, 3) := by decide +kernel
theorem dX8_many_19 : decode cX8_many 19 = .ok (.iconst 1, 1) := by decide +kernel
theorem dX8_many_20 : decode cX8_many 20 = .ok (.goto 4, 3) := by decide +kernel
theorem dX8_many_23 : decode cX8_many 23 = .ok (.iconst 0, 1) := by decide +kernel
theorem dX8_many_24 : decode cX8_many 24 = .ok (.iadd, 1) := by decide +kernel
theorem dX8_many_25 : decode cX8_many 25 = .ok (.istore_n 3, 1) := by decide +kernel
theorem dX8_many_26 : decode cX8_many 26 = .ok (.iinc 4 1, 3) := by decide +kernel
theorem dX8_many_29 : decode cX8_many 29 = .ok (.goto (-24), 3) := by decide +kernel
theorem dX8_many_32 : decode cX8_many 32 = .ok (.iload_n 3, 1) := by decide +kernel
theorem dX8_many_33 : decode cX8_many 33 = .ok (.ireturn, 1) := by decide +kernel
theorem dX8_look_0 : decode cX8_look 0 = .ok (.iload_n 1, 1) := by decide +kernel
theorem dX8_look_1 : decode cX8_look 1 = .ok (.tableswitch 103 0 7 #[47, 52, 57, 62, 67, 77, 87, 98], 47) := by decide +kernel
theorem dX8_look_48 : decode cX8_look 48 = .ok (.aload_n 0, 1) := by decide +kernel
theorem dX8_look_49 : decode cX8_look 49 = .ok (.getfield 193, 3) := by decide +kernel
theorem dX8_look_52 : decode cX8_look 52 = .ok (.ireturn, 1) := by decide +kernel
theorem dX8_look_53 : decode cX8_look 53 = .ok (.aload_n 0, 1) := by decide +kernel
theorem dX8_look_54 : decode cX8_look 54 = .ok (.getfield 163, 3) := by decide +kernel
theorem dX8_look_57 : decode cX8_look 57 = .ok (.ireturn, 1) := by decide +kernel
theorem dX8_look_58 : decode cX8_look 58 = .ok (.aload_n 0, 1) := by decide +kernel
theorem dX8_look_59 : decode cX8_look 59 = .ok (.getfield 169, 3) := by decide +kernel
theorem dX8_look_62 : decode cX8_look 62 = .ok (.ireturn, 1) := by decide +kernel
theorem dX8_look_63 : decode cX8_look 63 = .ok (.aload_n 0, 1) := by decide +kernel
theorem dX8_look_64 : decode cX8_look 64 = .ok (.getfield 203, 3) := by decide +kernel
theorem dX8_look_67 : decode cX8_look 67 = .ok (.ireturn, 1) := by decide +kernel
theorem dX8_look_68 : decode cX8_look 68 = .ok (.aload_n 0, 1) := by decide +kernel
theorem dX8_look_69 : decode cX8_look 69 = .ok (.getfield 73, 3) := by decide +kernel
theorem dX8_look_72 : decode cX8_look 72 = .ok (.iconst 0, 1) := by decide +kernel
theorem dX8_look_73 : decode cX8_look 73 = .ok (.iconst 4, 1) := by decide +kernel
theorem dX8_look_74 : decode cX8_look 74 = .ok (.invokestatic 242, 3) := by decide +kernel
theorem dX8_look_77 : decode cX8_look 77 = .ok (.ireturn, 1) := by decide +kernel
theorem dX8_look_78 : decode cX8_look 78 = .ok (.aload_n 0, 1) := by decide +kernel
theorem dX8_look_79 : decode cX8_look 79 = .ok (.getfield 47, 3) := by decide +kernel
theorem dX8_look_82 : decode cX8_look 82 = .ok (.iconst 0, 1) := by decide +kernel
theorem dX8_look_83 : decode cX8_look 83 = .ok (.iconst 4, 1) := by decide +kernel
theorem dX8_look_84 : decode cX8_look 84 = .ok (.invokestatic 242, 3) := by decide +kernel
theorem dX8_look_87 : decode cX8_look 87 = .ok (.ireturn, 1) := by decide +kernel
theorem dX8_look_88 : decode cX8_look 88 = .ok (.aload_n 0, 1) := by decide +kernel
theorem dX8_look_89 : decode cX8_look 89 = .ok (.getfield 73, 3) := by decide +kernel
theorem dX8_look_92 : decode cX8_look 92 = .ok (.iconst 4, 1) := by decide +kernel
theorem dX8_look_93 : decode cX8_look 93 = .ok (.bipush 12, 2) := by decide +kernel
theorem dX8_look_95 : decode cX8_look 95 = .ok (.invokestatic 242, 3) := by decide +kernel
theorem dX8_look_98 : decode cX8_look 98 = .ok (.ireturn, 1) := by decide +kernel
theorem dX8_look_99 : decode cX8_look 99 = .ok (.aload_n 0, 1) := by decide +kernel
theorem dX8_look_100 : decode cX8_look 100 = .ok (.getfield 137, 3) := by decide +kernel
theorem dX8_look_103 : decode cX8_look 103 = .ok (.ireturn, 1) := by decide +kernel
theorem dX8_look_104 : decode cX8_look 104 = .ok (.iconst (-1), 1) := by decide +kernel
theorem dX8_look_105 : decode cX8_look 105 = .ok (.ireturn, 1) := by decide +kernel
theorem dJ9_floorMod_7cf53_0 : decode cJ9_floorMod_7cf53 0 = .ok (.iload_n 0, 1) := by decide +kernel
theorem dJ9_floorMod_7cf53_1 : decode cJ9_floorMod_7cf53 1 = .ok (.iload_n 1, 1) := by decide +kernel
theorem dJ9_floorMod_7cf53_2 : decode cJ9_floorMod_7cf53 2 = .ok (.irem, 1) := by decide +kernel
theorem dJ9_floorMod_7cf53_3 : decode cJ9_floorMod_7cf53 3 = .ok (.istore_n 2, 1) := by decide +kernel
theorem dJ9_floorMod_7cf53_4 : decode cJ9_floorMod_7cf53 4 = .ok (.iload_n 0, 1) := by decide +kernel
theorem dJ9_floorMod_7cf53_5 : decode cJ9_floorMod_7cf53 5 = .ok (.iload_n 1, 1) := by decide +kernel
theorem dJ9_floorMod_7cf53_6 : decode cJ9_floorMod_7cf53 6 = .ok (.ixor, 1) := by decide +kernel
theorem dJ9_floorMod_7cf53_7 : decode cJ9_floorMod_7cf53 7 = .ok (.ifCond .ge 11, 3) := by decide +kernel
theorem dJ9_floorMod_7cf53_10 : decode cJ9_floorMod_7cf53 10 = .ok (.iload_n 2, 1) := by decide +kernel
theorem dJ9_floorMod_7cf53_11 : decode cJ9_floorMod_7cf53 11 = .ok (.ifCond .eq 7, 3) := by decide +kernel
theorem dJ9_floorMod_7cf53_14 : decode cJ9_floorMod_7cf53 14 = .ok (.iload_n 2, 1) := by decide +kernel
theorem dJ9_floorMod_7cf53_15 : decode cJ9_floorMod_7cf53 15 = .ok (.iload_n 1, 1) := by decide +kernel
theorem dJ9_floorMod_7cf53_16 : decode cJ9_floorMod_7cf53 16 = .ok (.iadd, 1) := by decide +kernel
theorem dJ9_floorMod_7cf53_17 : decode cJ9_floorMod_7cf53 17 = .ok (.ireturn, 1) := by decide +kernel
theorem dJ9_floorMod_7cf53_18 : decode cJ9_floorMod_7cf53 18 = .ok (.iload_n 2, 1) := by decide +kernel
theorem dJ9_floorMod_7cf53_19 : decode cJ9_floorMod_7cf53 19 = .ok (.ireturn, 1) := by decide +kernel
theorem dJ9_max_7cf53_0 : decode cJ9_max_7cf53 0 = .ok (.iload_n 0, 1) := by decide +kernel
theorem dJ9_max_7cf53_1 : decode cJ9_max_7cf53 1 = .ok (.iload_n 1, 1) := by decide +kernel
theorem dJ9_max_7cf53_2 : decode cJ9_max_7cf53 2 = .ok (.if_icmp .lt 7, 3) := by decide +kernel
theorem dJ9_max_7cf53_5 : decode cJ9_max_7cf53 5 = .ok (.iload_n 0, 1) := by decide +kernel
theorem dJ9_max_7cf53_6 : decode cJ9_max_7cf53 6 = .ok (.goto 4, 3) := by decide +kernel
theorem dJ9_max_7cf53_9 : decode cJ9_max_7cf53 9 = .ok (.iload_n 1, 1) := by decide +kernel
theorem dJ9_max_7cf53_10 : decode cJ9_max_7cf53 10 = .ok (.ireturn, 1) := by decide +kernel
theorem dJ9_max_f86c9_0 : decode cJ9_max_f86c9 0 = .ok (.lload_n 0, 1) := by decide +kernel
theorem dJ9_max_f86c9_1 : decode cJ9_max_f86c9 1 = .ok (.lload_n 2, 1) := by decide +kernel
theorem dJ9_max_f86c9_2 : decode cJ9_max_f86c9 2 = .ok (.lcmp, 1) := by decide +kernel
theorem dJ9_max_f86c9_3 : decode cJ9_max_f86c9 3 = .ok (.ifCond .lt 7, 3) := by decide +kernel
theorem dJ9_max_f86c9_6 : decode cJ9_max_f86c9 6 = .ok (.lload_n 0, 1) := by decide +kernel
theorem dJ9_max_f86c9_7 : decode cJ9_max_f86c9 7 = .ok (.goto 4, 3) := by decide +kernel
theorem dJ9_max_f86c9_10 : decode cJ9_max_f86c9 10 = .ok (.lload_n 2, 1) := by decide +kernel
theorem dJ9_max_f86c9_11 : decode cJ9_max_f86c9 11 = .ok (.lreturn, 1) := by decide +kernel
theorem dJ9_min_7cf53_0 : decode cJ9_min_7cf53 0 = .ok (.iload_n 0, 1) := by decide +kernel
theorem dJ9_min_7cf53_1 : decode cJ9_min_7cf53 1 = .ok (.iload_n 1, 1) := by decide +kernel
theorem dJ9_min_7cf53_2 : decode cJ9_min_7cf53 2 = .ok (.if_icmp .gt 7, 3) := by decide +kernel
theorem dJ9_min_7cf53_5 : decode cJ9_min_7cf53 5 = .ok (.iload_n 0, 1) := by decide +kernel
theorem dJ9_min_7cf53_6 : decode cJ9_min_7cf53 6 = .ok (.goto 4, 3) := by decide +kernel
theorem dJ9_min_7cf53_9 : decode cJ9_min_7cf53 9 = .ok (.iload_n 1, 1) := by decide +kernel
theorem dJ9_min_7cf53_10 : decode cJ9_min_7cf53 10 = .ok (.ireturn, 1) := by decide +kernel
theorem dJ7_fill_031fb_0 : decode cJ7_fill_031fb 0 = .ok (.iconst 0, 1) := by decide +kernel
theorem dJ7_fill_031fb_1 : decode cJ7_fill_031fb 1 = .ok (.istore_n 2, 1) := by decide +kernel
theorem dJ7_fill_031fb_2 : decode cJ7_fill_031fb 2 = .ok (.aload_n 0, 1) := by decide +kernel
theorem dJ7_fill_031fb_3 : decode cJ7_fill_031fb 3 = .ok (.arraylength, 1) := by decide +kernel
theorem dJ7_fill_031fb_4 : decode cJ7_fill_031fb 4 = .ok (.istore_n 3, 1) := by decide +kernel
theorem dJ7_fill_031fb_5 : decode cJ7_fill_031fb 5 = .ok (.iload_n 2, 1) := by decide +kernel
theorem dJ7_fill_031fb_6 : decode cJ7_fill_031fb 6 = .ok (.iload_n 3, 1) := by decide +kernel
theorem dJ7_fill_031fb_7 : decode cJ7_fill_031fb 7 = .ok (.if_icmp .ge 13, 3) := by decide +kernel
theorem dJ7_fill_031fb_10 : decode cJ7_fill_031fb 10 = .ok (.aload_n 0, 1) := by decide +kernel
theorem dJ7_fill_031fb_11 : decode cJ7_fill_031fb 11 = .ok (.iload_n 2, 1) := by decide +kernel
theorem dJ7_fill_031fb_12 : decode cJ7_fill_031fb 12 = .ok (.iload_n 1, 1) := by decide +kernel
theorem dJ7_fill_031fb_13 : decode cJ7_fill_031fb 13 = .ok (.bastore, 1) := by decide +kernel
theorem dJ7_fill_031fb_14 : decode cJ7_fill_031fb 14 = .ok (.iinc 2 1, 3) := by decide +kernel
theorem dJ7_fill_031fb_17 : decode cJ7_fill_031fb 17 = .ok (.goto (-12), 3) := by decide +kernel
theorem dJ7_fill_031fb_20 : decode cJ7_fill_031fb 20 = .ok (.return_, 1) := by decide +kernel
theorem dL_cell_0 : decode cL_cell 0 = .ok (.iload_n 1, 1) := by decide +kernel
theorem dL_cell_1 : decode cL_cell 1 = .ok (.aload_n 0, 1) := by decide +kernel
theorem dL_cell_2 : decode cL_cell 2 = .ok (.arraylength, 1) := by decide +kernel
theorem dL_cell_3 : decode cL_cell 3 = .ok (.if_icmp .ge 9, 3) := by decide +kernel
theorem dL_cell_6 : decode cL_cell 6 = .ok (.aload_n 0, 1) := by decide +kernel
theorem dL_cell_7 : decode cL_cell 7 = .ok (.iload_n 1, 1) := by decide +kernel
theorem dL_cell_8 : decode cL_cell 8 = .ok (.iaload, 1) := by decide +kernel
theorem dL_cell_9 : decode cL_cell 9 = .ok (.goto 4, 3) := by decide +kernel
theorem dL_cell_12 : decode cL_cell 12 = .ok (.iconst 0, 1) := by decide +kernel
theorem dL_cell_13 : decode cL_cell 13 = .ok (.ireturn, 1) := by decide +kernel
