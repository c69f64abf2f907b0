theorem dM_fold_176 : decode cM_fold 176 = .ok (.goto (-28), 3) := by decide +kernel
theorem dM_fold_179 : decode cM_fold 179 = .ok (.aload_n 0, 1) := by decide +kernel
theorem dM_fold_180 : decode cM_fold 180 = .ok (.aload_n 0, 1) := by decide +kernel
theorem dM_fold_181 : decode cM_fold 181 = .ok (.getfield 28, 3) := by decide +kernel
theorem dM_fold_184 : decode cM_fold 184 = .ok (.bipush 107, 2) := by decide +kernel
theorem dM_fold_186 : decode cM_fold 186 = .ok (.baload, 1) := by decide +kernel
theorem dM_fold_187 : decode cM_fold 187 = .ok (.ifCond .eq 9, 3) := by decide +kernel
theorem dM_fold_190 : decode cM_fold 190 = .ok (.sipush 8490, 3) := by decide +kernel
theorem dM_fold_193 : decode cM_fold 193 = .ok (.goto 6, 3) := by decide +kernel
theorem dM_fold_196 : decode cM_fold 196 = .ok (.sipush 8491, 3) := by decide +kernel
theorem dM_fold_199 : decode cM_fold 199 = .ok (.sipush 8490, 3) := by decide +kernel
theorem dM_fold_202 : decode cM_fold 202 = .ok (.invokevirtual 48, 3) := by decide +kernel
theorem dM_fold_205 : decode cM_fold 205 = .ok (.aload_n 0, 1) := by decide +kernel
theorem dM_fold_206 : decode cM_fold 206 = .ok (.aload_n 0, 1) := by decide +kernel
theorem dM_fold_207 : decode cM_fold 207 = .ok (.getfield 28, 3) := by decide +kernel
theorem dM_fold_210 : decode cM_fold 210 = .ok (.sipush 229, 3) := by decide +kernel
theorem dM_fold_213 : decode cM_fold 213 = .ok (.baload, 1) := by decide +kernel
theorem dM_fold_214 : decode cM_fold 214 = .ok (.ifCond .eq 9, 3) := by decide +kernel
theorem dM_fold_217 : decode cM_fold 217 = .ok (.sipush 8491, 3) := by decide +kernel
theorem dM_fold_220 : decode cM_fold 220 = .ok (.goto 6, 3) := by decide +kernel
theorem dM_fold_223 : decode cM_fold 223 = .ok (.sipush 8492, 3) := by decide +kernel
theorem dM_fold_226 : decode cM_fold 226 = .ok (.sipush 8491, 3) := by decide +kernel
theorem dM_fold_229 : decode cM_fold 229 = .ok (.invokevirtual 48, 3) := by decide +kernel
theorem dM_fold_232 : decode cM_fold 232 = .ok (.aload_n 0, 1) := by decide +kernel
theorem dM_fold_233 : decode cM_fold 233 = .ok (.invokevirtual 59, 3) := by decide +kernel
theorem dM_fold_236 : decode cM_fold 236 = .ok (.ireturn, 1) := by decide +kernel
theorem dM_has_0 : decode cM_has 0 = .ok (.aload_n 0, 1) := by decide +kernel
theorem dM_has_1 : decode cM_has 1 = .ok (.iconst 0, 1) := by decide +kernel
theorem dM_has_2 : decode cM_has 2 = .ok (.putfield 38, 3) := by decide +kernel
theorem dM_has_5 : decode cM_has 5 = .ok (.aload_n 0, 1) := by decide +kernel
theorem dM_has_6 : decode cM_has 6 = .ok (.iload_n 1, 1) := by decide +kernel
theorem dM_has_7 : decode cM_has 7 = .ok (.invokevirtual 70, 3) := by decide +kernel
theorem dM_has_10 : decode cM_has 10 = .ok (.ireturn, 1) := by decide +kernel
theorem dM_ranges_0 : decode cM_ranges 0 = .ok (.aload_n 0, 1) := by decide +kernel
theorem dM_ranges_1 : decode cM_ranges 1 = .ok (.iconst 0, 1) := by decide +kernel
theorem dM_ranges_2 : decode cM_ranges 2 = .ok (.putfield 38, 3) := by decide +kernel
theorem dM_ranges_5 : decode cM_ranges 5 = .ok (.aload_n 0, 1) := by decide +kernel
theorem dM_ranges_6 : decode cM_ranges 6 = .ok (.getfield 45, 3) := by decide +kernel
theorem dM_ranges_9 : decode cM_ranges 9 = .ok (.ireturn, 1) := by decide +kernel
theorem dM_range_0 : decode cM_range 0 = .ok (.aload_n 0, 1) := by decide +kernel
theorem dM_range_1 : decode cM_range 1 = .ok (.iconst 0, 1) := by decide +kernel
theorem dM_range_2 : decode cM_range 2 = .ok (.putfield 38, 3) := by decide +kernel
theorem dM_range_5 : decode cM_range 5 = .ok (.iload_n 1, 1) := by decide +kernel
theorem dM_range_6 : decode cM_range 6 = .ok (.ifCond .lt 11, 3) := by decide +kernel
theorem dM_range_9 : decode cM_range 9 = .ok (.iload_n 1, 1) := by decide +kernel
theorem dM_range_10 : decode cM_range 10 = .ok (.aload_n 0, 1) := by decide +kernel
theorem dM_range_11 : decode cM_range 11 = .ok (.getfield 45, 3) := by decide +kernel
theorem dM_range_14 : decode cM_range 14 = .ok (.if_icmp .lt 5, 3) := by decide +kernel
theorem dM_range_17 : decode cM_range 17 = .ok (.iconst (-1), 1) := by decide +kernel
theorem dM_range_18 : decode cM_range 18 = .ok (.ireturn, 1) := by decide +kernel
theorem dM_range_19 : decode cM_range 19 = .ok (.iload_n 2, 1) := by decide +kernel
theorem dM_range_20 : decode cM_range 20 = .ok (.ifCond .ne 12, 3) := by decide +kernel
theorem dM_range_23 : decode cM_range 23 = .ok (.aload_n 0, 1) := by decide +kernel
theorem dM_range_24 : decode cM_range 24 = .ok (.getfield 7, 3) := by decide +kernel
theorem dM_range_27 : decode cM_range 27 = .ok (.iload_n 1, 1) := by decide +kernel
theorem dM_range_28 : decode cM_range 28 = .ok (.iaload, 1) := by decide +kernel
theorem dM_range_29 : decode cM_range 29 = .ok (.goto 18, 3) := by decide +kernel
theorem dM_range_32 : decode cM_range 32 = .ok (.iload_n 2, 1) := by decide +kernel
theorem dM_range_33 : decode cM_range 33 = .ok (.iconst 1, 1) := by decide +kernel
theorem dM_range_34 : decode cM_range 34 = .ok (.if_icmp .ne 12, 3) := by decide +kernel
theorem dM_range_37 : decode cM_range 37 = .ok (.aload_n 0, 1) := by decide +kernel
theorem dM_range_38 : decode cM_range 38 = .ok (.getfield 13, 3) := by decide +kernel
theorem dM_range_41 : decode cM_range 41 = .ok (.iload_n 1, 1) := by decide +kernel
theorem dM_range_42 : decode cM_range 42 = .ok (.iaload, 1) := by decide +kernel
theorem dM_range_43 : decode cM_range 43 = .ok (.goto 4, 3) := by decide +kernel
theorem dM_range_46 : decode cM_range 46 = .ok (.iconst (-1), 1) := by decide +kernel
theorem dM_range_47 : decode cM_range 47 = .ok (.ireturn, 1) := by decide +kernel
theorem dM_length_0 : decode cM_length 0 = .ok (.iload_n 0, 1) := by decide +kernel
theorem dM_length_1 : decode cM_length 1 = .ok (.sipush 128, 3) := by decide +kernel
theorem dM_length_4 : decode cM_length 4 = .ok (.if_icmp .ge 7, 3) := by decide +kernel
theorem dM_length_7 : decode cM_length 7 = .ok (.iconst 1, 1) := by decide +kernel
theorem dM_length_8 : decode cM_length 8 = .ok (.goto 25, 3) := by decide +kernel
theorem dM_length_11 : decode cM_length 11 = .ok (.iload_n 0, 1) := by decide +kernel
theorem dM_length_12 : decode cM_length 12 = .ok (.sipush 2048, 3) := by decide +kernel
theorem dM_length_15 : decode cM_length 15 = .ok (.if_icmp .ge 7, 3) := by decide +kernel
theorem dM_length_18 : decode cM_length 18 = .ok (.iconst 2, 1) := by decide +kernel
theorem dM_length_19 : decode cM_length 19 = .ok (.goto 14, 3) := by decide +kernel
theorem dM_length_22 : decode cM_length 22 = .ok (.iload_n 0, 1) := by decide +kernel
theorem dM_length_23 : decode cM_length 23 = .ok (.ldc 74, 2) := by decide +kernel
theorem dM_length_25 : decode cM_length 25 = .ok (.if_icmp .ge 7, 3) := by decide +kernel
theorem dM_length_28 : decode cM_length 28 = .ok (.iconst 3, 1) := by decide +kernel
theorem dM_length_29 : decode cM_length 29 = .ok (.goto 4, 3) := by decide +kernel
theorem dM_length_32 : decode cM_length 32 = .ok (.iconst 4, 1) := by decide +kernel
theorem dM_length_33 : decode cM_length 33 = .ok (.ireturn, 1) := by decide +kernel
theorem dM_byteOf_0 : decode cM_byteOf 0 = .ok (.iload_n 0, 1) := by decide +kernel
theorem dM_byteOf_1 : decode cM_byteOf 1 = .ok (.invokestatic 75, 3) := by decide +kernel
theorem dM_byteOf_4 : decode cM_byteOf 4 = .ok (.istore_n 2, 1) := by decide +kernel
theorem dM_byteOf_5 : decode cM_byteOf 5 = .ok (.iload_n 0, 1) := by decide +kernel
theorem dM_byteOf_6 : decode cM_byteOf 6 = .ok (.bipush 6, 2) := by decide +kernel
theorem dM_byteOf_8 : decode cM_byteOf 8 = .ok (.iload_n 2, 1) := by decide +kernel
theorem dM_byteOf_9 : decode cM_byteOf 9 = .ok (.iconst 1, 1) := by decide +kernel
theorem dM_byteOf_10 : decode cM_byteOf 10 = .ok (.isub, 1) := by decide +kernel
theorem dM_byteOf_11 : decode cM_byteOf 11 = .ok (.iload_n 1, 1) := by decide +kernel
theorem dM_byteOf_12 : decode cM_byteOf 12 = .ok (.isub, 1) := by decide +kernel
theorem dM_byteOf_13 : decode cM_byteOf 13 = .ok (.imul, 1) := by decide +kernel
theorem dM_byteOf_14 : decode cM_byteOf 14 = .ok (.ishr, 1) := by decide +kernel
theorem dM_byteOf_15 : decode cM_byteOf 15 = .ok (.istore_n 3, 1) := by decide +kernel
theorem dM_byteOf_16 : decode cM_byteOf 16 = .ok (.iload_n 1, 1) := by decide +kernel
theorem dM_byteOf_17 : decode cM_byteOf 17 = .ok (.ifCond .le 12, 3) := by decide +kernel
theorem dM_byteOf_20 : decode cM_byteOf 20 = .ok (.sipush 128, 3) := by decide +kernel
theorem dM_byteOf_23 : decode cM_byteOf 23 = .ok (.iload_n 3, 1) := by decide +kernel
theorem dM_byteOf_24 : decode cM_byteOf 24 = .ok (.bipush 63, 2) := by decide +kernel
theorem dM_byteOf_26 : decode cM_byteOf 26 = .ok (.iand, 1) := by decide +kernel
theorem dM_byteOf_27 : decode cM_byteOf 27 = .ok (.ior, 1) := by decide +kernel
theorem dM_byteOf_28 : decode cM_byteOf 28 = .ok (.ireturn, 1) := by decide +kernel
theorem dM_byteOf_29 : decode cM_byteOf 29 = .ok (.iload_n 2, 1) := by decide +kernel
theorem dM_byteOf_30 : decode cM_byteOf 30 = .ok (.iconst 1, 1) := by decide +kernel
theorem dM_byteOf_31 : decode cM_byteOf 31 = .ok (.if_icmp .ne 7, 3) := by decide +kernel
theorem dM_byteOf_34 : decode cM_byteOf 34 = .ok (.iload_n 0, 1) := by decide +kernel
theorem dM_byteOf_35 : decode cM_byteOf 35 = .ok (.goto 34, 3) := by decide +kernel
theorem dM_byteOf_38 : decode cM_byteOf 38 = .ok (.iload_n 2, 1) := by decide +kernel
theorem dM_byteOf_39 : decode cM_byteOf 39 = .ok (.iconst 2, 1) := by decide +kernel
theorem dM_byteOf_40 : decode cM_byteOf 40 = .ok (.if_icmp .ne 11, 3) := by decide +kernel
theorem dM_byteOf_43 : decode cM_byteOf 43 = .ok (.sipush 192, 3) := by decide +kernel
theorem dM_byteOf_46 : decode cM_byteOf 46 = .ok (.iload_n 3, 1) := by decide +kernel
theorem dM_byteOf_47 : decode cM_byteOf 47 = .ok (.ior, 1) := by decide +kernel
theorem dM_byteOf_48 : decode cM_byteOf 48 = .ok (.goto 21, 3) := by decide +kernel
theorem dM_byteOf_51 : decode cM_byteOf 51 = .ok (.iload_n 2, 1) := by decide +kernel
theorem dM_byteOf_52 : decode cM_byteOf 52 = .ok (.iconst 3, 1) := by decide +kernel
theorem dM_byteOf_53 : decode cM_byteOf 53 = .ok (.if_icmp .ne 11, 3) := by decide +kernel
theorem dM_byteOf_56 : decode cM_byteOf 56 = .ok (.sipush 224, 3) := by decide +kernel
theorem dM_byteOf_59 : decode cM_byteOf 59 = .ok (.iload_n 3, 1) := by decide +kernel
theorem dM_byteOf_60 : decode cM_byteOf 60 = .ok (.ior, 1) := by decide +kernel
theorem dM_byteOf_61 : decode cM_byteOf 61 = .ok (.goto 8, 3) := by decide +kernel
theorem dM_byteOf_64 : decode cM_byteOf 64 = .ok (.sipush 240, 3) := by decide +kernel
theorem dM_byteOf_67 : decode cM_byteOf 67 = .ok (.iload_n 3, 1) := by decide +kernel
theorem dM_byteOf_68 : decode cM_byteOf 68 = .ok (.ior, 1) := by decide +kernel
theorem dM_byteOf_69 : decode cM_byteOf 69 = .ok (.ireturn, 1) := by decide +kernel
theorem dM_isRow_0 : decode cM_isRow 0 = .ok (.aload_n 0, 1) := by decide +kernel
theorem dM_isRow_1 : decode cM_isRow 1 = .ok (.iload_n 1, 1) := by decide +kernel
theorem dM_isRow_2 : decode cM_isRow 2 = .ok (.invokestatic 75, 3) := by decide +kernel
theorem dM_isRow_5 : decode cM_isRow 5 = .ok (.putfield 78, 3) := by decide +kernel
theorem dM_isRow_8 : decode cM_isRow 8 = .ok (.iload_n 2, 1) := by decide +kernel
theorem dM_isRow_9 : decode cM_isRow 9 = .ok (.invokestatic 75, 3) := by decide +kernel
theorem dM_isRow_12 : decode cM_isRow 12 = .ok (.aload_n 0, 1) := by decide +kernel
theorem dM_isRow_13 : decode cM_isRow 13 = .ok (.getfield 78, 3) := by decide +kernel
theorem dM_isRow_16 : decode cM_isRow 16 = .ok (.if_icmp .eq 5, 3) := by decide +kernel
theorem dM_isRow_19 : decode cM_isRow 19 = .ok (.iconst 0, 1) := by decide +kernel
theorem dM_isRow_20 : decode cM_isRow 20 = .ok (.ireturn, 1) := by decide +kernel
theorem dM_isRow_21 : decode cM_isRow 21 = .ok (.iconst 1, 1) := by decide +kernel
theorem dM_isRow_22 : decode cM_isRow 22 = .ok (.istore_n 3, 1) := by decide +kernel
theorem dM_isRow_23 : decode cM_isRow 23 = .ok (.iconst 1, 1) := by decide +kernel
theorem dM_isRow_24 : decode cM_isRow 24 = .ok (.istore 4, 2) := by decide +kernel
theorem dM_isRow_26 : decode cM_isRow 26 = .ok (.iconst 0, 1) := by decide +kernel
theorem dM_isRow_27 : decode cM_isRow 27 = .ok (.istore 5, 2) := by decide +kernel
theorem dM_isRow_29 : decode cM_isRow 29 = .ok (.iload 5, 2) := by decide +kernel
theorem dM_isRow_31 : decode cM_isRow 31 = .ok (.aload_n 0, 1) := by decide +kernel
theorem dM_isRow_32 : decode cM_isRow 32 = .ok (.getfield 78, 3) := by decide +kernel
theorem dM_isRow_35 : decode cM_isRow 35 = .ok (.if_icmp .ge 104, 3) := by decide +kernel
theorem dM_isRow_38 : decode cM_isRow 38 = .ok (.aload_n 0, 1) := by decide +kernel
theorem dM_isRow_39 : decode cM_isRow 39 = .ok (.getfield 32, 3) := by decide +kernel
theorem dM_isRow_42 : decode cM_isRow 42 = .ok (.iload 5, 2) := by decide +kernel
theorem dM_isRow_44 : decode cM_isRow 44 = .ok (.iload_n 3, 1) := by decide +kernel
theorem dM_isRow_45 : decode cM_isRow 45 = .ok (.ifCond .eq 12, 3) := by decide +kernel
theorem dM_isRow_48 : decode cM_isRow 48 = .ok (.iload_n 1, 1) := by decide +kernel
theorem dM_isRow_49 : decode cM_isRow 49 = .ok (.iload 5, 2) := by decide +kernel
theorem dM_isRow_51 : decode cM_isRow 51 = .ok (.invokestatic 81, 3) := by decide +kernel
theorem dM_isRow_54 : decode cM_isRow 54 = .ok (.goto 6, 3) := by decide +kernel
theorem dM_isRow_57 : decode cM_isRow 57 = .ok (.sipush 128, 3) := by decide +kernel
theorem dM_isRow_60 : decode cM_isRow 60 = .ok (.iastore, 1) := by decide +kernel
theorem dM_isRow_61 : decode cM_isRow 61 = .ok (.aload_n 0, 1) := by decide +kernel
theorem dM_isRow_62 : decode cM_isRow 62 = .ok (.getfield 35, 3) := by decide +kernel
theorem dM_isRow_65 : decode cM_isRow 65 = .ok (.iload 5, 2) := by decide +kernel
theorem dM_isRow_67 : decode cM_isRow 67 = .ok (.iload_n 3, 1) := by decide +kernel
theorem dM_isRow_68 : decode cM_isRow 68 = .ok (.ifCond .eq 12, 3) := by decide +kernel
theorem dM_isRow_71 : decode cM_isRow 71 = .ok (.iload_n 2, 1) := by decide +kernel
theorem dM_isRow_72 : decode cM_isRow 72 = .ok (.iload 5, 2) := by decide +kernel
theorem dM_isRow_74 : decode cM_isRow 74 = .ok (.invokestatic 81, 3) := by decide +kernel
theorem dM_isRow_77 : decode cM_isRow 77 = .ok (.goto 6, 3) := by decide +kernel
theorem dM_isRow_80 : decode cM_isRow 80 = .ok (.sipush 191, 3) := by decide +kernel
theorem dM_isRow_83 : decode cM_isRow 83 = .ok (.iastore, 1) := by decide +kernel
theorem dM_isRow_84 : decode cM_isRow 84 = .ok (.iload 4, 2) := by decide +kernel
theorem dM_isRow_86 : decode cM_isRow 86 = .ok (.aload_n 0, 1) := by decide +kernel
theorem dM_isRow_87 : decode cM_isRow 87 = .ok (.getfield 35, 3) := by decide +kernel
theorem dM_isRow_90 : decode cM_isRow 90 = .ok (.iload 5, 2) := by decide +kernel
theorem dM_isRow_92 : decode cM_isRow 92 = .ok (.iaload, 1) := by decide +kernel
theorem dM_isRow_93 : decode cM_isRow 93 = .ok (.aload_n 0, 1) := by decide +kernel
theorem dM_isRow_94 : decode cM_isRow 94 = .ok (.getfield 32, 3) := by decide +kernel
theorem dM_isRow_97 : decode cM_isRow 97 = .ok (.iload 5, 2) := by decide +kernel
theorem dM_isRow_99 : decode cM_isRow 99 = .ok (.iaload, 1) := by decide +kernel
theorem dM_isRow_100 : decode cM_isRow 100 = .ok (.isub, 1) := by decide +kernel
theorem dM_isRow_101 : decode cM_isRow 101 = .ok (.iconst 1, 1) := by decide +kernel
theorem dM_isRow_102 : decode cM_isRow 102 = .ok (.iadd, 1) := by decide +kernel
theorem dM_isRow_103 : decode cM_isRow 103 = .ok (.imul, 1) := by decide +kernel
theorem dM_isRow_104 : decode cM_isRow 104 = .ok (.istore 4, 2) := by decide +kernel
theorem dM_isRow_106 : decode cM_isRow 106 = .ok (.iload_n 3, 1) := by decide +kernel
theorem dM_isRow_107 : decode cM_isRow 107 = .ok (.ifCond .eq 24, 3) := by decide +kernel
theorem dM_isRow_110 : decode cM_isRow 110 = .ok (.aload_n 0, 1) := by decide +kernel
theorem dM_isRow_111 : decode cM_isRow 111 = .ok (.getfield 32, 3) := by decide +kernel
theorem dM_isRow_114 : decode cM_isRow 114 = .ok (.iload 5, 2) := by decide +kernel
theorem dM_isRow_116 : decode cM_isRow 116 = .ok (.iaload, 1) := by decide +kernel
theorem dM_isRow_117 : decode cM_isRow 117 = .ok (.aload_n 0, 1) := by decide +kernel
theorem dM_isRow_118 : decode cM_isRow 118 = .ok (.getfield 35, 3) := by decide +kernel
theorem dM_isRow_121 : decode cM_isRow 121 = .ok (.iload 5, 2) := by decide +kernel
theorem dM_isRow_123 : decode cM_isRow 123 = .ok (.iaload, 1) := by decide +kernel
theorem dM_isRow_124 : decode cM_isRow 124 = .ok (.if_icmp .ne 7, 3) := by decide +kernel
theorem dM_isRow_127 : decode cM_isRow 127 = .ok (.iconst 1, 1) := by decide +kernel
theorem dM_isRow_128 : decode cM_isRow 128 = .ok (.goto 4, 3) := by decide +kernel
theorem dM_isRow_131 : decode cM_isRow 131 = .ok (.iconst 0, 1) := by decide +kernel
theorem dM_isRow_132 : decode cM_isRow 132 = .ok (.istore_n 3, 1) := by decide +kernel
theorem dM_isRow_133 : decode cM_isRow 133 = .ok (.iinc 5 1, 3) := by decide +kernel
theorem dM_isRow_136 : decode cM_isRow 136 = .ok (.goto (-107), 3) := by decide +kernel
theorem dM_isRow_139 : decode cM_isRow 139 = .ok (.iload 4, 2) := by decide +kernel
theorem dM_isRow_141 : decode cM_isRow 141 = .ok (.iload_n 2, 1) := by decide +kernel
theorem dM_isRow_142 : decode cM_isRow 142 = .ok (.iload_n 1, 1) := by decide +kernel
theorem dM_isRow_143 : decode cM_isRow 143 = .ok (.isub, 1) := by decide +kernel
theorem dM_isRow_144 : decode cM_isRow 144 = .ok (.iconst 1, 1) := by decide +kernel
theorem dM_isRow_145 : decode cM_isRow 145 = .ok (.iadd, 1) := by decide +kernel
theorem dM_isRow_146 : decode cM_isRow 146 = .ok (.if_icmp .ne 7, 3) := by decide +kernel
theorem dM_isRow_149 : decode cM_isRow 149 = .ok (.iconst 1, 1) := by decide +kernel
theorem dM_isRow_150 : decode cM_isRow 150 = .ok (.goto 4, 3) := by decide +kernel
theorem dM_isRow_153 : decode cM_isRow 153 = .ok (.iconst 0, 1) := by decide +kernel
theorem dM_isRow_154 : decode cM_isRow 154 = .ok (.ireturn, 1) := by decide +kernel
theorem dM_runs_0 : decode cM_runs 0 = .ok (.iload_n 1, 1) := by decide +kernel
theorem dM_runs_1 : decode cM_runs 1 = .ok (.istore_n 3, 1) := by decide +kernel
theorem dM_runs_2 : decode cM_runs 2 = .ok (.iconst 0, 1) := by decide +kernel
theorem dM_runs_3 : decode cM_runs 3 = .ok (.istore 4, 2) := by decide +kernel
theorem dM_runs_5 : decode cM_runs 5 = .ok (.iload 4, 2) := by decide +kernel
theorem dM_runs_7 : decode cM_runs 7 = .ok (.iconst 4, 1) := by decide +kernel
theorem dM_runs_8 : decode cM_runs 8 = .ok (.if_icmp .ge 99, 3) := by decide +kernel
theorem dM_runs_11 : decode cM_runs 11 = .ok (.iload_n 1, 1) := by decide +kernel
theorem dM_runs_12 : decode cM_runs 12 = .ok (.iconst 1, 1) := by decide +kernel
theorem dM_runs_13 : decode cM_runs 13 = .ok (.bipush 6, 2) := by decide +kernel
theorem dM_runs_15 : decode cM_runs 15 = .ok (.iload 4, 2) := by decide +kernel
theorem dM_runs_17 : decode cM_runs 17 = .ok (.imul, 1) := by decide +kernel
theorem dM_runs_18 : decode cM_runs 18 = .ok (.ishl, 1) := by decide +kernel
theorem dM_runs_19 : decode cM_runs 19 = .ok (.iconst 1, 1) := by decide +kernel
theorem dM_runs_20 : decode cM_runs 20 = .ok (.isub, 1) := by decide +kernel
theorem dM_runs_21 : decode cM_runs 21 = .ok (.ior, 1) := by decide +kernel
theorem dM_runs_22 : decode cM_runs 22 = .ok (.istore 5, 2) := by decide +kernel
theorem dM_runs_24 : decode cM_runs 24 = .ok (.iload_n 2, 1) := by decide +kernel
theorem dM_runs_25 : decode cM_runs 25 = .ok (.iconst 1, 1) := by decide +kernel
theorem dM_runs_26 : decode cM_runs 26 = .ok (.iadd, 1) := by decide +kernel
theorem dM_runs_27 : decode cM_runs 27 = .ok (.bipush 6, 2) := by decide +kernel
theorem dM_runs_29 : decode cM_runs 29 = .ok (.iload 4, 2) := by decide +kernel
theorem dM_runs_31 : decode cM_runs 31 = .ok (.imul, 1) := by decide +kernel
theorem dM_runs_32 : decode cM_runs 32 = .ok (.ishr, 1) := by decide +kernel
theorem dM_runs_33 : decode cM_runs 33 = .ok (.bipush 6, 2) := by decide +kernel
theorem dM_runs_35 : decode cM_runs 35 = .ok (.iload 4, 2) := by decide +kernel
theorem dM_runs_37 : decode cM_runs 37 = .ok (.imul, 1) := by decide +kernel
theorem dM_runs_38 : decode cM_runs 38 = .ok (.ishl, 1) := by decide +kernel
theorem dM_runs_39 : decode cM_runs 39 = .ok (.iconst 1, 1) := by decide +kernel
theorem dM_runs_40 : decode cM_runs 40 = .ok (.isub, 1) := by decide +kernel
theorem dM_runs_41 : decode cM_runs 41 = .ok (.istore 6, 2) := by decide +kernel
theorem dM_runs_43 : decode cM_runs 43 = .ok (.iload 5, 2) := by decide +kernel
theorem dM_runs_45 : decode cM_runs 45 = .ok (.iload_n 3, 1) := by decide +kernel
theorem dM_runs_46 : decode cM_runs 46 = .ok (.if_icmp .le 24, 3) := by decide +kernel
theorem dM_runs_49 : decode cM_runs 49 = .ok (.iload 5, 2) := by decide +kernel
theorem dM_runs_51 : decode cM_runs 51 = .ok (.iload_n 2, 1) := by decide +kernel
theorem dM_runs_52 : decode cM_runs 52 = .ok (.if_icmp .gt 18, 3) := by decide +kernel
theorem dM_runs_55 : decode cM_runs 55 = .ok (.aload_n 0, 1) := by decide +kernel
theorem dM_runs_56 : decode cM_runs 56 = .ok (.iload_n 1, 1) := by decide +kernel
theorem dM_runs_57 : decode cM_runs 57 = .ok (.iload 5, 2) := by decide +kernel
theorem dM_runs_59 : decode cM_runs 59 = .ok (.invokevirtual 85, 3) := by decide +kernel
theorem dM_runs_62 : decode cM_runs 62 = .ok (.ifCond .eq 8, 3) := by decide +kernel
theorem dM_runs_65 : decode cM_runs 65 = .ok (.iload 5, 2) := by decide +kernel
theorem dM_runs_67 : decode cM_runs 67 = .ok (.goto 4, 3) := by decide +kernel
theorem dM_runs_70 : decode cM_runs 70 = .ok (.iload_n 3, 1) := by decide +kernel
theorem dM_runs_71 : decode cM_runs 71 = .ok (.istore_n 3, 1) := by decide +kernel
theorem dM_runs_72 : decode cM_runs 72 = .ok (.iload 6, 2) := by decide +kernel
theorem dM_runs_74 : decode cM_runs 74 = .ok (.iload_n 3, 1) := by decide +kernel
theorem dM_runs_75 : decode cM_runs 75 = .ok (.if_icmp .le 24, 3) := by decide +kernel
theorem dM_runs_78 : decode cM_runs 78 = .ok (.iload 6, 2) := by decide +kernel
theorem dM_runs_80 : decode cM_runs 80 = .ok (.iload_n 2, 1) := by decide +kernel
theorem dM_runs_81 : decode cM_runs 81 = .ok (.if_icmp .gt 18, 3) := by decide +kernel
theorem dM_runs_84 : decode cM_runs 84 = .ok (.aload_n 0, 1) := by decide +kernel
theorem dM_runs_85 : decode cM_runs 85 = .ok (.iload_n 1, 1) := by decide +kernel
theorem dM_runs_86 : decode cM_runs 86 = .ok (.iload 6, 2) := by decide +kernel
theorem dM_runs_88 : decode cM_runs 88 = .ok (.invokevirtual 85, 3) := by decide +kernel
theorem dM_runs_91 : decode cM_runs 91 = .ok (.ifCond .eq 8, 3) := by decide +kernel
theorem dM_runs_94 : decode cM_runs 94 = .ok (.iload 6, 2) := by decide +kernel
theorem dM_runs_96 : decode cM_runs 96 = .ok (.goto 4, 3) := by decide +kernel
theorem dM_runs_99 : decode cM_runs 99 = .ok (.iload_n 3, 1) := by decide +kernel
theorem dM_runs_100 : decode cM_runs 100 = .ok (.istore_n 3, 1) := by decide +kernel
theorem dM_runs_101 : decode cM_runs 101 = .ok (.iinc 4 1, 3) := by decide +kernel
theorem dM_runs_104 : decode cM_runs 104 = .ok (.goto (-99), 3) := by decide +kernel
theorem dM_runs_107 : decode cM_runs 107 = .ok (.iload_n 1, 1) := by decide +kernel
theorem dM_runs_108 : decode cM_runs 108 = .ok (.invokestatic 75, 3) := by decide +kernel
theorem dM_runs_111 : decode cM_runs 111 = .ok (.iconst 1, 1) := by decide +kernel
theorem dM_runs_112 : decode cM_runs 112 = .ok (.if_icmp .ne 8, 3) := by decide +kernel
theorem dM_runs_115 : decode cM_runs 115 = .ok (.bipush 127, 2) := by decide +kernel
theorem dM_runs_117 : decode cM_runs 117 = .ok (.goto 32, 3) := by decide +kernel
theorem dM_runs_120 : decode cM_runs 120 = .ok (.iload_n 1, 1) := by decide +kernel
theorem dM_runs_121 : decode cM_runs 121 = .ok (.invokestatic 75, 3) := by decide +kernel
theorem dM_runs_124 : decode cM_runs 124 = .ok (.iconst 2, 1) := by decide +kernel
theorem dM_runs_125 : decode cM_runs 125 = .ok (.if_icmp .ne 9, 3) := by decide +kernel
theorem dM_runs_128 : decode cM_runs 128 = .ok (.sipush 2047, 3) := by decide +kernel
theorem dM_runs_131 : decode cM_runs 131 = .ok (.goto 18, 3) := by decide +kernel
theorem dM_runs_134 : decode cM_runs 134 = .ok (.iload_n 1, 1) := by decide +kernel
theorem dM_runs_135 : decode cM_runs 135 = .ok (.invokestatic 75, 3) := by decide +kernel
theorem dM_runs_138 : decode cM_runs 138 = .ok (.iconst 3, 1) := by decide +kernel
theorem dM_runs_139 : decode cM_runs 139 = .ok (.if_icmp .ne 8, 3) := by decide +kernel
theorem dM_runs_142 : decode cM_runs 142 = .ok (.ldc 89, 2) := by decide +kernel
theorem dM_runs_144 : decode cM_runs 144 = .ok (.goto 5, 3) := by decide +kernel
theorem dM_runs_147 : decode cM_runs 147 = .ok (.ldc 52, 2) := by decide +kernel
theorem dM_runs_149 : decode cM_runs 149 = .ok (.istore 4, 2) := by decide +kernel
theorem dM_runs_151 : decode cM_runs 151 = .ok (.iconst 0, 1) := by decide +kernel
theorem dM_runs_152 : decode cM_runs 152 = .ok (.istore 5, 2) := by decide +kernel
theorem dM_runs_154 : decode cM_runs 154 = .ok (.iload 5, 2) := by decide +kernel
theorem dM_runs_156 : decode cM_runs 156 = .ok (.iconst 4, 1) := by decide +kernel
theorem dM_runs_157 : decode cM_runs 157 = .ok (.if_icmp .ge 58, 3) := by decide +kernel
theorem dM_runs_160 : decode cM_runs 160 = .ok (.iload 4, 2) := by decide +kernel
theorem dM_runs_162 : decode cM_runs 162 = .ok (.iconst 1, 1) := by decide +kernel
theorem dM_runs_163 : decode cM_runs 163 = .ok (.iadd, 1) := by decide +kernel
theorem dM_runs_164 : decode cM_runs 164 = .ok (.bipush 6, 2) := by decide +kernel
theorem dM_runs_166 : decode cM_runs 166 = .ok (.iload 5, 2) := by decide +kernel
theorem dM_runs_168 : decode cM_runs 168 = .ok (.imul, 1) := by decide +kernel
theorem dM_runs_169 : decode cM_runs 169 = .ok (.ishr, 1) := by decide +kernel
theorem dM_runs_170 : decode cM_runs 170 = .ok (.bipush 6, 2) := by decide +kernel
theorem dM_runs_172 : decode cM_runs 172 = .ok (.iload 5, 2) := by decide +kernel
theorem dM_runs_174 : decode cM_runs 174 = .ok (.imul, 1) := by decide +kernel
theorem dM_runs_175 : decode cM_runs 175 = .ok (.ishl, 1) := by decide +kernel
theorem dM_runs_176 : decode cM_runs 176 = .ok (.iconst 1, 1) := by decide +kernel
theorem dM_runs_177 : decode cM_runs 177 = .ok (.isub, 1) := by decide +kernel
theorem dM_runs_178 : decode cM_runs 178 = .ok (.istore 6, 2) := by decide +kernel
theorem dM_runs_180 : decode cM_runs 180 = .ok (.iload 6, 2) := by decide +kernel
theorem dM_runs_182 : decode cM_runs 182 = .ok (.iload_n 3, 1) := by decide +kernel
theorem dM_runs_183 : decode cM_runs 183 = .ok (.if_icmp .le 24, 3) := by decide +kernel
theorem dM_runs_186 : decode cM_runs 186 = .ok (.iload 6, 2) := by decide +kernel
theorem dM_runs_188 : decode cM_runs 188 = .ok (.iload_n 2, 1) := by decide +kernel
theorem dM_runs_189 : decode cM_runs 189 = .ok (.if_icmp .gt 18, 3) := by decide +kernel
theorem dM_runs_192 : decode cM_runs 192 = .ok (.aload_n 0, 1) := by decide +kernel
theorem dM_runs_193 : decode cM_runs 193 = .ok (.iload_n 1, 1) := by decide +kernel
theorem dM_runs_194 : decode cM_runs 194 = .ok (.iload 6, 2) := by decide +kernel
theorem dM_runs_196 : decode cM_runs 196 = .ok (.invokevirtual 85, 3) := by decide +kernel
theorem dM_runs_199 : decode cM_runs 199 = .ok (.ifCond .eq 8, 3) := by decide +kernel
theorem dM_runs_202 : decode cM_runs 202 = .ok (.iload 6, 2) := by decide +kernel
theorem dM_runs_204 : decode cM_runs 204 = .ok (.goto 4, 3) := by decide +kernel
theorem dM_runs_207 : decode cM_runs 207 = .ok (.iload_n 3, 1) := by decide +kernel
theorem dM_runs_208 : decode cM_runs 208 = .ok (.istore_n 3, 1) := by decide +kernel
theorem dM_runs_209 : decode cM_runs 209 = .ok (.iinc 5 1, 3) := by decide +kernel
theorem dM_runs_212 : decode cM_runs 212 = .ok (.goto (-58), 3) := by decide +kernel
theorem dM_runs_215 : decode cM_runs 215 = .ok (.iload_n 3, 1) := by decide +kernel
theorem dM_runs_216 : decode cM_runs 216 = .ok (.ireturn, 1) := by decide +kernel
theorem dM_finds_0 : decode cM_finds 0 = .ok (.aload_n 0, 1) := by decide +kernel
theorem dM_finds_1 : decode cM_finds 1 = .ok (.iconst 0, 1) := by decide +kernel
theorem dM_finds_2 : decode cM_finds 2 = .ok (.putfield 90, 3) := by decide +kernel
theorem dM_finds_5 : decode cM_finds 5 = .ok (.iconst 0, 1) := by decide +kernel
theorem dM_finds_6 : decode cM_finds 6 = .ok (.istore_n 2, 1) := by decide +kernel
theorem dM_finds_7 : decode cM_finds 7 = .ok (.iload_n 2, 1) := by decide +kernel
theorem dM_finds_8 : decode cM_finds 8 = .ok (.aload_n 0, 1) := by decide +kernel
theorem dM_finds_9 : decode cM_finds 9 = .ok (.getfield 45, 3) := by decide +kernel
theorem dM_finds_12 : decode cM_finds 12 = .ok (.if_icmp .ge 73, 3) := by decide +kernel
theorem dM_finds_15 : decode cM_finds 15 = .ok (.aload_n 0, 1) := by decide +kernel
theorem dM_finds_16 : decode cM_finds 16 = .ok (.getfield 7, 3) := by decide +kernel
theorem dM_finds_19 : decode cM_finds 19 = .ok (.iload_n 2, 1) := by decide +kernel
theorem dM_finds_20 : decode cM_finds 20 = .ok (.iaload, 1) := by decide +kernel
theorem dM_finds_21 : decode cM_finds 21 = .ok (.istore_n 3, 1) := by decide +kernel
theorem dM_finds_22 : decode cM_finds 22 = .ok (.iload_n 3, 1) := by decide +kernel
theorem dM_finds_23 : decode cM_finds 23 = .ok (.aload_n 0, 1) := by decide +kernel
theorem dM_finds_24 : decode cM_finds 24 = .ok (.getfield 13, 3) := by decide +kernel
theorem dM_finds_27 : decode cM_finds 27 = .ok (.iload_n 2, 1) := by decide +kernel
theorem dM_finds_28 : decode cM_finds 28 = .ok (.iaload, 1) := by decide +kernel
theorem dM_finds_29 : decode cM_finds 29 = .ok (.if_icmp .gt 50, 3) := by decide +kernel
theorem dM_finds_32 : decode cM_finds 32 = .ok (.aload_n 0, 1) := by decide +kernel
theorem dM_finds_33 : decode cM_finds 33 = .ok (.iload_n 3, 1) := by decide +kernel
theorem dM_finds_34 : decode cM_finds 34 = .ok (.aload_n 0, 1) := by decide +kernel
theorem dM_finds_35 : decode cM_finds 35 = .ok (.getfield 13, 3) := by decide +kernel
theorem dM_finds_38 : decode cM_finds 38 = .ok (.iload_n 2, 1) := by decide +kernel
theorem dM_finds_39 : decode cM_finds 39 = .ok (.iaload, 1) := by decide +kernel
theorem dM_finds_40 : decode cM_finds 40 = .ok (.invokevirtual 93, 3) := by decide +kernel
theorem dM_finds_43 : decode cM_finds 43 = .ok (.istore 4, 2) := by decide +kernel
theorem dM_finds_45 : decode cM_finds 45 = .ok (.aload_n 0, 1) := by decide +kernel
theorem dM_finds_46 : decode cM_finds 46 = .ok (.getfield 90, 3) := by decide +kernel
theorem dM_finds_49 : decode cM_finds 49 = .ok (.iload_n 1, 1) := by decide +kernel
theorem dM_finds_50 : decode cM_finds 50 = .ok (.if_icmp .ne 11, 3) := by decide +kernel
theorem dM_finds_53 : decode cM_finds 53 = .ok (.aload_n 0, 1) := by decide +kernel
theorem dM_finds_54 : decode cM_finds 54 = .ok (.iload_n 3, 1) := by decide +kernel
theorem dM_finds_55 : decode cM_finds 55 = .ok (.iload 4, 2) := by decide +kernel
theorem dM_finds_57 : decode cM_finds 57 = .ok (.invokevirtual 85, 3) := by decide +kernel
theorem dM_finds_60 : decode cM_finds 60 = .ok (.ireturn, 1) := by decide +kernel
theorem dM_finds_61 : decode cM_finds 61 = .ok (.aload_n 0, 1) := by decide +kernel
theorem dM_finds_62 : decode cM_finds 62 = .ok (.dup, 1) := by decide +kernel
theorem dM_finds_63 : decode cM_finds 63 = .ok (.getfield 90, 3) := by decide +kernel
theorem dM_finds_66 : decode cM_finds 66 = .ok (.iconst 1, 1) := by decide +kernel
theorem dM_finds_67 : decode cM_finds 67 = .ok (.iadd, 1) := by decide +kernel
theorem dM_finds_68 : decode cM_finds 68 = .ok (.putfield 90, 3) := by decide +kernel
theorem dM_finds_71 : decode cM_finds 71 = .ok (.iload 4, 2) := by decide +kernel
theorem dM_finds_73 : decode cM_finds 73 = .ok (.iconst 1, 1) := by decide +kernel
theorem dM_finds_74 : decode cM_finds 74 = .ok (.iadd, 1) := by decide +kernel
theorem dM_finds_75 : decode cM_finds 75 = .ok (.istore_n 3, 1) := by decide +kernel
theorem dM_finds_76 : decode cM_finds 76 = .ok (.goto (-54), 3) := by decide +kernel
theorem dM_finds_79 : decode cM_finds 79 = .ok (.iinc 2 1, 3) := by decide +kernel
theorem dM_finds_82 : decode cM_finds 82 = .ok (.goto (-75), 3) := by decide +kernel
theorem dM_finds_85 : decode cM_finds 85 = .ok (.iconst 0, 1) := by decide +kernel
theorem dM_finds_86 : decode cM_finds 86 = .ok (.ireturn, 1) := by decide +kernel
theorem dM_rows_0 : decode cM_rows 0 = .ok (.aload_n 0, 1) := by decide +kernel
theorem dM_rows_1 : decode cM_rows 1 = .ok (.iconst 0, 1) := by decide +kernel
theorem dM_rows_2 : decode cM_rows 2 = .ok (.putfield 38, 3) := by decide +kernel
theorem dM_rows_5 : decode cM_rows 5 = .ok (.aload_n 0, 1) := by decide +kernel
theorem dM_rows_6 : decode cM_rows 6 = .ok (.iconst (-1), 1) := by decide +kernel
theorem dM_rows_7 : decode cM_rows 7 = .ok (.invokevirtual 96, 3) := by decide +kernel
theorem dM_rows_10 : decode cM_rows 10 = .ok (.pop, 1) := by decide +kernel
theorem dM_rows_11 : decode cM_rows 11 = .ok (.aload_n 0, 1) := by decide +kernel
theorem dM_rows_12 : decode cM_rows 12 = .ok (.getfield 90, 3) := by decide +kernel
theorem dM_rows_15 : decode cM_rows 15 = .ok (.ireturn, 1) := by decide +kernel
theorem dM_row_0 : decode cM_row 0 = .ok (.aload_n 0, 1) := by decide +kernel
theorem dM_row_1 : decode cM_row 1 = .ok (.iconst 0, 1) := by decide +kernel
theorem dM_row_2 : decode cM_row 2 = .ok (.putfield 38, 3) := by decide +kernel
theorem dM_row_5 : decode cM_row 5 = .ok (.iload_n 1, 1) := by decide +kernel
theorem dM_row_6 : decode cM_row 6 = .ok (.ifCond .lt 23, 3) := by decide +kernel
theorem dM_row_9 : decode cM_row 9 = .ok (.aload_n 0, 1) := by decide +kernel
theorem dM_row_10 : decode cM_row 10 = .ok (.iload_n 1, 1) := by decide +kernel
theorem dM_row_11 : decode cM_row 11 = .ok (.invokevirtual 96, 3) := by decide +kernel
theorem dM_row_14 : decode cM_row 14 = .ok (.ifCond .eq 15, 3) := by decide +kernel
theorem dM_row_17 : decode cM_row 17 = .ok (.iload_n 2, 1) := by decide +kernel
theorem dM_row_18 : decode cM_row 18 = .ok (.ifCond .lt 11, 3) := by decide +kernel
theorem dM_row_21 : decode cM_row 21 = .ok (.iload_n 2, 1) := by decide +kernel
theorem dM_row_22 : decode cM_row 22 = .ok (.aload_n 0, 1) := by decide +kernel
theorem dM_row_23 : decode cM_row 23 = .ok (.getfield 78, 3) := by decide +kernel
theorem dM_row_26 : decode cM_row 26 = .ok (.if_icmp .le 5, 3) := by decide +kernel
theorem dM_row_29 : decode cM_row 29 = .ok (.iconst (-1), 1) := by decide +kernel
theorem dM_row_30 : decode cM_row 30 = .ok (.ireturn, 1) := by decide +kernel
theorem dM_row_31 : decode cM_row 31 = .ok (.iload_n 2, 1) := by decide +kernel
theorem dM_row_32 : decode cM_row 32 = .ok (.ifCond .ne 8, 3) := by decide +kernel
theorem dM_row_35 : decode cM_row 35 = .ok (.aload_n 0, 1) := by decide +kernel
theorem dM_row_36 : decode cM_row 36 = .ok (.getfield 78, 3) := by decide +kernel
theorem dM_row_39 : decode cM_row 39 = .ok (.ireturn, 1) := by decide +kernel
theorem dM_row_40 : decode cM_row 40 = .ok (.iload_n 3, 1) := by decide +kernel
theorem dM_row_41 : decode cM_row 41 = .ok (.ifCond .ne 14, 3) := by decide +kernel
theorem dM_row_44 : decode cM_row 44 = .ok (.aload_n 0, 1) := by decide +kernel
theorem dM_row_45 : decode cM_row 45 = .ok (.getfield 32, 3) := by decide +kernel
theorem dM_row_48 : decode cM_row 48 = .ok (.iload_n 2, 1) := by decide +kernel
theorem dM_row_49 : decode cM_row 49 = .ok (.iconst 1, 1) := by decide +kernel
theorem dM_row_50 : decode cM_row 50 = .ok (.isub, 1) := by decide +kernel
theorem dM_row_51 : decode cM_row 51 = .ok (.iaload, 1) := by decide +kernel
theorem dM_row_52 : decode cM_row 52 = .ok (.goto 20, 3) := by decide +kernel
theorem dM_row_55 : decode cM_row 55 = .ok (.iload_n 3, 1) := by decide +kernel
theorem dM_row_56 : decode cM_row 56 = .ok (.iconst 1, 1) := by decide +kernel
theorem dM_row_57 : decode cM_row 57 = .ok (.if_icmp .ne 14, 3) := by decide +kernel
theorem dM_row_60 : decode cM_row 60 = .ok (.aload_n 0, 1) := by decide +kernel
theorem dM_row_61 : decode cM_row 61 = .ok (.getfield 35, 3) := by decide +kernel
theorem dM_row_64 : decode cM_row 64 = .ok (.iload_n 2, 1) := by decide +kernel
theorem dM_row_65 : decode cM_row 65 = .ok (.iconst 1, 1) := by decide +kernel
theorem dM_row_66 : decode cM_row 66 = .ok (.isub, 1) := by decide +kernel
theorem dM_row_67 : decode cM_row 67 = .ok (.iaload, 1) := by decide +kernel
theorem dM_row_68 : decode cM_row 68 = .ok (.goto 4, 3) := by decide +kernel
theorem dM_row_71 : decode cM_row 71 = .ok (.iconst (-1), 1) := by decide +kernel
theorem dM_row_72 : decode cM_row 72 = .ok (.ireturn, 1) := by decide +kernel
theorem dM_takes_0 : decode cM_takes 0 = .ok (.aload_n 0, 1) := by decide +kernel
theorem dM_takes_1 : decode cM_takes 1 = .ok (.iconst 0, 1) := by decide +kernel
theorem dM_takes_2 : decode cM_takes 2 = .ok (.putfield 38, 3) := by decide +kernel
theorem dM_takes_5 : decode cM_takes 5 = .ok (.iload_n 2, 1) := by decide +kernel
theorem dM_takes_6 : decode cM_takes 6 = .ok (.iconst 1, 1) := by decide +kernel
theorem dM_takes_7 : decode cM_takes 7 = .ok (.if_icmp .lt 8, 3) := by decide +kernel
theorem dM_takes_10 : decode cM_takes 10 = .ok (.iload_n 2, 1) := by decide +kernel
theorem dM_takes_11 : decode cM_takes 11 = .ok (.iconst 4, 1) := by decide +kernel
theorem dM_takes_12 : decode cM_takes 12 = .ok (.if_icmp .le 5, 3) := by decide +kernel
theorem dM_takes_15 : decode cM_takes 15 = .ok (.iconst 0, 1) := by decide +kernel
theorem dM_takes_16 : decode cM_takes 16 = .ok (.ireturn, 1) := by decide +kernel
theorem dM_takes_17 : decode cM_takes 17 = .ok (.iload_n 1, 1) := by decide +kernel
theorem dM_takes_18 : decode cM_takes 18 = .ok (.bipush 24, 2) := by decide +kernel
theorem dM_takes_20 : decode cM_takes 20 = .ok (.ishr, 1) := by decide +kernel
theorem dM_takes_21 : decode cM_takes 21 = .ok (.sipush 255, 3) := by decide +kernel
theorem dM_takes_24 : decode cM_takes 24 = .ok (.iand, 1) := by decide +kernel
theorem dM_takes_25 : decode cM_takes 25 = .ok (.istore_n 3, 1) := by decide +kernel
theorem dM_takes_26 : decode cM_takes 26 = .ok (.iload_n 2, 1) := by decide +kernel
theorem dM_takes_27 : decode cM_takes 27 = .ok (.iconst 1, 1) := by decide +kernel
theorem dM_takes_28 : decode cM_takes 28 = .ok (.if_icmp .ne 7, 3) := by decide +kernel
theorem dM_takes_31 : decode cM_takes 31 = .ok (.iload_n 3, 1) := by decide +kernel
theorem dM_takes_32 : decode cM_takes 32 = .ok (.goto 34, 3) := by decide +kernel
theorem dM_takes_35 : decode cM_takes 35 = .ok (.iload_n 2, 1) := by decide +kernel
theorem dM_takes_36 : decode cM_takes 36 = .ok (.iconst 2, 1) := by decide +kernel
theorem dM_takes_37 : decode cM_takes 37 = .ok (.if_icmp .ne 11, 3) := by decide +kernel
theorem dM_takes_40 : decode cM_takes 40 = .ok (.iload_n 3, 1) := by decide +kernel
theorem dM_takes_41 : decode cM_takes 41 = .ok (.sipush 192, 3) := by decide +kernel
theorem dM_takes_44 : decode cM_takes 44 = .ok (.isub, 1) := by decide +kernel
theorem dM_takes_45 : decode cM_takes 45 = .ok (.goto 21, 3) := by decide +kernel
theorem dM_takes_48 : decode cM_takes 48 = .ok (.iload_n 2, 1) := by decide +kernel
theorem dM_takes_49 : decode cM_takes 49 = .ok (.iconst 3, 1) := by decide +kernel
theorem dM_takes_50 : decode cM_takes 50 = .ok (.if_icmp .ne 11, 3) := by decide +kernel
theorem dM_takes_53 : decode cM_takes 53 = .ok (.iload_n 3, 1) := by decide +kernel
theorem dM_takes_54 : decode cM_takes 54 = .ok (.sipush 224, 3) := by decide +kernel
theorem dM_takes_57 : decode cM_takes 57 = .ok (.isub, 1) := by decide +kernel
theorem dM_takes_58 : decode cM_takes 58 = .ok (.goto 8, 3) := by decide +kernel
theorem dM_takes_61 : decode cM_takes 61 = .ok (.iload_n 3, 1) := by decide +kernel
theorem dM_takes_62 : decode cM_takes 62 = .ok (.sipush 240, 3) := by decide +kernel
theorem dM_takes_65 : decode cM_takes 65 = .ok (.isub, 1) := by decide +kernel
theorem dM_takes_66 : decode cM_takes 66 = .ok (.istore 4, 2) := by decide +kernel
theorem dM_takes_68 : decode cM_takes 68 = .ok (.iload_n 2, 1) := by decide +kernel
theorem dM_takes_69 : decode cM_takes 69 = .ok (.iconst 1, 1) := by decide +kernel
theorem dM_takes_70 : decode cM_takes 70 = .ok (.if_icmp .ne 18, 3) := by decide +kernel
theorem dM_takes_73 : decode cM_takes 73 = .ok (.iload_n 3, 1) := by decide +kernel
theorem dM_takes_74 : decode cM_takes 74 = .ok (.sipush 128, 3) := by decide +kernel
theorem dM_takes_77 : decode cM_takes 77 = .ok (.if_icmp .ge 7, 3) := by decide +kernel
theorem dM_takes_80 : decode cM_takes 80 = .ok (.iconst 1, 1) := by decide +kernel
theorem dM_takes_81 : decode cM_takes 81 = .ok (.goto 44, 3) := by decide +kernel
theorem dM_takes_84 : decode cM_takes 84 = .ok (.iconst 0, 1) := by decide +kernel
theorem dM_takes_85 : decode cM_takes 85 = .ok (.goto 40, 3) := by decide +kernel
theorem dM_takes_88 : decode cM_takes 88 = .ok (.iload 4, 2) := by decide +kernel
theorem dM_takes_90 : decode cM_takes 90 = .ok (.ifCond .lt 34, 3) := by decide +kernel
theorem dM_takes_93 : decode cM_takes 93 = .ok (.iload 4, 2) := by decide +kernel
theorem dM_takes_95 : decode cM_takes 95 = .ok (.iload_n 2, 1) := by decide +kernel
theorem dM_takes_96 : decode cM_takes 96 = .ok (.iconst 2, 1) := by decide +kernel
theorem dM_takes_97 : decode cM_takes 97 = .ok (.if_icmp .ne 8, 3) := by decide +kernel
theorem dM_takes_100 : decode cM_takes 100 = .ok (.bipush 32, 2) := by decide +kernel
theorem dM_takes_102 : decode cM_takes 102 = .ok (.goto 15, 3) := by decide +kernel
theorem dM_takes_105 : decode cM_takes 105 = .ok (.iload_n 2, 1) := by decide +kernel
theorem dM_takes_106 : decode cM_takes 106 = .ok (.iconst 3, 1) := by decide +kernel
theorem dM_takes_107 : decode cM_takes 107 = .ok (.if_icmp .ne 8, 3) := by decide +kernel
theorem dM_takes_110 : decode cM_takes 110 = .ok (.bipush 16, 2) := by decide +kernel
theorem dM_takes_112 : decode cM_takes 112 = .ok (.goto 5, 3) := by decide +kernel
theorem dM_takes_115 : decode cM_takes 115 = .ok (.bipush 8, 2) := by decide +kernel
theorem dM_takes_117 : decode cM_takes 117 = .ok (.if_icmp .ge 7, 3) := by decide +kernel
theorem dM_takes_120 : decode cM_takes 120 = .ok (.iconst 1, 1) := by decide +kernel
theorem dM_takes_121 : decode cM_takes 121 = .ok (.goto 4, 3) := by decide +kernel
theorem dM_takes_124 : decode cM_takes 124 = .ok (.iconst 0, 1) := by decide +kernel
theorem dM_takes_125 : decode cM_takes 125 = .ok (.istore 5, 2) := by decide +kernel
theorem dM_takes_127 : decode cM_takes 127 = .ok (.iconst 1, 1) := by decide +kernel
theorem dM_takes_128 : decode cM_takes 128 = .ok (.istore 6, 2) := by decide +kernel
theorem dM_takes_130 : decode cM_takes 130 = .ok (.iload 6, 2) := by decide +kernel
theorem dM_takes_132 : decode cM_takes 132 = .ok (.iload_n 2, 1) := by decide +kernel
theorem dM_takes_133 : decode cM_takes 133 = .ok (.if_icmp .ge 66, 3) := by decide +kernel
theorem dM_takes_136 : decode cM_takes 136 = .ok (.iload_n 1, 1) := by decide +kernel
theorem dM_takes_137 : decode cM_takes 137 = .ok (.bipush 24, 2) := by decide +kernel
theorem dM_takes_139 : decode cM_takes 139 = .ok (.bipush 8, 2) := by decide +kernel
theorem dM_takes_141 : decode cM_takes 141 = .ok (.iload 6, 2) := by decide +kernel
theorem dM_takes_143 : decode cM_takes 143 = .ok (.imul, 1) := by decide +kernel
theorem dM_takes_144 : decode cM_takes 144 = .ok (.isub, 1) := by decide +kernel
theorem dM_takes_145 : decode cM_takes 145 = .ok (.ishr, 1) := by decide +kernel
theorem dM_takes_146 : decode cM_takes 146 = .ok (.sipush 255, 3) := by decide +kernel
theorem dM_takes_149 : decode cM_takes 149 = .ok (.iand, 1) := by decide +kernel
theorem dM_takes_150 : decode cM_takes 150 = .ok (.istore 7, 2) := by decide +kernel
theorem dM_takes_152 : decode cM_takes 152 = .ok (.iload 5, 2) := by decide +kernel
theorem dM_takes_154 : decode cM_takes 154 = .ok (.ifCond .eq 23, 3) := by decide +kernel
theorem dM_takes_157 : decode cM_takes 157 = .ok (.iload 7, 2) := by decide +kernel
theorem dM_takes_159 : decode cM_takes 159 = .ok (.sipush 128, 3) := by decide +kernel
theorem dM_takes_162 : decode cM_takes 162 = .ok (.if_icmp .lt 15, 3) := by decide +kernel
theorem dM_takes_165 : decode cM_takes 165 = .ok (.iload 7, 2) := by decide +kernel
theorem dM_takes_167 : decode cM_takes 167 = .ok (.sipush 192, 3) := by decide +kernel
theorem dM_takes_170 : decode cM_takes 170 = .ok (.if_icmp .ge 7, 3) := by decide +kernel
theorem dM_takes_173 : decode cM_takes 173 = .ok (.iconst 1, 1) := by decide +kernel
theorem dM_takes_174 : decode cM_takes 174 = .ok (.goto 4, 3) := by decide +kernel
theorem dM_takes_177 : decode cM_takes 177 = .ok (.iconst 0, 1) := by decide +kernel
theorem dM_takes_178 : decode cM_takes 178 = .ok (.istore 5, 2) := by decide +kernel
theorem dM_takes_180 : decode cM_takes 180 = .ok (.iload 4, 2) := by decide +kernel
theorem dM_takes_182 : decode cM_takes 182 = .ok (.bipush 64, 2) := by decide +kernel
theorem dM_takes_184 : decode cM_takes 184 = .ok (.imul, 1) := by decide +kernel
theorem dM_takes_185 : decode cM_takes 185 = .ok (.iload 7, 2) := by decide +kernel
theorem dM_takes_187 : decode cM_takes 187 = .ok (.bipush 63, 2) := by decide +kernel
theorem dM_takes_189 : decode cM_takes 189 = .ok (.iand, 1) := by decide +kernel
theorem dM_takes_190 : decode cM_takes 190 = .ok (.iadd, 1) := by decide +kernel
theorem dM_takes_191 : decode cM_takes 191 = .ok (.istore 4, 2) := by decide +kernel
theorem dM_takes_193 : decode cM_takes 193 = .ok (.iinc 6 1, 3) := by decide +kernel
theorem dM_takes_196 : decode cM_takes 196 = .ok (.goto (-66), 3) := by decide +kernel
theorem dM_takes_199 : decode cM_takes 199 = .ok (.iload 5, 2) := by decide +kernel
theorem dM_takes_201 : decode cM_takes 201 = .ok (.ifCond .eq 32, 3) := by decide +kernel
theorem dM_takes_204 : decode cM_takes 204 = .ok (.iload 4, 2) := by decide +kernel
theorem dM_takes_206 : decode cM_takes 206 = .ok (.ldc 52, 2) := by decide +kernel
theorem dM_takes_208 : decode cM_takes 208 = .ok (.if_icmp .gt 25, 3) := by decide +kernel
theorem dM_takes_211 : decode cM_takes 211 = .ok (.iload 4, 2) := by decide +kernel
theorem dM_takes_213 : decode cM_takes 213 = .ok (.invokestatic 75, 3) := by decide +kernel
theorem dM_takes_216 : decode cM_takes 216 = .ok (.iload_n 2, 1) := by decide +kernel
theorem dM_takes_217 : decode cM_takes 217 = .ok (.if_icmp .ne 16, 3) := by decide +kernel
theorem dM_takes_220 : decode cM_takes 220 = .ok (.aload_n 0, 1) := by decide +kernel
theorem dM_takes_221 : decode cM_takes 221 = .ok (.iload 4, 2) := by decide +kernel
theorem dM_takes_223 : decode cM_takes 223 = .ok (.invokevirtual 70, 3) := by decide +kernel
theorem dM_takes_226 : decode cM_takes 226 = .ok (.ifCond .eq 7, 3) := by decide +kernel
theorem dM_takes_229 : decode cM_takes 229 = .ok (.iconst 1, 1) := by decide +kernel
theorem dM_takes_230 : decode cM_takes 230 = .ok (.goto 4, 3) := by decide +kernel
theorem dM_takes_233 : decode cM_takes 233 = .ok (.iconst 0, 1) := by decide +kernel
theorem dM_takes_234 : decode cM_takes 234 = .ok (.ireturn, 1) := by decide +kernel
set_option maxRecDepth 20000 in
theorem gM_putsSet_M_puts : GoodIn wsM_putsSet (wsV RX2 48 RX2 yM_puts wsM_puts) := goodIn_app (goodIn_of _ (by decide +kernel)) (gM_of (by decide +kernel))
set_option maxRecDepth 20000 in
theorem gM_add_M_putsSet : GoodIn wsM_add (wsV RX2 53 RX2 yM_putsSet wsM_putsSet) := goodIn_app (goodIn_of _ (by decide +kernel)) (gM_of (by decide +kernel))
set_option maxRecDepth 20000 in
theorem gM_add_M_puts : GoodIn wsM_add (wsV RX2 48 RX2 yM_puts wsM_puts) := goodIn_app (goodIn_of _ (by decide +kernel)) (gM_of (by decide +kernel))
set_option maxRecDepth 20000 in
theorem gM_add_M_gathers : GoodIn wsM_add (wsV RX2 59 RX2 yM_gathers wsM_gathers) := goodIn_app (goodIn_of _ (by decide +kernel)) (gM_of (by decide +kernel))
set_option maxRecDepth 20000 in
theorem gM_turn_M_puts : GoodIn wsM_turn (wsV RX2 48 RX2 yM_puts wsM_puts) := goodIn_app (goodIn_of _ (by decide +kernel)) (gM_of (by decide +kernel))
set_option maxRecDepth 20000 in
theorem gM_turn_M_gathers : GoodIn wsM_turn (wsV RX2 59 RX2 yM_gathers wsM_gathers) := goodIn_app (goodIn_of _ (by decide +kernel)) (gM_of (by decide +kernel))
set_option maxRecDepth 20000 in
theorem gM_join_M_putsSet : GoodIn wsM_join (wsV RX2 53 RX2 yM_putsSet wsM_putsSet) := goodIn_app (goodIn_of _ (by decide +kernel)) (gM_of (by decide +kernel))
set_option maxRecDepth 20000 in
theorem gM_join_M_puts : GoodIn wsM_join (wsV RX2 48 RX2 yM_puts wsM_puts) := goodIn_app (goodIn_of _ (by decide +kernel)) (gM_of (by decide +kernel))
set_option maxRecDepth 20000 in
theorem gM_join_M_gathers : GoodIn wsM_join (wsV RX2 59 RX2 yM_gathers wsM_gathers) := goodIn_app (goodIn_of _ (by decide +kernel)) (gM_of (by decide +kernel))
set_option maxRecDepth 20000 in
theorem gM_fold_M_standsFor : GoodIn wsM_fold (va_wsS RX2 66 yM_standsFor wsM_standsFor) := goodIn_app (goodIn_of _ (by decide +kernel)) (gM_of (by decide +kernel))
set_option maxRecDepth 20000 in
theorem gM_fold_M_isIn : GoodIn wsM_fold (wsV RX2 70 RX2 yM_isIn wsM_isIn) := goodIn_app (goodIn_of _ (by decide +kernel)) (gM_of (by decide +kernel))
set_option maxRecDepth 20000 in
theorem gM_fold_M_putsSet : GoodIn wsM_fold (wsV RX2 53 RX2 yM_putsSet wsM_putsSet) := goodIn_app (goodIn_of _ (by decide +kernel)) (gM_of (by decide +kernel))
set_option maxRecDepth 20000 in
theorem gM_fold_M_puts : GoodIn wsM_fold (wsV RX2 48 RX2 yM_puts wsM_puts) := goodIn_app (goodIn_of _ (by decide +kernel)) (gM_of (by decide +kernel))
set_option maxRecDepth 20000 in
theorem gM_fold_M_gathers : GoodIn wsM_fold (wsV RX2 59 RX2 yM_gathers wsM_gathers) := goodIn_app (goodIn_of _ (by decide +kernel)) (gM_of (by decide +kernel))
set_option maxRecDepth 20000 in
theorem gM_has_M_isIn : GoodIn wsM_has (wsV RX2 70 RX2 yM_isIn wsM_isIn) := goodIn_app (goodIn_of _ (by decide +kernel)) (gM_of (by decide +kernel))
set_option maxRecDepth 20000 in
theorem gM_byteOf_M_length : GoodIn wsM_byteOf (va_wsS RX2 75 yM_length wsM_length) := goodIn_app (goodIn_of _ (by decide +kernel)) (gM_of (by decide +kernel))
set_option maxRecDepth 20000 in
theorem gM_isRow_M_length : GoodIn wsM_isRow (va_wsS RX2 75 yM_length wsM_length) := goodIn_app (goodIn_of _ (by decide +kernel)) (gM_of (by decide +kernel))
set_option maxRecDepth 20000 in
theorem gM_isRow_M_byteOf : GoodIn wsM_isRow (va_wsS RX2 81 yM_byteOf wsM_byteOf) := goodIn_app (goodIn_of _ (by decide +kernel)) (gM_of (by decide +kernel))
set_option maxRecDepth 20000 in
theorem gM_runs_M_isRow : GoodIn wsM_runs (wsV RX2 85 RX2 yM_isRow wsM_isRow) := goodIn_app (goodIn_of _ (by decide +kernel)) (gM_of (by decide +kernel))
set_option maxRecDepth 20000 in
theorem gM_runs_M_length : GoodIn wsM_runs (va_wsS RX2 75 yM_length wsM_length) := goodIn_app (goodIn_of _ (by decide +kernel)) (gM_of (by decide +kernel))
set_option maxRecDepth 20000 in
theorem gM_finds_M_runs : GoodIn wsM_finds (wsV RX2 93 RX2 yM_runs wsM_runs) := goodIn_app (goodIn_of _ (by decide +kernel)) (gM_of (by decide +kernel))
set_option maxRecDepth 20000 in
theorem gM_finds_M_isRow : GoodIn wsM_finds (wsV RX2 85 RX2 yM_isRow wsM_isRow) := goodIn_app (goodIn_of _ (by decide +kernel)) (gM_of (by decide +kernel))
set_option maxRecDepth 20000 in
theorem gM_rows_M_finds : GoodIn wsM_rows (wsV RX2 96 RX2 yM_finds wsM_finds) := goodIn_app (goodIn_of _ (by decide +kernel)) (gM_of (by decide +kernel))
set_option maxRecDepth 20000 in
theorem gM_row_M_finds : GoodIn wsM_row (wsV RX2 96 RX2 yM_finds wsM_finds) := goodIn_app (goodIn_of _ (by decide +kernel)) (gM_of (by decide +kernel))
set_option maxRecDepth 20000 in
theorem gM_takes_M_length : GoodIn wsM_takes (va_wsS RX2 75 yM_length wsM_length) := goodIn_app (goodIn_of _ (by decide +kernel)) (gM_of (by decide +kernel))
set_option maxRecDepth 20000 in
theorem gM_takes_M_isIn : GoodIn wsM_takes (wsV RX2 70 RX2 yM_isIn wsM_isIn) := goodIn_app (goodIn_of _ (by decide +kernel)) (gM_of (by decide +kernel))
