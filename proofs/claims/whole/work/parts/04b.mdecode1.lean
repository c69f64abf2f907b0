theorem dM_init_0 : decode cM_init 0 = .ok (.aload_n 0, 1) := by decide +kernel
theorem dM_init_1 : decode cM_init 1 = .ok (.invokespecial 1, 3) := by decide +kernel
theorem dM_init_4 : decode cM_init 4 = .ok (.aload_n 0, 1) := by decide +kernel
theorem dM_init_5 : decode cM_init 5 = .ok (.sipush 2400, 3) := by decide +kernel
theorem dM_init_8 : decode cM_init 8 = .ok (.newarray .int, 2) := by decide +kernel
theorem dM_init_10 : decode cM_init 10 = .ok (.putfield 7, 3) := by decide +kernel
theorem dM_init_13 : decode cM_init 13 = .ok (.aload_n 0, 1) := by decide +kernel
theorem dM_init_14 : decode cM_init 14 = .ok (.sipush 2400, 3) := by decide +kernel
theorem dM_init_17 : decode cM_init 17 = .ok (.newarray .int, 2) := by decide +kernel
theorem dM_init_19 : decode cM_init 19 = .ok (.putfield 13, 3) := by decide +kernel
theorem dM_init_22 : decode cM_init 22 = .ok (.aload_n 0, 1) := by decide +kernel
theorem dM_init_23 : decode cM_init 23 = .ok (.sipush 2400, 3) := by decide +kernel
theorem dM_init_26 : decode cM_init 26 = .ok (.newarray .int, 2) := by decide +kernel
theorem dM_init_28 : decode cM_init 28 = .ok (.putfield 16, 3) := by decide +kernel
theorem dM_init_31 : decode cM_init 31 = .ok (.aload_n 0, 1) := by decide +kernel
theorem dM_init_32 : decode cM_init 32 = .ok (.sipush 2400, 3) := by decide +kernel
theorem dM_init_35 : decode cM_init 35 = .ok (.newarray .int, 2) := by decide +kernel
theorem dM_init_37 : decode cM_init 37 = .ok (.putfield 19, 3) := by decide +kernel
theorem dM_init_40 : decode cM_init 40 = .ok (.aload_n 0, 1) := by decide +kernel
theorem dM_init_41 : decode cM_init 41 = .ok (.sipush 4800, 3) := by decide +kernel
theorem dM_init_44 : decode cM_init 44 = .ok (.newarray .int, 2) := by decide +kernel
theorem dM_init_46 : decode cM_init 46 = .ok (.putfield 22, 3) := by decide +kernel
theorem dM_init_49 : decode cM_init 49 = .ok (.aload_n 0, 1) := by decide +kernel
theorem dM_init_50 : decode cM_init 50 = .ok (.sipush 4800, 3) := by decide +kernel
theorem dM_init_53 : decode cM_init 53 = .ok (.newarray .int, 2) := by decide +kernel
theorem dM_init_55 : decode cM_init 55 = .ok (.putfield 25, 3) := by decide +kernel
theorem dM_init_58 : decode cM_init 58 = .ok (.aload_n 0, 1) := by decide +kernel
theorem dM_init_59 : decode cM_init 59 = .ok (.sipush 1120, 3) := by decide +kernel
theorem dM_init_62 : decode cM_init 62 = .ok (.newarray .boolean, 2) := by decide +kernel
theorem dM_init_64 : decode cM_init 64 = .ok (.putfield 28, 3) := by decide +kernel
theorem dM_init_67 : decode cM_init 67 = .ok (.aload_n 0, 1) := by decide +kernel
theorem dM_init_68 : decode cM_init 68 = .ok (.iconst 4, 1) := by decide +kernel
theorem dM_init_69 : decode cM_init 69 = .ok (.newarray .int, 2) := by decide +kernel
theorem dM_init_71 : decode cM_init 71 = .ok (.putfield 32, 3) := by decide +kernel
theorem dM_init_74 : decode cM_init 74 = .ok (.aload_n 0, 1) := by decide +kernel
theorem dM_init_75 : decode cM_init 75 = .ok (.iconst 4, 1) := by decide +kernel
theorem dM_init_76 : decode cM_init 76 = .ok (.newarray .int, 2) := by decide +kernel
theorem dM_init_78 : decode cM_init 78 = .ok (.putfield 35, 3) := by decide +kernel
theorem dM_init_81 : decode cM_init 81 = .ok (.return_, 1) := by decide +kernel
theorem dM_thrown_0 : decode cM_thrown 0 = .ok (.aload_n 0, 1) := by decide +kernel
theorem dM_thrown_1 : decode cM_thrown 1 = .ok (.getfield 38, 3) := by decide +kernel
theorem dM_thrown_4 : decode cM_thrown 4 = .ok (.ireturn, 1) := by decide +kernel
theorem dM_puts_0 : decode cM_puts 0 = .ok (.iload_n 1, 1) := by decide +kernel
theorem dM_puts_1 : decode cM_puts 1 = .ok (.iload_n 2, 1) := by decide +kernel
theorem dM_puts_2 : decode cM_puts 2 = .ok (.if_icmp .gt 33, 3) := by decide +kernel
theorem dM_puts_5 : decode cM_puts 5 = .ok (.aload_n 0, 1) := by decide +kernel
theorem dM_puts_6 : decode cM_puts 6 = .ok (.getfield 22, 3) := by decide +kernel
theorem dM_puts_9 : decode cM_puts 9 = .ok (.aload_n 0, 1) := by decide +kernel
theorem dM_puts_10 : decode cM_puts 10 = .ok (.getfield 42, 3) := by decide +kernel
theorem dM_puts_13 : decode cM_puts 13 = .ok (.iload_n 1, 1) := by decide +kernel
theorem dM_puts_14 : decode cM_puts 14 = .ok (.iastore, 1) := by decide +kernel
theorem dM_puts_15 : decode cM_puts 15 = .ok (.aload_n 0, 1) := by decide +kernel
theorem dM_puts_16 : decode cM_puts 16 = .ok (.getfield 25, 3) := by decide +kernel
theorem dM_puts_19 : decode cM_puts 19 = .ok (.aload_n 0, 1) := by decide +kernel
theorem dM_puts_20 : decode cM_puts 20 = .ok (.getfield 42, 3) := by decide +kernel
theorem dM_puts_23 : decode cM_puts 23 = .ok (.iload_n 2, 1) := by decide +kernel
theorem dM_puts_24 : decode cM_puts 24 = .ok (.iastore, 1) := by decide +kernel
theorem dM_puts_25 : decode cM_puts 25 = .ok (.aload_n 0, 1) := by decide +kernel
theorem dM_puts_26 : decode cM_puts 26 = .ok (.dup, 1) := by decide +kernel
theorem dM_puts_27 : decode cM_puts 27 = .ok (.getfield 42, 3) := by decide +kernel
theorem dM_puts_30 : decode cM_puts 30 = .ok (.iconst 1, 1) := by decide +kernel
theorem dM_puts_31 : decode cM_puts 31 = .ok (.iadd, 1) := by decide +kernel
theorem dM_puts_32 : decode cM_puts 32 = .ok (.putfield 42, 3) := by decide +kernel
theorem dM_puts_35 : decode cM_puts 35 = .ok (.return_, 1) := by decide +kernel
theorem dM_gathers_0 : decode cM_gathers 0 = .ok (.aload_n 0, 1) := by decide +kernel
theorem dM_gathers_1 : decode cM_gathers 1 = .ok (.iconst 0, 1) := by decide +kernel
theorem dM_gathers_2 : decode cM_gathers 2 = .ok (.putfield 45, 3) := by decide +kernel
theorem dM_gathers_5 : decode cM_gathers 5 = .ok (.iconst (-1), 1) := by decide +kernel
theorem dM_gathers_6 : decode cM_gathers 6 = .ok (.istore_n 1, 1) := by decide +kernel
theorem dM_gathers_7 : decode cM_gathers 7 = .ok (.aload_n 0, 1) := by decide +kernel
theorem dM_gathers_8 : decode cM_gathers 8 = .ok (.getfield 42, 3) := by decide +kernel
theorem dM_gathers_11 : decode cM_gathers 11 = .ok (.ifCond .le 7, 3) := by decide +kernel
theorem dM_gathers_14 : decode cM_gathers 14 = .ok (.iconst 1, 1) := by decide +kernel
theorem dM_gathers_15 : decode cM_gathers 15 = .ok (.goto 4, 3) := by decide +kernel
theorem dM_gathers_18 : decode cM_gathers 18 = .ok (.iconst 0, 1) := by decide +kernel
theorem dM_gathers_19 : decode cM_gathers 19 = .ok (.istore_n 2, 1) := by decide +kernel
theorem dM_gathers_20 : decode cM_gathers 20 = .ok (.iload_n 2, 1) := by decide +kernel
theorem dM_gathers_21 : decode cM_gathers 21 = .ok (.ifCond .eq 188, 3) := by decide +kernel
theorem dM_gathers_24 : decode cM_gathers 24 = .ok (.iconst (-1), 1) := by decide +kernel
theorem dM_gathers_25 : decode cM_gathers 25 = .ok (.istore_n 3, 1) := by decide +kernel
theorem dM_gathers_26 : decode cM_gathers 26 = .ok (.iconst 0, 1) := by decide +kernel
theorem dM_gathers_27 : decode cM_gathers 27 = .ok (.istore 4, 2) := by decide +kernel
theorem dM_gathers_29 : decode cM_gathers 29 = .ok (.iload 4, 2) := by decide +kernel
theorem dM_gathers_31 : decode cM_gathers 31 = .ok (.aload_n 0, 1) := by decide +kernel
theorem dM_gathers_32 : decode cM_gathers 32 = .ok (.getfield 42, 3) := by decide +kernel
theorem dM_gathers_35 : decode cM_gathers 35 = .ok (.if_icmp .ge 59, 3) := by decide +kernel
theorem dM_gathers_38 : decode cM_gathers 38 = .ok (.aload_n 0, 1) := by decide +kernel
theorem dM_gathers_39 : decode cM_gathers 39 = .ok (.getfield 22, 3) := by decide +kernel
theorem dM_gathers_42 : decode cM_gathers 42 = .ok (.iload 4, 2) := by decide +kernel
theorem dM_gathers_44 : decode cM_gathers 44 = .ok (.iaload, 1) := by decide +kernel
theorem dM_gathers_45 : decode cM_gathers 45 = .ok (.ifCond .lt 28, 3) := by decide +kernel
theorem dM_gathers_48 : decode cM_gathers 48 = .ok (.iload_n 3, 1) := by decide +kernel
theorem dM_gathers_49 : decode cM_gathers 49 = .ok (.iconst (-1), 1) := by decide +kernel
theorem dM_gathers_50 : decode cM_gathers 50 = .ok (.if_icmp .eq 19, 3) := by decide +kernel
theorem dM_gathers_53 : decode cM_gathers 53 = .ok (.aload_n 0, 1) := by decide +kernel
theorem dM_gathers_54 : decode cM_gathers 54 = .ok (.getfield 22, 3) := by decide +kernel
theorem dM_gathers_57 : decode cM_gathers 57 = .ok (.iload 4, 2) := by decide +kernel
theorem dM_gathers_59 : decode cM_gathers 59 = .ok (.iaload, 1) := by decide +kernel
theorem dM_gathers_60 : decode cM_gathers 60 = .ok (.aload_n 0, 1) := by decide +kernel
theorem dM_gathers_61 : decode cM_gathers 61 = .ok (.getfield 22, 3) := by decide +kernel
theorem dM_gathers_64 : decode cM_gathers 64 = .ok (.iload_n 3, 1) := by decide +kernel
theorem dM_gathers_65 : decode cM_gathers 65 = .ok (.iaload, 1) := by decide +kernel
theorem dM_gathers_66 : decode cM_gathers 66 = .ok (.if_icmp .ge 7, 3) := by decide +kernel
theorem dM_gathers_69 : decode cM_gathers 69 = .ok (.iconst 1, 1) := by decide +kernel
theorem dM_gathers_70 : decode cM_gathers 70 = .ok (.goto 4, 3) := by decide +kernel
theorem dM_gathers_73 : decode cM_gathers 73 = .ok (.iconst 0, 1) := by decide +kernel
theorem dM_gathers_74 : decode cM_gathers 74 = .ok (.istore 5, 2) := by decide +kernel
theorem dM_gathers_76 : decode cM_gathers 76 = .ok (.iload 5, 2) := by decide +kernel
theorem dM_gathers_78 : decode cM_gathers 78 = .ok (.ifCond .eq 8, 3) := by decide +kernel
theorem dM_gathers_81 : decode cM_gathers 81 = .ok (.iload 4, 2) := by decide +kernel
theorem dM_gathers_83 : decode cM_gathers 83 = .ok (.goto 4, 3) := by decide +kernel
theorem dM_gathers_86 : decode cM_gathers 86 = .ok (.iload_n 3, 1) := by decide +kernel
theorem dM_gathers_87 : decode cM_gathers 87 = .ok (.istore_n 3, 1) := by decide +kernel
theorem dM_gathers_88 : decode cM_gathers 88 = .ok (.iinc 4 1, 3) := by decide +kernel
theorem dM_gathers_91 : decode cM_gathers 91 = .ok (.goto (-62), 3) := by decide +kernel
theorem dM_gathers_94 : decode cM_gathers 94 = .ok (.iload_n 3, 1) := by decide +kernel
theorem dM_gathers_95 : decode cM_gathers 95 = .ok (.iconst (-1), 1) := by decide +kernel
theorem dM_gathers_96 : decode cM_gathers 96 = .ok (.if_icmp .eq 7, 3) := by decide +kernel
theorem dM_gathers_99 : decode cM_gathers 99 = .ok (.iconst 1, 1) := by decide +kernel
theorem dM_gathers_100 : decode cM_gathers 100 = .ok (.goto 4, 3) := by decide +kernel
theorem dM_gathers_103 : decode cM_gathers 103 = .ok (.iconst 0, 1) := by decide +kernel
theorem dM_gathers_104 : decode cM_gathers 104 = .ok (.istore_n 2, 1) := by decide +kernel
theorem dM_gathers_105 : decode cM_gathers 105 = .ok (.iload_n 2, 1) := by decide +kernel
theorem dM_gathers_106 : decode cM_gathers 106 = .ok (.ifCond .ne 6, 3) := by decide +kernel
theorem dM_gathers_109 : decode cM_gathers 109 = .ok (.goto (-89), 3) := by decide +kernel
theorem dM_gathers_112 : decode cM_gathers 112 = .ok (.aload_n 0, 1) := by decide +kernel
theorem dM_gathers_113 : decode cM_gathers 113 = .ok (.getfield 45, 3) := by decide +kernel
theorem dM_gathers_116 : decode cM_gathers 116 = .ok (.ifCond .le 39, 3) := by decide +kernel
theorem dM_gathers_119 : decode cM_gathers 119 = .ok (.aload_n 0, 1) := by decide +kernel
theorem dM_gathers_120 : decode cM_gathers 120 = .ok (.getfield 22, 3) := by decide +kernel
theorem dM_gathers_123 : decode cM_gathers 123 = .ok (.iload_n 3, 1) := by decide +kernel
theorem dM_gathers_124 : decode cM_gathers 124 = .ok (.iaload, 1) := by decide +kernel
theorem dM_gathers_125 : decode cM_gathers 125 = .ok (.iload_n 1, 1) := by decide +kernel
theorem dM_gathers_126 : decode cM_gathers 126 = .ok (.iconst 1, 1) := by decide +kernel
theorem dM_gathers_127 : decode cM_gathers 127 = .ok (.iadd, 1) := by decide +kernel
theorem dM_gathers_128 : decode cM_gathers 128 = .ok (.if_icmp .gt 27, 3) := by decide +kernel
theorem dM_gathers_131 : decode cM_gathers 131 = .ok (.aload_n 0, 1) := by decide +kernel
theorem dM_gathers_132 : decode cM_gathers 132 = .ok (.getfield 25, 3) := by decide +kernel
theorem dM_gathers_135 : decode cM_gathers 135 = .ok (.iload_n 3, 1) := by decide +kernel
theorem dM_gathers_136 : decode cM_gathers 136 = .ok (.iaload, 1) := by decide +kernel
theorem dM_gathers_137 : decode cM_gathers 137 = .ok (.iload_n 1, 1) := by decide +kernel
theorem dM_gathers_138 : decode cM_gathers 138 = .ok (.if_icmp .le 12, 3) := by decide +kernel
theorem dM_gathers_141 : decode cM_gathers 141 = .ok (.aload_n 0, 1) := by decide +kernel
theorem dM_gathers_142 : decode cM_gathers 142 = .ok (.getfield 25, 3) := by decide +kernel
theorem dM_gathers_145 : decode cM_gathers 145 = .ok (.iload_n 3, 1) := by decide +kernel
theorem dM_gathers_146 : decode cM_gathers 146 = .ok (.iaload, 1) := by decide +kernel
theorem dM_gathers_147 : decode cM_gathers 147 = .ok (.goto 4, 3) := by decide +kernel
theorem dM_gathers_150 : decode cM_gathers 150 = .ok (.iload_n 1, 1) := by decide +kernel
theorem dM_gathers_151 : decode cM_gathers 151 = .ok (.istore_n 1, 1) := by decide +kernel
theorem dM_gathers_152 : decode cM_gathers 152 = .ok (.goto 35, 3) := by decide +kernel
theorem dM_gathers_155 : decode cM_gathers 155 = .ok (.aload_n 0, 1) := by decide +kernel
theorem dM_gathers_156 : decode cM_gathers 156 = .ok (.getfield 7, 3) := by decide +kernel
theorem dM_gathers_159 : decode cM_gathers 159 = .ok (.aload_n 0, 1) := by decide +kernel
theorem dM_gathers_160 : decode cM_gathers 160 = .ok (.getfield 45, 3) := by decide +kernel
theorem dM_gathers_163 : decode cM_gathers 163 = .ok (.aload_n 0, 1) := by decide +kernel
theorem dM_gathers_164 : decode cM_gathers 164 = .ok (.getfield 22, 3) := by decide +kernel
theorem dM_gathers_167 : decode cM_gathers 167 = .ok (.iload_n 3, 1) := by decide +kernel
theorem dM_gathers_168 : decode cM_gathers 168 = .ok (.iaload, 1) := by decide +kernel
theorem dM_gathers_169 : decode cM_gathers 169 = .ok (.iastore, 1) := by decide +kernel
theorem dM_gathers_170 : decode cM_gathers 170 = .ok (.aload_n 0, 1) := by decide +kernel
theorem dM_gathers_171 : decode cM_gathers 171 = .ok (.getfield 25, 3) := by decide +kernel
theorem dM_gathers_174 : decode cM_gathers 174 = .ok (.iload_n 3, 1) := by decide +kernel
theorem dM_gathers_175 : decode cM_gathers 175 = .ok (.iaload, 1) := by decide +kernel
theorem dM_gathers_176 : decode cM_gathers 176 = .ok (.istore_n 1, 1) := by decide +kernel
theorem dM_gathers_177 : decode cM_gathers 177 = .ok (.aload_n 0, 1) := by decide +kernel
theorem dM_gathers_178 : decode cM_gathers 178 = .ok (.dup, 1) := by decide +kernel
theorem dM_gathers_179 : decode cM_gathers 179 = .ok (.getfield 45, 3) := by decide +kernel
theorem dM_gathers_182 : decode cM_gathers 182 = .ok (.iconst 1, 1) := by decide +kernel
theorem dM_gathers_183 : decode cM_gathers 183 = .ok (.iadd, 1) := by decide +kernel
theorem dM_gathers_184 : decode cM_gathers 184 = .ok (.putfield 45, 3) := by decide +kernel
theorem dM_gathers_187 : decode cM_gathers 187 = .ok (.aload_n 0, 1) := by decide +kernel
theorem dM_gathers_188 : decode cM_gathers 188 = .ok (.getfield 13, 3) := by decide +kernel
theorem dM_gathers_191 : decode cM_gathers 191 = .ok (.aload_n 0, 1) := by decide +kernel
theorem dM_gathers_192 : decode cM_gathers 192 = .ok (.getfield 45, 3) := by decide +kernel
theorem dM_gathers_195 : decode cM_gathers 195 = .ok (.iconst 1, 1) := by decide +kernel
theorem dM_gathers_196 : decode cM_gathers 196 = .ok (.isub, 1) := by decide +kernel
theorem dM_gathers_197 : decode cM_gathers 197 = .ok (.iload_n 1, 1) := by decide +kernel
theorem dM_gathers_198 : decode cM_gathers 198 = .ok (.iastore, 1) := by decide +kernel
theorem dM_gathers_199 : decode cM_gathers 199 = .ok (.aload_n 0, 1) := by decide +kernel
theorem dM_gathers_200 : decode cM_gathers 200 = .ok (.getfield 22, 3) := by decide +kernel
theorem dM_gathers_203 : decode cM_gathers 203 = .ok (.iload_n 3, 1) := by decide +kernel
theorem dM_gathers_204 : decode cM_gathers 204 = .ok (.iconst (-1), 1) := by decide +kernel
theorem dM_gathers_205 : decode cM_gathers 205 = .ok (.iastore, 1) := by decide +kernel
theorem dM_gathers_206 : decode cM_gathers 206 = .ok (.goto (-186), 3) := by decide +kernel
theorem dM_gathers_209 : decode cM_gathers 209 = .ok (.aload_n 0, 1) := by decide +kernel
theorem dM_gathers_210 : decode cM_gathers 210 = .ok (.iconst 0, 1) := by decide +kernel
theorem dM_gathers_211 : decode cM_gathers 211 = .ok (.putfield 42, 3) := by decide +kernel
theorem dM_gathers_214 : decode cM_gathers 214 = .ok (.aload_n 0, 1) := by decide +kernel
theorem dM_gathers_215 : decode cM_gathers 215 = .ok (.getfield 45, 3) := by decide +kernel
theorem dM_gathers_218 : decode cM_gathers 218 = .ok (.ireturn, 1) := by decide +kernel
theorem dM_putsSet_0 : decode cM_putsSet 0 = .ok (.iconst 0, 1) := by decide +kernel
theorem dM_putsSet_1 : decode cM_putsSet 1 = .ok (.istore_n 1, 1) := by decide +kernel
theorem dM_putsSet_2 : decode cM_putsSet 2 = .ok (.iload_n 1, 1) := by decide +kernel
theorem dM_putsSet_3 : decode cM_putsSet 3 = .ok (.aload_n 0, 1) := by decide +kernel
theorem dM_putsSet_4 : decode cM_putsSet 4 = .ok (.getfield 45, 3) := by decide +kernel
theorem dM_putsSet_7 : decode cM_putsSet 7 = .ok (.if_icmp .ge 25, 3) := by decide +kernel
theorem dM_putsSet_10 : decode cM_putsSet 10 = .ok (.aload_n 0, 1) := by decide +kernel
theorem dM_putsSet_11 : decode cM_putsSet 11 = .ok (.aload_n 0, 1) := by decide +kernel
theorem dM_putsSet_12 : decode cM_putsSet 12 = .ok (.getfield 7, 3) := by decide +kernel
theorem dM_putsSet_15 : decode cM_putsSet 15 = .ok (.iload_n 1, 1) := by decide +kernel
theorem dM_putsSet_16 : decode cM_putsSet 16 = .ok (.iaload, 1) := by decide +kernel
theorem dM_putsSet_17 : decode cM_putsSet 17 = .ok (.aload_n 0, 1) := by decide +kernel
theorem dM_putsSet_18 : decode cM_putsSet 18 = .ok (.getfield 13, 3) := by decide +kernel
theorem dM_putsSet_21 : decode cM_putsSet 21 = .ok (.iload_n 1, 1) := by decide +kernel
theorem dM_putsSet_22 : decode cM_putsSet 22 = .ok (.iaload, 1) := by decide +kernel
theorem dM_putsSet_23 : decode cM_putsSet 23 = .ok (.invokevirtual 48, 3) := by decide +kernel
theorem dM_putsSet_26 : decode cM_putsSet 26 = .ok (.iinc 1 1, 3) := by decide +kernel
theorem dM_putsSet_29 : decode cM_putsSet 29 = .ok (.goto (-27), 3) := by decide +kernel
theorem dM_putsSet_32 : decode cM_putsSet 32 = .ok (.return_, 1) := by decide +kernel
theorem dM_add_0 : decode cM_add 0 = .ok (.aload_n 0, 1) := by decide +kernel
theorem dM_add_1 : decode cM_add 1 = .ok (.iload_n 1, 1) := by decide +kernel
theorem dM_add_2 : decode cM_add 2 = .ok (.ifCond .lt 14, 3) := by decide +kernel
theorem dM_add_5 : decode cM_add 5 = .ok (.iload_n 2, 1) := by decide +kernel
theorem dM_add_6 : decode cM_add 6 = .ok (.iload_n 1, 1) := by decide +kernel
theorem dM_add_7 : decode cM_add 7 = .ok (.if_icmp .lt 9, 3) := by decide +kernel
theorem dM_add_10 : decode cM_add 10 = .ok (.iload_n 2, 1) := by decide +kernel
theorem dM_add_11 : decode cM_add 11 = .ok (.ldc 52, 2) := by decide +kernel
theorem dM_add_13 : decode cM_add 13 = .ok (.if_icmp .le 7, 3) := by decide +kernel
theorem dM_add_16 : decode cM_add 16 = .ok (.iconst 1, 1) := by decide +kernel
theorem dM_add_17 : decode cM_add 17 = .ok (.goto 4, 3) := by decide +kernel
theorem dM_add_20 : decode cM_add 20 = .ok (.iconst 0, 1) := by decide +kernel
theorem dM_add_21 : decode cM_add 21 = .ok (.putfield 38, 3) := by decide +kernel
theorem dM_add_24 : decode cM_add 24 = .ok (.aload_n 0, 1) := by decide +kernel
theorem dM_add_25 : decode cM_add 25 = .ok (.getfield 38, 3) := by decide +kernel
theorem dM_add_28 : decode cM_add 28 = .ok (.ifCond .le 5, 3) := by decide +kernel
theorem dM_add_31 : decode cM_add 31 = .ok (.iconst 0, 1) := by decide +kernel
theorem dM_add_32 : decode cM_add 32 = .ok (.ireturn, 1) := by decide +kernel
theorem dM_add_33 : decode cM_add 33 = .ok (.aload_n 0, 1) := by decide +kernel
theorem dM_add_34 : decode cM_add 34 = .ok (.invokevirtual 53, 3) := by decide +kernel
theorem dM_add_37 : decode cM_add 37 = .ok (.aload_n 0, 1) := by decide +kernel
theorem dM_add_38 : decode cM_add 38 = .ok (.iload_n 1, 1) := by decide +kernel
theorem dM_add_39 : decode cM_add 39 = .ok (.iload_n 2, 1) := by decide +kernel
theorem dM_add_40 : decode cM_add 40 = .ok (.ldc 56, 2) := by decide +kernel
theorem dM_add_42 : decode cM_add 42 = .ok (.if_icmp .ge 7, 3) := by decide +kernel
theorem dM_add_45 : decode cM_add 45 = .ok (.iload_n 2, 1) := by decide +kernel
theorem dM_add_46 : decode cM_add 46 = .ok (.goto 5, 3) := by decide +kernel
theorem dM_add_49 : decode cM_add 49 = .ok (.ldc 57, 2) := by decide +kernel
theorem dM_add_51 : decode cM_add 51 = .ok (.invokevirtual 48, 3) := by decide +kernel
theorem dM_add_54 : decode cM_add 54 = .ok (.aload_n 0, 1) := by decide +kernel
theorem dM_add_55 : decode cM_add 55 = .ok (.iload_n 1, 1) := by decide +kernel
theorem dM_add_56 : decode cM_add 56 = .ok (.ldc 58, 2) := by decide +kernel
theorem dM_add_58 : decode cM_add 58 = .ok (.if_icmp .ge 8, 3) := by decide +kernel
theorem dM_add_61 : decode cM_add 61 = .ok (.ldc 58, 2) := by decide +kernel
theorem dM_add_63 : decode cM_add 63 = .ok (.goto 4, 3) := by decide +kernel
theorem dM_add_66 : decode cM_add 66 = .ok (.iload_n 1, 1) := by decide +kernel
theorem dM_add_67 : decode cM_add 67 = .ok (.iload_n 2, 1) := by decide +kernel
theorem dM_add_68 : decode cM_add 68 = .ok (.invokevirtual 48, 3) := by decide +kernel
theorem dM_add_71 : decode cM_add 71 = .ok (.aload_n 0, 1) := by decide +kernel
theorem dM_add_72 : decode cM_add 72 = .ok (.invokevirtual 59, 3) := by decide +kernel
theorem dM_add_75 : decode cM_add 75 = .ok (.ireturn, 1) := by decide +kernel
theorem dM_clear_0 : decode cM_clear 0 = .ok (.aload_n 0, 1) := by decide +kernel
theorem dM_clear_1 : decode cM_clear 1 = .ok (.iconst 0, 1) := by decide +kernel
theorem dM_clear_2 : decode cM_clear 2 = .ok (.putfield 38, 3) := by decide +kernel
theorem dM_clear_5 : decode cM_clear 5 = .ok (.aload_n 0, 1) := by decide +kernel
theorem dM_clear_6 : decode cM_clear 6 = .ok (.iconst 0, 1) := by decide +kernel
theorem dM_clear_7 : decode cM_clear 7 = .ok (.putfield 45, 3) := by decide +kernel
theorem dM_clear_10 : decode cM_clear 10 = .ok (.return_, 1) := by decide +kernel
theorem dM_turn_0 : decode cM_turn 0 = .ok (.aload_n 0, 1) := by decide +kernel
theorem dM_turn_1 : decode cM_turn 1 = .ok (.iconst 0, 1) := by decide +kernel
theorem dM_turn_2 : decode cM_turn 2 = .ok (.putfield 38, 3) := by decide +kernel
theorem dM_turn_5 : decode cM_turn 5 = .ok (.iconst 0, 1) := by decide +kernel
theorem dM_turn_6 : decode cM_turn 6 = .ok (.istore_n 1, 1) := by decide +kernel
theorem dM_turn_7 : decode cM_turn 7 = .ok (.iconst 0, 1) := by decide +kernel
theorem dM_turn_8 : decode cM_turn 8 = .ok (.istore_n 2, 1) := by decide +kernel
theorem dM_turn_9 : decode cM_turn 9 = .ok (.iload_n 2, 1) := by decide +kernel
theorem dM_turn_10 : decode cM_turn 10 = .ok (.aload_n 0, 1) := by decide +kernel
theorem dM_turn_11 : decode cM_turn 11 = .ok (.getfield 45, 3) := by decide +kernel
theorem dM_turn_14 : decode cM_turn 14 = .ok (.if_icmp .ge 73, 3) := by decide +kernel
theorem dM_turn_17 : decode cM_turn 17 = .ok (.aload_n 0, 1) := by decide +kernel
theorem dM_turn_18 : decode cM_turn 18 = .ok (.iload_n 1, 1) := by decide +kernel
theorem dM_turn_19 : decode cM_turn 19 = .ok (.aload_n 0, 1) := by decide +kernel
theorem dM_turn_20 : decode cM_turn 20 = .ok (.getfield 7, 3) := by decide +kernel
theorem dM_turn_23 : decode cM_turn 23 = .ok (.iload_n 2, 1) := by decide +kernel
theorem dM_turn_24 : decode cM_turn 24 = .ok (.iaload, 1) := by decide +kernel
theorem dM_turn_25 : decode cM_turn 25 = .ok (.iconst 1, 1) := by decide +kernel
theorem dM_turn_26 : decode cM_turn 26 = .ok (.isub, 1) := by decide +kernel
theorem dM_turn_27 : decode cM_turn 27 = .ok (.ldc 56, 2) := by decide +kernel
theorem dM_turn_29 : decode cM_turn 29 = .ok (.if_icmp .ge 14, 3) := by decide +kernel
theorem dM_turn_32 : decode cM_turn 32 = .ok (.aload_n 0, 1) := by decide +kernel
theorem dM_turn_33 : decode cM_turn 33 = .ok (.getfield 7, 3) := by decide +kernel
theorem dM_turn_36 : decode cM_turn 36 = .ok (.iload_n 2, 1) := by decide +kernel
theorem dM_turn_37 : decode cM_turn 37 = .ok (.iaload, 1) := by decide +kernel
theorem dM_turn_38 : decode cM_turn 38 = .ok (.iconst 1, 1) := by decide +kernel
theorem dM_turn_39 : decode cM_turn 39 = .ok (.isub, 1) := by decide +kernel
theorem dM_turn_40 : decode cM_turn 40 = .ok (.goto 5, 3) := by decide +kernel
theorem dM_turn_43 : decode cM_turn 43 = .ok (.ldc 57, 2) := by decide +kernel
theorem dM_turn_45 : decode cM_turn 45 = .ok (.invokevirtual 48, 3) := by decide +kernel
theorem dM_turn_48 : decode cM_turn 48 = .ok (.aload_n 0, 1) := by decide +kernel
theorem dM_turn_49 : decode cM_turn 49 = .ok (.iload_n 1, 1) := by decide +kernel
theorem dM_turn_50 : decode cM_turn 50 = .ok (.ldc 58, 2) := by decide +kernel
theorem dM_turn_52 : decode cM_turn 52 = .ok (.if_icmp .ge 8, 3) := by decide +kernel
theorem dM_turn_55 : decode cM_turn 55 = .ok (.ldc 58, 2) := by decide +kernel
theorem dM_turn_57 : decode cM_turn 57 = .ok (.goto 4, 3) := by decide +kernel
theorem dM_turn_60 : decode cM_turn 60 = .ok (.iload_n 1, 1) := by decide +kernel
theorem dM_turn_61 : decode cM_turn 61 = .ok (.aload_n 0, 1) := by decide +kernel
theorem dM_turn_62 : decode cM_turn 62 = .ok (.getfield 7, 3) := by decide +kernel
theorem dM_turn_65 : decode cM_turn 65 = .ok (.iload_n 2, 1) := by decide +kernel
theorem dM_turn_66 : decode cM_turn 66 = .ok (.iaload, 1) := by decide +kernel
theorem dM_turn_67 : decode cM_turn 67 = .ok (.iconst 1, 1) := by decide +kernel
theorem dM_turn_68 : decode cM_turn 68 = .ok (.isub, 1) := by decide +kernel
theorem dM_turn_69 : decode cM_turn 69 = .ok (.invokevirtual 48, 3) := by decide +kernel
theorem dM_turn_72 : decode cM_turn 72 = .ok (.aload_n 0, 1) := by decide +kernel
theorem dM_turn_73 : decode cM_turn 73 = .ok (.getfield 13, 3) := by decide +kernel
theorem dM_turn_76 : decode cM_turn 76 = .ok (.iload_n 2, 1) := by decide +kernel
theorem dM_turn_77 : decode cM_turn 77 = .ok (.iaload, 1) := by decide +kernel
theorem dM_turn_78 : decode cM_turn 78 = .ok (.iconst 1, 1) := by decide +kernel
theorem dM_turn_79 : decode cM_turn 79 = .ok (.iadd, 1) := by decide +kernel
theorem dM_turn_80 : decode cM_turn 80 = .ok (.istore_n 1, 1) := by decide +kernel
theorem dM_turn_81 : decode cM_turn 81 = .ok (.iinc 2 1, 3) := by decide +kernel
theorem dM_turn_84 : decode cM_turn 84 = .ok (.goto (-75), 3) := by decide +kernel
theorem dM_turn_87 : decode cM_turn 87 = .ok (.aload_n 0, 1) := by decide +kernel
theorem dM_turn_88 : decode cM_turn 88 = .ok (.iload_n 1, 1) := by decide +kernel
theorem dM_turn_89 : decode cM_turn 89 = .ok (.ldc 57, 2) := by decide +kernel
theorem dM_turn_91 : decode cM_turn 91 = .ok (.invokevirtual 48, 3) := by decide +kernel
theorem dM_turn_94 : decode cM_turn 94 = .ok (.aload_n 0, 1) := by decide +kernel
theorem dM_turn_95 : decode cM_turn 95 = .ok (.iload_n 1, 1) := by decide +kernel
theorem dM_turn_96 : decode cM_turn 96 = .ok (.ldc 58, 2) := by decide +kernel
theorem dM_turn_98 : decode cM_turn 98 = .ok (.if_icmp .ge 8, 3) := by decide +kernel
theorem dM_turn_101 : decode cM_turn 101 = .ok (.ldc 58, 2) := by decide +kernel
theorem dM_turn_103 : decode cM_turn 103 = .ok (.goto 4, 3) := by decide +kernel
theorem dM_turn_106 : decode cM_turn 106 = .ok (.iload_n 1, 1) := by decide +kernel
theorem dM_turn_107 : decode cM_turn 107 = .ok (.ldc 52, 2) := by decide +kernel
theorem dM_turn_109 : decode cM_turn 109 = .ok (.invokevirtual 48, 3) := by decide +kernel
theorem dM_turn_112 : decode cM_turn 112 = .ok (.aload_n 0, 1) := by decide +kernel
theorem dM_turn_113 : decode cM_turn 113 = .ok (.invokevirtual 59, 3) := by decide +kernel
theorem dM_turn_116 : decode cM_turn 116 = .ok (.ireturn, 1) := by decide +kernel
theorem dM_keep_0 : decode cM_keep 0 = .ok (.aload_n 0, 1) := by decide +kernel
theorem dM_keep_1 : decode cM_keep 1 = .ok (.iconst 0, 1) := by decide +kernel
theorem dM_keep_2 : decode cM_keep 2 = .ok (.putfield 38, 3) := by decide +kernel
theorem dM_keep_5 : decode cM_keep 5 = .ok (.aload_n 0, 1) := by decide +kernel
theorem dM_keep_6 : decode cM_keep 6 = .ok (.aload_n 0, 1) := by decide +kernel
theorem dM_keep_7 : decode cM_keep 7 = .ok (.getfield 45, 3) := by decide +kernel
theorem dM_keep_10 : decode cM_keep 10 = .ok (.putfield 63, 3) := by decide +kernel
theorem dM_keep_13 : decode cM_keep 13 = .ok (.iconst 0, 1) := by decide +kernel
theorem dM_keep_14 : decode cM_keep 14 = .ok (.istore_n 1, 1) := by decide +kernel
theorem dM_keep_15 : decode cM_keep 15 = .ok (.iload_n 1, 1) := by decide +kernel
theorem dM_keep_16 : decode cM_keep 16 = .ok (.aload_n 0, 1) := by decide +kernel
theorem dM_keep_17 : decode cM_keep 17 = .ok (.getfield 45, 3) := by decide +kernel
theorem dM_keep_20 : decode cM_keep 20 = .ok (.if_icmp .ge 33, 3) := by decide +kernel
theorem dM_keep_23 : decode cM_keep 23 = .ok (.aload_n 0, 1) := by decide +kernel
theorem dM_keep_24 : decode cM_keep 24 = .ok (.getfield 16, 3) := by decide +kernel
theorem dM_keep_27 : decode cM_keep 27 = .ok (.iload_n 1, 1) := by decide +kernel
theorem dM_keep_28 : decode cM_keep 28 = .ok (.aload_n 0, 1) := by decide +kernel
theorem dM_keep_29 : decode cM_keep 29 = .ok (.getfield 7, 3) := by decide +kernel
theorem dM_keep_32 : decode cM_keep 32 = .ok (.iload_n 1, 1) := by decide +kernel
theorem dM_keep_33 : decode cM_keep 33 = .ok (.iaload, 1) := by decide +kernel
theorem dM_keep_34 : decode cM_keep 34 = .ok (.iastore, 1) := by decide +kernel
theorem dM_keep_35 : decode cM_keep 35 = .ok (.aload_n 0, 1) := by decide +kernel
theorem dM_keep_36 : decode cM_keep 36 = .ok (.getfield 19, 3) := by decide +kernel
theorem dM_keep_39 : decode cM_keep 39 = .ok (.iload_n 1, 1) := by decide +kernel
theorem dM_keep_40 : decode cM_keep 40 = .ok (.aload_n 0, 1) := by decide +kernel
theorem dM_keep_41 : decode cM_keep 41 = .ok (.getfield 13, 3) := by decide +kernel
theorem dM_keep_44 : decode cM_keep 44 = .ok (.iload_n 1, 1) := by decide +kernel
theorem dM_keep_45 : decode cM_keep 45 = .ok (.iaload, 1) := by decide +kernel
theorem dM_keep_46 : decode cM_keep 46 = .ok (.iastore, 1) := by decide +kernel
theorem dM_keep_47 : decode cM_keep 47 = .ok (.iinc 1 1, 3) := by decide +kernel
theorem dM_keep_50 : decode cM_keep 50 = .ok (.goto (-35), 3) := by decide +kernel
theorem dM_keep_53 : decode cM_keep 53 = .ok (.return_, 1) := by decide +kernel
theorem dM_join_0 : decode cM_join 0 = .ok (.aload_n 0, 1) := by decide +kernel
theorem dM_join_1 : decode cM_join 1 = .ok (.iconst 0, 1) := by decide +kernel
theorem dM_join_2 : decode cM_join 2 = .ok (.putfield 38, 3) := by decide +kernel
theorem dM_join_5 : decode cM_join 5 = .ok (.aload_n 0, 1) := by decide +kernel
theorem dM_join_6 : decode cM_join 6 = .ok (.invokevirtual 53, 3) := by decide +kernel
theorem dM_join_9 : decode cM_join 9 = .ok (.iconst 0, 1) := by decide +kernel
theorem dM_join_10 : decode cM_join 10 = .ok (.istore_n 1, 1) := by decide +kernel
theorem dM_join_11 : decode cM_join 11 = .ok (.iload_n 1, 1) := by decide +kernel
theorem dM_join_12 : decode cM_join 12 = .ok (.aload_n 0, 1) := by decide +kernel
theorem dM_join_13 : decode cM_join 13 = .ok (.getfield 63, 3) := by decide +kernel
theorem dM_join_16 : decode cM_join 16 = .ok (.if_icmp .ge 25, 3) := by decide +kernel
theorem dM_join_19 : decode cM_join 19 = .ok (.aload_n 0, 1) := by decide +kernel
theorem dM_join_20 : decode cM_join 20 = .ok (.aload_n 0, 1) := by decide +kernel
theorem dM_join_21 : decode cM_join 21 = .ok (.getfield 16, 3) := by decide +kernel
theorem dM_join_24 : decode cM_join 24 = .ok (.iload_n 1, 1) := by decide +kernel
theorem dM_join_25 : decode cM_join 25 = .ok (.iaload, 1) := by decide +kernel
theorem dM_join_26 : decode cM_join 26 = .ok (.aload_n 0, 1) := by decide +kernel
theorem dM_join_27 : decode cM_join 27 = .ok (.getfield 19, 3) := by decide +kernel
theorem dM_join_30 : decode cM_join 30 = .ok (.iload_n 1, 1) := by decide +kernel
theorem dM_join_31 : decode cM_join 31 = .ok (.iaload, 1) := by decide +kernel
theorem dM_join_32 : decode cM_join 32 = .ok (.invokevirtual 48, 3) := by decide +kernel
theorem dM_join_35 : decode cM_join 35 = .ok (.iinc 1 1, 3) := by decide +kernel
theorem dM_join_38 : decode cM_join 38 = .ok (.goto (-27), 3) := by decide +kernel
theorem dM_join_41 : decode cM_join 41 = .ok (.aload_n 0, 1) := by decide +kernel
theorem dM_join_42 : decode cM_join 42 = .ok (.invokevirtual 59, 3) := by decide +kernel
theorem dM_join_45 : decode cM_join 45 = .ok (.ireturn, 1) := by decide +kernel
theorem dM_standsFor_0 : decode cM_standsFor 0 = .ok (.iload_n 0, 1) := by decide +kernel
theorem dM_standsFor_1 : decode cM_standsFor 1 = .ok (.bipush 65, 2) := by decide +kernel
theorem dM_standsFor_3 : decode cM_standsFor 3 = .ok (.if_icmp .lt 9, 3) := by decide +kernel
theorem dM_standsFor_6 : decode cM_standsFor 6 = .ok (.iload_n 0, 1) := by decide +kernel
theorem dM_standsFor_7 : decode cM_standsFor 7 = .ok (.bipush 90, 2) := by decide +kernel
theorem dM_standsFor_9 : decode cM_standsFor 9 = .ok (.if_icmp .le 52, 3) := by decide +kernel
theorem dM_standsFor_12 : decode cM_standsFor 12 = .ok (.iload_n 0, 1) := by decide +kernel
theorem dM_standsFor_13 : decode cM_standsFor 13 = .ok (.sipush 192, 3) := by decide +kernel
theorem dM_standsFor_16 : decode cM_standsFor 16 = .ok (.if_icmp .lt 17, 3) := by decide +kernel
theorem dM_standsFor_19 : decode cM_standsFor 19 = .ok (.iload_n 0, 1) := by decide +kernel
theorem dM_standsFor_20 : decode cM_standsFor 20 = .ok (.sipush 222, 3) := by decide +kernel
theorem dM_standsFor_23 : decode cM_standsFor 23 = .ok (.if_icmp .gt 10, 3) := by decide +kernel
theorem dM_standsFor_26 : decode cM_standsFor 26 = .ok (.iload_n 0, 1) := by decide +kernel
theorem dM_standsFor_27 : decode cM_standsFor 27 = .ok (.sipush 215, 3) := by decide +kernel
theorem dM_standsFor_30 : decode cM_standsFor 30 = .ok (.if_icmp .ne 31, 3) := by decide +kernel
theorem dM_standsFor_33 : decode cM_standsFor 33 = .ok (.iload_n 0, 1) := by decide +kernel
theorem dM_standsFor_34 : decode cM_standsFor 34 = .ok (.sipush 913, 3) := by decide +kernel
theorem dM_standsFor_37 : decode cM_standsFor 37 = .ok (.if_icmp .lt 10, 3) := by decide +kernel
theorem dM_standsFor_40 : decode cM_standsFor 40 = .ok (.iload_n 0, 1) := by decide +kernel
theorem dM_standsFor_41 : decode cM_standsFor 41 = .ok (.sipush 937, 3) := by decide +kernel
theorem dM_standsFor_44 : decode cM_standsFor 44 = .ok (.if_icmp .le 17, 3) := by decide +kernel
theorem dM_standsFor_47 : decode cM_standsFor 47 = .ok (.iload_n 0, 1) := by decide +kernel
theorem dM_standsFor_48 : decode cM_standsFor 48 = .ok (.sipush 1040, 3) := by decide +kernel
theorem dM_standsFor_51 : decode cM_standsFor 51 = .ok (.if_icmp .lt 17, 3) := by decide +kernel
theorem dM_standsFor_54 : decode cM_standsFor 54 = .ok (.iload_n 0, 1) := by decide +kernel
theorem dM_standsFor_55 : decode cM_standsFor 55 = .ok (.sipush 1071, 3) := by decide +kernel
theorem dM_standsFor_58 : decode cM_standsFor 58 = .ok (.if_icmp .gt 10, 3) := by decide +kernel
theorem dM_standsFor_61 : decode cM_standsFor 61 = .ok (.iload_n 0, 1) := by decide +kernel
theorem dM_standsFor_62 : decode cM_standsFor 62 = .ok (.bipush 32, 2) := by decide +kernel
theorem dM_standsFor_64 : decode cM_standsFor 64 = .ok (.iadd, 1) := by decide +kernel
theorem dM_standsFor_65 : decode cM_standsFor 65 = .ok (.goto 25, 3) := by decide +kernel
theorem dM_standsFor_68 : decode cM_standsFor 68 = .ok (.iload_n 0, 1) := by decide +kernel
theorem dM_standsFor_69 : decode cM_standsFor 69 = .ok (.sipush 1024, 3) := by decide +kernel
theorem dM_standsFor_72 : decode cM_standsFor 72 = .ok (.if_icmp .lt 17, 3) := by decide +kernel
theorem dM_standsFor_75 : decode cM_standsFor 75 = .ok (.iload_n 0, 1) := by decide +kernel
theorem dM_standsFor_76 : decode cM_standsFor 76 = .ok (.sipush 1039, 3) := by decide +kernel
theorem dM_standsFor_79 : decode cM_standsFor 79 = .ok (.if_icmp .gt 10, 3) := by decide +kernel
theorem dM_standsFor_82 : decode cM_standsFor 82 = .ok (.iload_n 0, 1) := by decide +kernel
theorem dM_standsFor_83 : decode cM_standsFor 83 = .ok (.bipush 80, 2) := by decide +kernel
theorem dM_standsFor_85 : decode cM_standsFor 85 = .ok (.iadd, 1) := by decide +kernel
theorem dM_standsFor_86 : decode cM_standsFor 86 = .ok (.goto 4, 3) := by decide +kernel
theorem dM_standsFor_89 : decode cM_standsFor 89 = .ok (.iload_n 0, 1) := by decide +kernel
theorem dM_standsFor_90 : decode cM_standsFor 90 = .ok (.istore_n 1, 1) := by decide +kernel
theorem dM_standsFor_91 : decode cM_standsFor 91 = .ok (.iload_n 1, 1) := by decide +kernel
theorem dM_standsFor_92 : decode cM_standsFor 92 = .ok (.lookupswitch 70 #[(181, 62), (383, 55), (962, 66), (8490, 52), (8491, 58)], 52) := by decide +kernel
theorem dM_standsFor_144 : decode cM_standsFor 144 = .ok (.bipush 107, 2) := by decide +kernel
theorem dM_standsFor_146 : decode cM_standsFor 146 = .ok (.ireturn, 1) := by decide +kernel
theorem dM_standsFor_147 : decode cM_standsFor 147 = .ok (.bipush 115, 2) := by decide +kernel
theorem dM_standsFor_149 : decode cM_standsFor 149 = .ok (.ireturn, 1) := by decide +kernel
theorem dM_standsFor_150 : decode cM_standsFor 150 = .ok (.sipush 229, 3) := by decide +kernel
theorem dM_standsFor_153 : decode cM_standsFor 153 = .ok (.ireturn, 1) := by decide +kernel
theorem dM_standsFor_154 : decode cM_standsFor 154 = .ok (.sipush 956, 3) := by decide +kernel
theorem dM_standsFor_157 : decode cM_standsFor 157 = .ok (.ireturn, 1) := by decide +kernel
theorem dM_standsFor_158 : decode cM_standsFor 158 = .ok (.sipush 963, 3) := by decide +kernel
theorem dM_standsFor_161 : decode cM_standsFor 161 = .ok (.ireturn, 1) := by decide +kernel
theorem dM_standsFor_162 : decode cM_standsFor 162 = .ok (.iload_n 1, 1) := by decide +kernel
theorem dM_standsFor_163 : decode cM_standsFor 163 = .ok (.ireturn, 1) := by decide +kernel
theorem dM_isIn_0 : decode cM_isIn 0 = .ok (.iconst 0, 1) := by decide +kernel
theorem dM_isIn_1 : decode cM_isIn 1 = .ok (.istore_n 2, 1) := by decide +kernel
theorem dM_isIn_2 : decode cM_isIn 2 = .ok (.iconst 0, 1) := by decide +kernel
theorem dM_isIn_3 : decode cM_isIn 3 = .ok (.istore_n 3, 1) := by decide +kernel
theorem dM_isIn_4 : decode cM_isIn 4 = .ok (.iload_n 3, 1) := by decide +kernel
theorem dM_isIn_5 : decode cM_isIn 5 = .ok (.aload_n 0, 1) := by decide +kernel
theorem dM_isIn_6 : decode cM_isIn 6 = .ok (.getfield 45, 3) := by decide +kernel
theorem dM_isIn_9 : decode cM_isIn 9 = .ok (.if_icmp .ge 39, 3) := by decide +kernel
theorem dM_isIn_12 : decode cM_isIn 12 = .ok (.iload_n 2, 1) := by decide +kernel
theorem dM_isIn_13 : decode cM_isIn 13 = .ok (.ifCond .ne 23, 3) := by decide +kernel
theorem dM_isIn_16 : decode cM_isIn 16 = .ok (.iload_n 1, 1) := by decide +kernel
theorem dM_isIn_17 : decode cM_isIn 17 = .ok (.aload_n 0, 1) := by decide +kernel
theorem dM_isIn_18 : decode cM_isIn 18 = .ok (.getfield 7, 3) := by decide +kernel
theorem dM_isIn_21 : decode cM_isIn 21 = .ok (.iload_n 3, 1) := by decide +kernel
theorem dM_isIn_22 : decode cM_isIn 22 = .ok (.iaload, 1) := by decide +kernel
theorem dM_isIn_23 : decode cM_isIn 23 = .ok (.if_icmp .lt 17, 3) := by decide +kernel
theorem dM_isIn_26 : decode cM_isIn 26 = .ok (.iload_n 1, 1) := by decide +kernel
theorem dM_isIn_27 : decode cM_isIn 27 = .ok (.aload_n 0, 1) := by decide +kernel
theorem dM_isIn_28 : decode cM_isIn 28 = .ok (.getfield 13, 3) := by decide +kernel
theorem dM_isIn_31 : decode cM_isIn 31 = .ok (.iload_n 3, 1) := by decide +kernel
theorem dM_isIn_32 : decode cM_isIn 32 = .ok (.iaload, 1) := by decide +kernel
theorem dM_isIn_33 : decode cM_isIn 33 = .ok (.if_icmp .gt 7, 3) := by decide +kernel
theorem dM_isIn_36 : decode cM_isIn 36 = .ok (.iconst 1, 1) := by decide +kernel
theorem dM_isIn_37 : decode cM_isIn 37 = .ok (.goto 4, 3) := by decide +kernel
theorem dM_isIn_40 : decode cM_isIn 40 = .ok (.iconst 0, 1) := by decide +kernel
theorem dM_isIn_41 : decode cM_isIn 41 = .ok (.istore_n 2, 1) := by decide +kernel
theorem dM_isIn_42 : decode cM_isIn 42 = .ok (.iinc 3 1, 3) := by decide +kernel
theorem dM_isIn_45 : decode cM_isIn 45 = .ok (.goto (-41), 3) := by decide +kernel
theorem dM_isIn_48 : decode cM_isIn 48 = .ok (.iload_n 2, 1) := by decide +kernel
theorem dM_isIn_49 : decode cM_isIn 49 = .ok (.ireturn, 1) := by decide +kernel
theorem dM_fold_0 : decode cM_fold 0 = .ok (.aload_n 0, 1) := by decide +kernel
theorem dM_fold_1 : decode cM_fold 1 = .ok (.iconst 0, 1) := by decide +kernel
theorem dM_fold_2 : decode cM_fold 2 = .ok (.putfield 38, 3) := by decide +kernel
theorem dM_fold_5 : decode cM_fold 5 = .ok (.iconst 0, 1) := by decide +kernel
theorem dM_fold_6 : decode cM_fold 6 = .ok (.istore_n 1, 1) := by decide +kernel
theorem dM_fold_7 : decode cM_fold 7 = .ok (.iload_n 1, 1) := by decide +kernel
theorem dM_fold_8 : decode cM_fold 8 = .ok (.sipush 1120, 3) := by decide +kernel
theorem dM_fold_11 : decode cM_fold 11 = .ok (.if_icmp .ge 16, 3) := by decide +kernel
theorem dM_fold_14 : decode cM_fold 14 = .ok (.aload_n 0, 1) := by decide +kernel
theorem dM_fold_15 : decode cM_fold 15 = .ok (.getfield 28, 3) := by decide +kernel
theorem dM_fold_18 : decode cM_fold 18 = .ok (.iload_n 1, 1) := by decide +kernel
theorem dM_fold_19 : decode cM_fold 19 = .ok (.iconst 0, 1) := by decide +kernel
theorem dM_fold_20 : decode cM_fold 20 = .ok (.bastore, 1) := by decide +kernel
theorem dM_fold_21 : decode cM_fold 21 = .ok (.iinc 1 1, 3) := by decide +kernel
theorem dM_fold_24 : decode cM_fold 24 = .ok (.goto (-17), 3) := by decide +kernel
theorem dM_fold_27 : decode cM_fold 27 = .ok (.iconst 0, 1) := by decide +kernel
theorem dM_fold_28 : decode cM_fold 28 = .ok (.istore_n 1, 1) := by decide +kernel
theorem dM_fold_29 : decode cM_fold 29 = .ok (.iload_n 1, 1) := by decide +kernel
theorem dM_fold_30 : decode cM_fold 30 = .ok (.sipush 1120, 3) := by decide +kernel
theorem dM_fold_33 : decode cM_fold 33 = .ok (.if_icmp .ge 43, 3) := by decide +kernel
theorem dM_fold_36 : decode cM_fold 36 = .ok (.aload_n 0, 1) := by decide +kernel
theorem dM_fold_37 : decode cM_fold 37 = .ok (.getfield 28, 3) := by decide +kernel
theorem dM_fold_40 : decode cM_fold 40 = .ok (.iload_n 1, 1) := by decide +kernel
theorem dM_fold_41 : decode cM_fold 41 = .ok (.invokestatic 66, 3) := by decide +kernel
theorem dM_fold_44 : decode cM_fold 44 = .ok (.aload_n 0, 1) := by decide +kernel
theorem dM_fold_45 : decode cM_fold 45 = .ok (.getfield 28, 3) := by decide +kernel
theorem dM_fold_48 : decode cM_fold 48 = .ok (.iload_n 1, 1) := by decide +kernel
theorem dM_fold_49 : decode cM_fold 49 = .ok (.invokestatic 66, 3) := by decide +kernel
theorem dM_fold_52 : decode cM_fold 52 = .ok (.baload, 1) := by decide +kernel
theorem dM_fold_53 : decode cM_fold 53 = .ok (.ifCond .ne 11, 3) := by decide +kernel
theorem dM_fold_56 : decode cM_fold 56 = .ok (.aload_n 0, 1) := by decide +kernel
theorem dM_fold_57 : decode cM_fold 57 = .ok (.iload_n 1, 1) := by decide +kernel
theorem dM_fold_58 : decode cM_fold 58 = .ok (.invokevirtual 70, 3) := by decide +kernel
theorem dM_fold_61 : decode cM_fold 61 = .ok (.ifCond .eq 7, 3) := by decide +kernel
theorem dM_fold_64 : decode cM_fold 64 = .ok (.iconst 1, 1) := by decide +kernel
theorem dM_fold_65 : decode cM_fold 65 = .ok (.goto 4, 3) := by decide +kernel
theorem dM_fold_68 : decode cM_fold 68 = .ok (.iconst 0, 1) := by decide +kernel
theorem dM_fold_69 : decode cM_fold 69 = .ok (.bastore, 1) := by decide +kernel
theorem dM_fold_70 : decode cM_fold 70 = .ok (.iinc 1 1, 3) := by decide +kernel
theorem dM_fold_73 : decode cM_fold 73 = .ok (.goto (-44), 3) := by decide +kernel
theorem dM_fold_76 : decode cM_fold 76 = .ok (.aload_n 0, 1) := by decide +kernel
theorem dM_fold_77 : decode cM_fold 77 = .ok (.getfield 28, 3) := by decide +kernel
theorem dM_fold_80 : decode cM_fold 80 = .ok (.bipush 107, 2) := by decide +kernel
theorem dM_fold_82 : decode cM_fold 82 = .ok (.aload_n 0, 1) := by decide +kernel
theorem dM_fold_83 : decode cM_fold 83 = .ok (.getfield 28, 3) := by decide +kernel
theorem dM_fold_86 : decode cM_fold 86 = .ok (.bipush 107, 2) := by decide +kernel
theorem dM_fold_88 : decode cM_fold 88 = .ok (.baload, 1) := by decide +kernel
theorem dM_fold_89 : decode cM_fold 89 = .ok (.ifCond .ne 13, 3) := by decide +kernel
theorem dM_fold_92 : decode cM_fold 92 = .ok (.aload_n 0, 1) := by decide +kernel
theorem dM_fold_93 : decode cM_fold 93 = .ok (.sipush 8490, 3) := by decide +kernel
theorem dM_fold_96 : decode cM_fold 96 = .ok (.invokevirtual 70, 3) := by decide +kernel
theorem dM_fold_99 : decode cM_fold 99 = .ok (.ifCond .eq 7, 3) := by decide +kernel
theorem dM_fold_102 : decode cM_fold 102 = .ok (.iconst 1, 1) := by decide +kernel
theorem dM_fold_103 : decode cM_fold 103 = .ok (.goto 4, 3) := by decide +kernel
theorem dM_fold_106 : decode cM_fold 106 = .ok (.iconst 0, 1) := by decide +kernel
theorem dM_fold_107 : decode cM_fold 107 = .ok (.bastore, 1) := by decide +kernel
theorem dM_fold_108 : decode cM_fold 108 = .ok (.aload_n 0, 1) := by decide +kernel
theorem dM_fold_109 : decode cM_fold 109 = .ok (.getfield 28, 3) := by decide +kernel
theorem dM_fold_112 : decode cM_fold 112 = .ok (.sipush 229, 3) := by decide +kernel
theorem dM_fold_115 : decode cM_fold 115 = .ok (.aload_n 0, 1) := by decide +kernel
theorem dM_fold_116 : decode cM_fold 116 = .ok (.getfield 28, 3) := by decide +kernel
theorem dM_fold_119 : decode cM_fold 119 = .ok (.sipush 229, 3) := by decide +kernel
theorem dM_fold_122 : decode cM_fold 122 = .ok (.baload, 1) := by decide +kernel
theorem dM_fold_123 : decode cM_fold 123 = .ok (.ifCond .ne 13, 3) := by decide +kernel
theorem dM_fold_126 : decode cM_fold 126 = .ok (.aload_n 0, 1) := by decide +kernel
theorem dM_fold_127 : decode cM_fold 127 = .ok (.sipush 8491, 3) := by decide +kernel
theorem dM_fold_130 : decode cM_fold 130 = .ok (.invokevirtual 70, 3) := by decide +kernel
theorem dM_fold_133 : decode cM_fold 133 = .ok (.ifCond .eq 7, 3) := by decide +kernel
theorem dM_fold_136 : decode cM_fold 136 = .ok (.iconst 1, 1) := by decide +kernel
theorem dM_fold_137 : decode cM_fold 137 = .ok (.goto 4, 3) := by decide +kernel
theorem dM_fold_140 : decode cM_fold 140 = .ok (.iconst 0, 1) := by decide +kernel
theorem dM_fold_141 : decode cM_fold 141 = .ok (.bastore, 1) := by decide +kernel
theorem dM_fold_142 : decode cM_fold 142 = .ok (.aload_n 0, 1) := by decide +kernel
theorem dM_fold_143 : decode cM_fold 143 = .ok (.invokevirtual 53, 3) := by decide +kernel
theorem dM_fold_146 : decode cM_fold 146 = .ok (.iconst 0, 1) := by decide +kernel
theorem dM_fold_147 : decode cM_fold 147 = .ok (.istore_n 1, 1) := by decide +kernel
theorem dM_fold_148 : decode cM_fold 148 = .ok (.iload_n 1, 1) := by decide +kernel
theorem dM_fold_149 : decode cM_fold 149 = .ok (.sipush 1120, 3) := by decide +kernel
theorem dM_fold_152 : decode cM_fold 152 = .ok (.if_icmp .ge 27, 3) := by decide +kernel
theorem dM_fold_155 : decode cM_fold 155 = .ok (.aload_n 0, 1) := by decide +kernel
theorem dM_fold_156 : decode cM_fold 156 = .ok (.getfield 28, 3) := by decide +kernel
theorem dM_fold_159 : decode cM_fold 159 = .ok (.iload_n 1, 1) := by decide +kernel
theorem dM_fold_160 : decode cM_fold 160 = .ok (.invokestatic 66, 3) := by decide +kernel
theorem dM_fold_163 : decode cM_fold 163 = .ok (.baload, 1) := by decide +kernel
theorem dM_fold_164 : decode cM_fold 164 = .ok (.ifCond .eq 9, 3) := by decide +kernel
theorem dM_fold_167 : decode cM_fold 167 = .ok (.aload_n 0, 1) := by decide +kernel
theorem dM_fold_168 : decode cM_fold 168 = .ok (.iload_n 1, 1) := by decide +kernel
theorem dM_fold_169 : decode cM_fold 169 = .ok (.iload_n 1, 1) := by decide +kernel
theorem dM_fold_170 : decode cM_fold 170 = .ok (.invokevirtual 48, 3) := by decide +kernel
theorem dM_fold_173 : decode cM_fold 173 = .ok (.iinc 1 1, 3) := by decide +kernel
