theorem dX5_mends_41 : decode cX5_mends 41 = .ok (.iconst 0, 1) := by decide +kernel
theorem dX5_mends_42 : decode cX5_mends 42 = .ok (.istore 6, 2) := by decide +kernel
theorem dX5_mends_44 : decode cX5_mends 44 = .ok (.iconst 0, 1) := by decide +kernel
theorem dX5_mends_45 : decode cX5_mends 45 = .ok (.istore 7, 2) := by decide +kernel
theorem dX5_mends_47 : decode cX5_mends 47 = .ok (.iload 7, 2) := by decide +kernel
theorem dX5_mends_49 : decode cX5_mends 49 = .ok (.aload_n 0, 1) := by decide +kernel
theorem dX5_mends_50 : decode cX5_mends 50 = .ok (.getfield 78, 3) := by decide +kernel
theorem dX5_mends_53 : decode cX5_mends 53 = .ok (.if_icmp .ge 33, 3) := by decide +kernel
theorem dX5_mends_56 : decode cX5_mends 56 = .ok (.iload 6, 2) := by decide +kernel
theorem dX5_mends_58 : decode cX5_mends 58 = .ok (.aload_n 0, 1) := by decide +kernel
theorem dX5_mends_59 : decode cX5_mends 59 = .ok (.getfield 17, 3) := by decide +kernel
theorem dX5_mends_62 : decode cX5_mends 62 = .ok (.iload 7, 2) := by decide +kernel
theorem dX5_mends_64 : decode cX5_mends 64 = .ok (.iaload, 1) := by decide +kernel
theorem dX5_mends_65 : decode cX5_mends 65 = .ok (.iconst 2, 1) := by decide +kernel
theorem dX5_mends_66 : decode cX5_mends 66 = .ok (.if_icmp .ne 10, 3) := by decide +kernel
theorem dX5_mends_69 : decode cX5_mends 69 = .ok (.iconst 1, 1) := by decide +kernel
theorem dX5_mends_70 : decode cX5_mends 70 = .ok (.iload 7, 2) := by decide +kernel
theorem dX5_mends_72 : decode cX5_mends 72 = .ok (.ishl, 1) := by decide +kernel
theorem dX5_mends_73 : decode cX5_mends 73 = .ok (.goto 4, 3) := by decide +kernel
theorem dX5_mends_76 : decode cX5_mends 76 = .ok (.iconst 0, 1) := by decide +kernel
theorem dX5_mends_77 : decode cX5_mends 77 = .ok (.ior, 1) := by decide +kernel
theorem dX5_mends_78 : decode cX5_mends 78 = .ok (.istore 6, 2) := by decide +kernel
theorem dX5_mends_80 : decode cX5_mends 80 = .ok (.iinc 7 1, 3) := by decide +kernel
theorem dX5_mends_83 : decode cX5_mends 83 = .ok (.goto (-36), 3) := by decide +kernel
theorem dX5_mends_86 : decode cX5_mends 86 = .ok (.iconst (-1), 1) := by decide +kernel
theorem dX5_mends_87 : decode cX5_mends 87 = .ok (.istore 7, 2) := by decide +kernel
theorem dX5_mends_89 : decode cX5_mends 89 = .ok (.iconst 0, 1) := by decide +kernel
theorem dX5_mends_90 : decode cX5_mends 90 = .ok (.istore 8, 2) := by decide +kernel
theorem dX5_mends_92 : decode cX5_mends 92 = .ok (.iconst 0, 1) := by decide +kernel
theorem dX5_mends_93 : decode cX5_mends 93 = .ok (.istore 9, 2) := by decide +kernel
theorem dX5_mends_95 : decode cX5_mends 95 = .ok (.iload 9, 2) := by decide +kernel
theorem dX5_mends_97 : decode cX5_mends 97 = .ok (.iconst 1, 1) := by decide +kernel
theorem dX5_mends_98 : decode cX5_mends 98 = .ok (.aload_n 0, 1) := by decide +kernel
theorem dX5_mends_99 : decode cX5_mends 99 = .ok (.getfield 78, 3) := by decide +kernel
theorem dX5_mends_102 : decode cX5_mends 102 = .ok (.ishl, 1) := by decide +kernel
theorem dX5_mends_103 : decode cX5_mends 103 = .ok (.if_icmp .ge 125, 3) := by decide +kernel
theorem dX5_mends_106 : decode cX5_mends 106 = .ok (.iconst 0, 1) := by decide +kernel
theorem dX5_mends_107 : decode cX5_mends 107 = .ok (.istore 10, 2) := by decide +kernel
theorem dX5_mends_109 : decode cX5_mends 109 = .ok (.iconst 0, 1) := by decide +kernel
theorem dX5_mends_110 : decode cX5_mends 110 = .ok (.istore 11, 2) := by decide +kernel
theorem dX5_mends_112 : decode cX5_mends 112 = .ok (.iload 11, 2) := by decide +kernel
theorem dX5_mends_114 : decode cX5_mends 114 = .ok (.aload_n 0, 1) := by decide +kernel
theorem dX5_mends_115 : decode cX5_mends 115 = .ok (.getfield 78, 3) := by decide +kernel
theorem dX5_mends_118 : decode cX5_mends 118 = .ok (.if_icmp .ge 32, 3) := by decide +kernel
theorem dX5_mends_121 : decode cX5_mends 121 = .ok (.iload 10, 2) := by decide +kernel
theorem dX5_mends_123 : decode cX5_mends 123 = .ok (.iload 9, 2) := by decide +kernel
theorem dX5_mends_125 : decode cX5_mends 125 = .ok (.iload 11, 2) := by decide +kernel
theorem dX5_mends_127 : decode cX5_mends 127 = .ok (.invokestatic 232, 3) := by decide +kernel
theorem dX5_mends_130 : decode cX5_mends 130 = .ok (.ifCond .eq 10, 3) := by decide +kernel
theorem dX5_mends_133 : decode cX5_mends 133 = .ok (.iconst 1, 1) := by decide +kernel
theorem dX5_mends_134 : decode cX5_mends 134 = .ok (.iload 11, 2) := by decide +kernel
theorem dX5_mends_136 : decode cX5_mends 136 = .ok (.iadd, 1) := by decide +kernel
theorem dX5_mends_137 : decode cX5_mends 137 = .ok (.goto 4, 3) := by decide +kernel
theorem dX5_mends_140 : decode cX5_mends 140 = .ok (.iconst 0, 1) := by decide +kernel
theorem dX5_mends_141 : decode cX5_mends 141 = .ok (.iadd, 1) := by decide +kernel
theorem dX5_mends_142 : decode cX5_mends 142 = .ok (.istore 10, 2) := by decide +kernel
theorem dX5_mends_144 : decode cX5_mends 144 = .ok (.iinc 11 1, 3) := by decide +kernel
theorem dX5_mends_147 : decode cX5_mends 147 = .ok (.goto (-35), 3) := by decide +kernel
theorem dX5_mends_150 : decode cX5_mends 150 = .ok (.iload 9, 2) := by decide +kernel
theorem dX5_mends_152 : decode cX5_mends 152 = .ok (.iload 6, 2) := by decide +kernel
theorem dX5_mends_154 : decode cX5_mends 154 = .ok (.iconst (-1), 1) := by decide +kernel
theorem dX5_mends_155 : decode cX5_mends 155 = .ok (.ixor, 1) := by decide +kernel
theorem dX5_mends_156 : decode cX5_mends 156 = .ok (.iand, 1) := by decide +kernel
theorem dX5_mends_157 : decode cX5_mends 157 = .ok (.ifCond .ne 65, 3) := by decide +kernel
theorem dX5_mends_160 : decode cX5_mends 160 = .ok (.iload 7, 2) := by decide +kernel
theorem dX5_mends_162 : decode cX5_mends 162 = .ok (.iconst (-1), 1) := by decide +kernel
theorem dX5_mends_163 : decode cX5_mends 163 = .ok (.if_icmp .eq 10, 3) := by decide +kernel
theorem dX5_mends_166 : decode cX5_mends 166 = .ok (.iload 10, 2) := by decide +kernel
theorem dX5_mends_168 : decode cX5_mends 168 = .ok (.iload 8, 2) := by decide +kernel
theorem dX5_mends_170 : decode cX5_mends 170 = .ok (.if_icmp .ge 52, 3) := by decide +kernel
theorem dX5_mends_173 : decode cX5_mends 173 = .ok (.aload_n 0, 1) := by decide +kernel
theorem dX5_mends_174 : decode cX5_mends 174 = .ok (.iload 9, 2) := by decide +kernel
theorem dX5_mends_176 : decode cX5_mends 176 = .ok (.iconst 0, 1) := by decide +kernel
theorem dX5_mends_177 : decode cX5_mends 177 = .ok (.invokevirtual 308, 3) := by decide +kernel
theorem dX5_mends_180 : decode cX5_mends 180 = .ok (.aload_n 0, 1) := by decide +kernel
theorem dX5_mends_181 : decode cX5_mends 181 = .ok (.iload_n 1, 1) := by decide +kernel
theorem dX5_mends_182 : decode cX5_mends 182 = .ok (.iload_n 2, 1) := by decide +kernel
theorem dX5_mends_183 : decode cX5_mends 183 = .ok (.iload_n 3, 1) := by decide +kernel
theorem dX5_mends_184 : decode cX5_mends 184 = .ok (.invokevirtual 311, 3) := by decide +kernel
theorem dX5_mends_187 : decode cX5_mends 187 = .ok (.ifCond .eq 8, 3) := by decide +kernel
theorem dX5_mends_190 : decode cX5_mends 190 = .ok (.iload 9, 2) := by decide +kernel
theorem dX5_mends_192 : decode cX5_mends 192 = .ok (.goto 5, 3) := by decide +kernel
theorem dX5_mends_195 : decode cX5_mends 195 = .ok (.iload 7, 2) := by decide +kernel
theorem dX5_mends_197 : decode cX5_mends 197 = .ok (.istore 7, 2) := by decide +kernel
theorem dX5_mends_199 : decode cX5_mends 199 = .ok (.iload 7, 2) := by decide +kernel
theorem dX5_mends_201 : decode cX5_mends 201 = .ok (.iload 9, 2) := by decide +kernel
theorem dX5_mends_203 : decode cX5_mends 203 = .ok (.if_icmp .ne 8, 3) := by decide +kernel
theorem dX5_mends_206 : decode cX5_mends 206 = .ok (.iload 10, 2) := by decide +kernel
theorem dX5_mends_208 : decode cX5_mends 208 = .ok (.goto 5, 3) := by decide +kernel
theorem dX5_mends_211 : decode cX5_mends 211 = .ok (.iload 8, 2) := by decide +kernel
theorem dX5_mends_213 : decode cX5_mends 213 = .ok (.istore 8, 2) := by decide +kernel
theorem dX5_mends_215 : decode cX5_mends 215 = .ok (.aload_n 0, 1) := by decide +kernel
theorem dX5_mends_216 : decode cX5_mends 216 = .ok (.iload 9, 2) := by decide +kernel
theorem dX5_mends_218 : decode cX5_mends 218 = .ok (.iconst 2, 1) := by decide +kernel
theorem dX5_mends_219 : decode cX5_mends 219 = .ok (.invokevirtual 308, 3) := by decide +kernel
theorem dX5_mends_222 : decode cX5_mends 222 = .ok (.iinc 9 1, 3) := by decide +kernel
theorem dX5_mends_225 : decode cX5_mends 225 = .ok (.goto (-130), 3) := by decide +kernel
theorem dX5_mends_228 : decode cX5_mends 228 = .ok (.iload 7, 2) := by decide +kernel
theorem dX5_mends_230 : decode cX5_mends 230 = .ok (.iconst (-1), 1) := by decide +kernel
theorem dX5_mends_231 : decode cX5_mends 231 = .ok (.if_icmp .eq 9, 3) := by decide +kernel
theorem dX5_mends_234 : decode cX5_mends 234 = .ok (.iload 4, 2) := by decide +kernel
theorem dX5_mends_236 : decode cX5_mends 236 = .ok (.iconst 1, 1) := by decide +kernel
theorem dX5_mends_237 : decode cX5_mends 237 = .ok (.if_icmp .ne 8, 3) := by decide +kernel
theorem dX5_mends_240 : decode cX5_mends 240 = .ok (.iload 7, 2) := by decide +kernel
theorem dX5_mends_242 : decode cX5_mends 242 = .ok (.goto 5, 3) := by decide +kernel
theorem dX5_mends_245 : decode cX5_mends 245 = .ok (.iload 8, 2) := by decide +kernel
theorem dX5_mends_247 : decode cX5_mends 247 = .ok (.ireturn, 1) := by decide +kernel
theorem dX5_mend_0 : decode cX5_mend 0 = .ok (.iconst 0, 1) := by decide +kernel
theorem dX5_mend_1 : decode cX5_mend 1 = .ok (.istore_n 3, 1) := by decide +kernel
theorem dX5_mend_2 : decode cX5_mend 2 = .ok (.iload_n 3, 1) := by decide +kernel
theorem dX5_mend_3 : decode cX5_mend 3 = .ok (.aload_n 0, 1) := by decide +kernel
theorem dX5_mend_4 : decode cX5_mend 4 = .ok (.getfield 78, 3) := by decide +kernel
theorem dX5_mend_7 : decode cX5_mend 7 = .ok (.if_icmp .ge 33, 3) := by decide +kernel
theorem dX5_mend_10 : decode cX5_mend 10 = .ok (.aload_n 0, 1) := by decide +kernel
theorem dX5_mend_11 : decode cX5_mend 11 = .ok (.getfield 17, 3) := by decide +kernel
theorem dX5_mend_14 : decode cX5_mend 14 = .ok (.iload_n 3, 1) := by decide +kernel
theorem dX5_mend_15 : decode cX5_mend 15 = .ok (.iload_n 1, 1) := by decide +kernel
theorem dX5_mend_16 : decode cX5_mend 16 = .ok (.iload_n 3, 1) := by decide +kernel
theorem dX5_mend_17 : decode cX5_mend 17 = .ok (.invokestatic 232, 3) := by decide +kernel
theorem dX5_mend_20 : decode cX5_mend 20 = .ok (.ifCond .eq 7, 3) := by decide +kernel
theorem dX5_mend_23 : decode cX5_mend 23 = .ok (.iload_n 2, 1) := by decide +kernel
theorem dX5_mend_24 : decode cX5_mend 24 = .ok (.goto 9, 3) := by decide +kernel
theorem dX5_mend_27 : decode cX5_mend 27 = .ok (.aload_n 0, 1) := by decide +kernel
theorem dX5_mend_28 : decode cX5_mend 28 = .ok (.getfield 17, 3) := by decide +kernel
theorem dX5_mend_31 : decode cX5_mend 31 = .ok (.iload_n 3, 1) := by decide +kernel
theorem dX5_mend_32 : decode cX5_mend 32 = .ok (.iaload, 1) := by decide +kernel
theorem dX5_mend_33 : decode cX5_mend 33 = .ok (.iastore, 1) := by decide +kernel
theorem dX5_mend_34 : decode cX5_mend 34 = .ok (.iinc 3 1, 3) := by decide +kernel
theorem dX5_mend_37 : decode cX5_mend 37 = .ok (.goto (-35), 3) := by decide +kernel
theorem dX5_mend_40 : decode cX5_mend 40 = .ok (.return_, 1) := by decide +kernel
theorem dX5_seen_0 : decode cX5_seen 0 = .ok (.aload_n 0, 1) := by decide +kernel
theorem dX5_seen_1 : decode cX5_seen 1 = .ok (.iload_n 1, 1) := by decide +kernel
theorem dX5_seen_2 : decode cX5_seen 2 = .ok (.invokevirtual 239, 3) := by decide +kernel
theorem dX5_seen_5 : decode cX5_seen 5 = .ok (.ifCond .eq 11, 3) := by decide +kernel
theorem dX5_seen_8 : decode cX5_seen 8 = .ok (.aload_n 0, 1) := by decide +kernel
theorem dX5_seen_9 : decode cX5_seen 9 = .ok (.iload_n 2, 1) := by decide +kernel
theorem dX5_seen_10 : decode cX5_seen 10 = .ok (.invokevirtual 219, 3) := by decide +kernel
theorem dX5_seen_13 : decode cX5_seen 13 = .ok (.ifCond .ne 6, 3) := by decide +kernel
theorem dX5_seen_16 : decode cX5_seen 16 = .ok (.bipush (-2), 2) := by decide +kernel
theorem dX5_seen_18 : decode cX5_seen 18 = .ok (.ireturn, 1) := by decide +kernel
theorem dX5_seen_19 : decode cX5_seen 19 = .ok (.iload_n 3, 1) := by decide +kernel
theorem dX5_seen_20 : decode cX5_seen 20 = .ok (.iconst 0, 1) := by decide +kernel
theorem dX5_seen_21 : decode cX5_seen 21 = .ok (.bipush 99, 2) := by decide +kernel
theorem dX5_seen_23 : decode cX5_seen 23 = .ok (.invokestatic 81, 3) := by decide +kernel
theorem dX5_seen_26 : decode cX5_seen 26 = .ok (.ifCond .ne 6, 3) := by decide +kernel
theorem dX5_seen_29 : decode cX5_seen 29 = .ok (.bipush (-3), 2) := by decide +kernel
theorem dX5_seen_31 : decode cX5_seen 31 = .ok (.ireturn, 1) := by decide +kernel
theorem dX5_seen_32 : decode cX5_seen 32 = .ok (.aload_n 0, 1) := by decide +kernel
theorem dX5_seen_33 : decode cX5_seen 33 = .ok (.getfield 212, 3) := by decide +kernel
theorem dX5_seen_36 : decode cX5_seen 36 = .ok (.bipush 8, 2) := by decide +kernel
theorem dX5_seen_38 : decode cX5_seen 38 = .ok (.if_icmp .ne 6, 3) := by decide +kernel
theorem dX5_seen_41 : decode cX5_seen 41 = .ok (.bipush (-5), 2) := by decide +kernel
theorem dX5_seen_43 : decode cX5_seen 43 = .ok (.ireturn, 1) := by decide +kernel
theorem dX5_seen_44 : decode cX5_seen 44 = .ok (.aload_n 0, 1) := by decide +kernel
theorem dX5_seen_45 : decode cX5_seen 45 = .ok (.getfield 51, 3) := by decide +kernel
theorem dX5_seen_48 : decode cX5_seen 48 = .ok (.iconst 3, 1) := by decide +kernel
theorem dX5_seen_49 : decode cX5_seen 49 = .ok (.aload_n 0, 1) := by decide +kernel
theorem dX5_seen_50 : decode cX5_seen 50 = .ok (.getfield 212, 3) := by decide +kernel
theorem dX5_seen_53 : decode cX5_seen 53 = .ok (.imul, 1) := by decide +kernel
theorem dX5_seen_54 : decode cX5_seen 54 = .ok (.iload_n 1, 1) := by decide +kernel
theorem dX5_seen_55 : decode cX5_seen 55 = .ok (.iastore, 1) := by decide +kernel
theorem dX5_seen_56 : decode cX5_seen 56 = .ok (.aload_n 0, 1) := by decide +kernel
theorem dX5_seen_57 : decode cX5_seen 57 = .ok (.getfield 51, 3) := by decide +kernel
theorem dX5_seen_60 : decode cX5_seen 60 = .ok (.iconst 3, 1) := by decide +kernel
theorem dX5_seen_61 : decode cX5_seen 61 = .ok (.aload_n 0, 1) := by decide +kernel
theorem dX5_seen_62 : decode cX5_seen 62 = .ok (.getfield 212, 3) := by decide +kernel
theorem dX5_seen_65 : decode cX5_seen 65 = .ok (.imul, 1) := by decide +kernel
theorem dX5_seen_66 : decode cX5_seen 66 = .ok (.iconst 1, 1) := by decide +kernel
theorem dX5_seen_67 : decode cX5_seen 67 = .ok (.iadd, 1) := by decide +kernel
theorem dX5_seen_68 : decode cX5_seen 68 = .ok (.iload_n 2, 1) := by decide +kernel
theorem dX5_seen_69 : decode cX5_seen 69 = .ok (.iastore, 1) := by decide +kernel
theorem dX5_seen_70 : decode cX5_seen 70 = .ok (.aload_n 0, 1) := by decide +kernel
theorem dX5_seen_71 : decode cX5_seen 71 = .ok (.getfield 51, 3) := by decide +kernel
theorem dX5_seen_74 : decode cX5_seen 74 = .ok (.iconst 3, 1) := by decide +kernel
theorem dX5_seen_75 : decode cX5_seen 75 = .ok (.aload_n 0, 1) := by decide +kernel
theorem dX5_seen_76 : decode cX5_seen 76 = .ok (.getfield 212, 3) := by decide +kernel
theorem dX5_seen_79 : decode cX5_seen 79 = .ok (.imul, 1) := by decide +kernel
theorem dX5_seen_80 : decode cX5_seen 80 = .ok (.iconst 2, 1) := by decide +kernel
theorem dX5_seen_81 : decode cX5_seen 81 = .ok (.iadd, 1) := by decide +kernel
theorem dX5_seen_82 : decode cX5_seen 82 = .ok (.iload_n 3, 1) := by decide +kernel
theorem dX5_seen_83 : decode cX5_seen 83 = .ok (.iastore, 1) := by decide +kernel
theorem dX5_seen_84 : decode cX5_seen 84 = .ok (.aload_n 0, 1) := by decide +kernel
theorem dX5_seen_85 : decode cX5_seen 85 = .ok (.dup, 1) := by decide +kernel
theorem dX5_seen_86 : decode cX5_seen 86 = .ok (.getfield 212, 3) := by decide +kernel
theorem dX5_seen_89 : decode cX5_seen 89 = .ok (.iconst 1, 1) := by decide +kernel
theorem dX5_seen_90 : decode cX5_seen 90 = .ok (.iadd, 1) := by decide +kernel
theorem dX5_seen_91 : decode cX5_seen 91 = .ok (.putfield 212, 3) := by decide +kernel
theorem dX5_seen_94 : decode cX5_seen 94 = .ok (.aload_n 0, 1) := by decide +kernel
theorem dX5_seen_95 : decode cX5_seen 95 = .ok (.getfield 212, 3) := by decide +kernel
theorem dX5_seen_98 : decode cX5_seen 98 = .ok (.ireturn, 1) := by decide +kernel
theorem dX5_forget_0 : decode cX5_forget 0 = .ok (.aload_n 0, 1) := by decide +kernel
theorem dX5_forget_1 : decode cX5_forget 1 = .ok (.getfield 212, 3) := by decide +kernel
theorem dX5_forget_4 : decode cX5_forget 4 = .ok (.istore_n 1, 1) := by decide +kernel
theorem dX5_forget_5 : decode cX5_forget 5 = .ok (.aload_n 0, 1) := by decide +kernel
theorem dX5_forget_6 : decode cX5_forget 6 = .ok (.iconst 0, 1) := by decide +kernel
theorem dX5_forget_7 : decode cX5_forget 7 = .ok (.putfield 212, 3) := by decide +kernel
theorem dX5_forget_10 : decode cX5_forget 10 = .ok (.iload_n 1, 1) := by decide +kernel
theorem dX5_forget_11 : decode cX5_forget 11 = .ok (.ireturn, 1) := by decide +kernel
theorem dX5_laws_0 : decode cX5_laws 0 = .ok (.iconst 0, 1) := by decide +kernel
theorem dX5_laws_1 : decode cX5_laws 1 = .ok (.istore_n 1, 1) := by decide +kernel
theorem dX5_laws_2 : decode cX5_laws 2 = .ok (.aload_n 0, 1) := by decide +kernel
theorem dX5_laws_3 : decode cX5_laws 3 = .ok (.invokevirtual 266, 3) := by decide +kernel
theorem dX5_laws_6 : decode cX5_laws 6 = .ok (.iconst 0, 1) := by decide +kernel
theorem dX5_laws_7 : decode cX5_laws 7 = .ok (.istore_n 2, 1) := by decide +kernel
theorem dX5_laws_8 : decode cX5_laws 8 = .ok (.iload_n 2, 1) := by decide +kernel
theorem dX5_laws_9 : decode cX5_laws 9 = .ok (.iconst 3, 1) := by decide +kernel
theorem dX5_laws_10 : decode cX5_laws 10 = .ok (.if_icmp .ge 126, 3) := by decide +kernel
theorem dX5_laws_13 : decode cX5_laws 13 = .ok (.aload_n 0, 1) := by decide +kernel
theorem dX5_laws_14 : decode cX5_laws 14 = .ok (.invokevirtual 75, 3) := by decide +kernel
theorem dX5_laws_17 : decode cX5_laws 17 = .ok (.aload_n 0, 1) := by decide +kernel
theorem dX5_laws_18 : decode cX5_laws 18 = .ok (.iload_n 2, 1) := by decide +kernel
theorem dX5_laws_19 : decode cX5_laws 19 = .ok (.putfield 245, 3) := by decide +kernel
theorem dX5_laws_22 : decode cX5_laws 22 = .ok (.iconst 1, 1) := by decide +kernel
theorem dX5_laws_23 : decode cX5_laws 23 = .ok (.istore_n 3, 1) := by decide +kernel
theorem dX5_laws_24 : decode cX5_laws 24 = .ok (.iconst 0, 1) := by decide +kernel
theorem dX5_laws_25 : decode cX5_laws 25 = .ok (.istore 4, 2) := by decide +kernel
theorem dX5_laws_27 : decode cX5_laws 27 = .ok (.iload 4, 2) := by decide +kernel
theorem dX5_laws_29 : decode cX5_laws 29 = .ok (.bipush 100, 2) := by decide +kernel
theorem dX5_laws_31 : decode cX5_laws 31 = .ok (.if_icmp .ge 85, 3) := by decide +kernel
theorem dX5_laws_34 : decode cX5_laws 34 = .ok (.iconst 0, 1) := by decide +kernel
theorem dX5_laws_35 : decode cX5_laws 35 = .ok (.istore 5, 2) := by decide +kernel
theorem dX5_laws_37 : decode cX5_laws 37 = .ok (.iload 5, 2) := by decide +kernel
theorem dX5_laws_39 : decode cX5_laws 39 = .ok (.aload_n 0, 1) := by decide +kernel
theorem dX5_laws_40 : decode cX5_laws 40 = .ok (.getfield 212, 3) := by decide +kernel
theorem dX5_laws_43 : decode cX5_laws 43 = .ok (.if_icmp .ge 63, 3) := by decide +kernel
theorem dX5_laws_46 : decode cX5_laws 46 = .ok (.iload_n 3, 1) := by decide +kernel
theorem dX5_laws_47 : decode cX5_laws 47 = .ok (.ifCond .eq 51, 3) := by decide +kernel
theorem dX5_laws_50 : decode cX5_laws 50 = .ok (.aload_n 0, 1) := by decide +kernel
theorem dX5_laws_51 : decode cX5_laws 51 = .ok (.getfield 51, 3) := by decide +kernel
theorem dX5_laws_54 : decode cX5_laws 54 = .ok (.iconst 3, 1) := by decide +kernel
theorem dX5_laws_55 : decode cX5_laws 55 = .ok (.iload 5, 2) := by decide +kernel
theorem dX5_laws_57 : decode cX5_laws 57 = .ok (.imul, 1) := by decide +kernel
theorem dX5_laws_58 : decode cX5_laws 58 = .ok (.iconst 2, 1) := by decide +kernel
theorem dX5_laws_59 : decode cX5_laws 59 = .ok (.iadd, 1) := by decide +kernel
theorem dX5_laws_60 : decode cX5_laws 60 = .ok (.iaload, 1) := by decide +kernel
theorem dX5_laws_61 : decode cX5_laws 61 = .ok (.iload 4, 2) := by decide +kernel
theorem dX5_laws_63 : decode cX5_laws 63 = .ok (.if_icmp .ne 31, 3) := by decide +kernel
theorem dX5_laws_66 : decode cX5_laws 66 = .ok (.aload_n 0, 1) := by decide +kernel
theorem dX5_laws_67 : decode cX5_laws 67 = .ok (.getfield 38, 3) := by decide +kernel
theorem dX5_laws_70 : decode cX5_laws 70 = .ok (.aload_n 0, 1) := by decide +kernel
theorem dX5_laws_71 : decode cX5_laws 71 = .ok (.getfield 51, 3) := by decide +kernel
theorem dX5_laws_74 : decode cX5_laws 74 = .ok (.iconst 3, 1) := by decide +kernel
theorem dX5_laws_75 : decode cX5_laws 75 = .ok (.iload 5, 2) := by decide +kernel
theorem dX5_laws_77 : decode cX5_laws 77 = .ok (.imul, 1) := by decide +kernel
theorem dX5_laws_78 : decode cX5_laws 78 = .ok (.iaload, 1) := by decide +kernel
theorem dX5_laws_79 : decode cX5_laws 79 = .ok (.iaload, 1) := by decide +kernel
theorem dX5_laws_80 : decode cX5_laws 80 = .ok (.aload_n 0, 1) := by decide +kernel
theorem dX5_laws_81 : decode cX5_laws 81 = .ok (.getfield 51, 3) := by decide +kernel
theorem dX5_laws_84 : decode cX5_laws 84 = .ok (.iconst 3, 1) := by decide +kernel
theorem dX5_laws_85 : decode cX5_laws 85 = .ok (.iload 5, 2) := by decide +kernel
theorem dX5_laws_87 : decode cX5_laws 87 = .ok (.imul, 1) := by decide +kernel
theorem dX5_laws_88 : decode cX5_laws 88 = .ok (.iconst 1, 1) := by decide +kernel
theorem dX5_laws_89 : decode cX5_laws 89 = .ok (.iadd, 1) := by decide +kernel
theorem dX5_laws_90 : decode cX5_laws 90 = .ok (.iaload, 1) := by decide +kernel
theorem dX5_laws_91 : decode cX5_laws 91 = .ok (.if_icmp .ne 7, 3) := by decide +kernel
theorem dX5_laws_94 : decode cX5_laws 94 = .ok (.iconst 1, 1) := by decide +kernel
theorem dX5_laws_95 : decode cX5_laws 95 = .ok (.goto 4, 3) := by decide +kernel
theorem dX5_laws_98 : decode cX5_laws 98 = .ok (.iconst 0, 1) := by decide +kernel
theorem dX5_laws_99 : decode cX5_laws 99 = .ok (.istore_n 3, 1) := by decide +kernel
theorem dX5_laws_100 : decode cX5_laws 100 = .ok (.iinc 5 1, 3) := by decide +kernel
theorem dX5_laws_103 : decode cX5_laws 103 = .ok (.goto (-66), 3) := by decide +kernel
theorem dX5_laws_106 : decode cX5_laws 106 = .ok (.aload_n 0, 1) := by decide +kernel
theorem dX5_laws_107 : decode cX5_laws 107 = .ok (.invokevirtual 259, 3) := by decide +kernel
theorem dX5_laws_110 : decode cX5_laws 110 = .ok (.iinc 4 1, 3) := by decide +kernel
theorem dX5_laws_113 : decode cX5_laws 113 = .ok (.goto (-86), 3) := by decide +kernel
theorem dX5_laws_116 : decode cX5_laws 116 = .ok (.iload_n 1, 1) := by decide +kernel
theorem dX5_laws_117 : decode cX5_laws 117 = .ok (.iload_n 3, 1) := by decide +kernel
theorem dX5_laws_118 : decode cX5_laws 118 = .ok (.ifCond .eq 9, 3) := by decide +kernel
theorem dX5_laws_121 : decode cX5_laws 121 = .ok (.iconst 1, 1) := by decide +kernel
theorem dX5_laws_122 : decode cX5_laws 122 = .ok (.iload_n 2, 1) := by decide +kernel
theorem dX5_laws_123 : decode cX5_laws 123 = .ok (.ishl, 1) := by decide +kernel
theorem dX5_laws_124 : decode cX5_laws 124 = .ok (.goto 4, 3) := by decide +kernel
theorem dX5_laws_127 : decode cX5_laws 127 = .ok (.iconst 0, 1) := by decide +kernel
theorem dX5_laws_128 : decode cX5_laws 128 = .ok (.ior, 1) := by decide +kernel
theorem dX5_laws_129 : decode cX5_laws 129 = .ok (.istore_n 1, 1) := by decide +kernel
theorem dX5_laws_130 : decode cX5_laws 130 = .ok (.iinc 2 1, 3) := by decide +kernel
theorem dX5_laws_133 : decode cX5_laws 133 = .ok (.goto (-125), 3) := by decide +kernel
theorem dX5_laws_136 : decode cX5_laws 136 = .ok (.aload_n 0, 1) := by decide +kernel
theorem dX5_laws_137 : decode cX5_laws 137 = .ok (.invokevirtual 269, 3) := by decide +kernel
theorem dX5_laws_140 : decode cX5_laws 140 = .ok (.iload_n 1, 1) := by decide +kernel
theorem dX5_laws_141 : decode cX5_laws 141 = .ok (.ireturn, 1) := by decide +kernel
theorem dX5_count_0 : decode cX5_count 0 = .ok (.iload_n 1, 1) := by decide +kernel
theorem dX5_count_1 : decode cX5_count 1 = .ok (.tableswitch 158 0 10 #[59, 64, 69, 74, 79, 84, 92, 112, 132, 137, 153], 59) := by decide +kernel
theorem dX5_count_60 : decode cX5_count 60 = .ok (.aload_n 0, 1) := by decide +kernel
theorem dX5_count_61 : decode cX5_count 61 = .ok (.getfield 7, 3) := by decide +kernel
theorem dX5_count_64 : decode cX5_count 64 = .ok (.ireturn, 1) := by decide +kernel
theorem dX5_count_65 : decode cX5_count 65 = .ok (.aload_n 0, 1) := by decide +kernel
theorem dX5_count_66 : decode cX5_count 66 = .ok (.getfield 78, 3) := by decide +kernel
theorem dX5_count_69 : decode cX5_count 69 = .ok (.ireturn, 1) := by decide +kernel
theorem dX5_count_70 : decode cX5_count 70 = .ok (.aload_n 0, 1) := by decide +kernel
theorem dX5_count_71 : decode cX5_count 71 = .ok (.getfield 85, 3) := by decide +kernel
theorem dX5_count_74 : decode cX5_count 74 = .ok (.ireturn, 1) := by decide +kernel
theorem dX5_count_75 : decode cX5_count 75 = .ok (.aload_n 0, 1) := by decide +kernel
theorem dX5_count_76 : decode cX5_count 76 = .ok (.getfield 88, 3) := by decide +kernel
theorem dX5_count_79 : decode cX5_count 79 = .ok (.ireturn, 1) := by decide +kernel
theorem dX5_count_80 : decode cX5_count 80 = .ok (.aload_n 0, 1) := by decide +kernel
theorem dX5_count_81 : decode cX5_count 81 = .ok (.getfield 91, 3) := by decide +kernel
theorem dX5_count_84 : decode cX5_count 84 = .ok (.ireturn, 1) := by decide +kernel
theorem dX5_count_85 : decode cX5_count 85 = .ok (.aload_n 0, 1) := by decide +kernel
theorem dX5_count_86 : decode cX5_count 86 = .ok (.getfield 38, 3) := by decide +kernel
theorem dX5_count_89 : decode cX5_count 89 = .ok (.bipush 16, 2) := by decide +kernel
theorem dX5_count_91 : decode cX5_count 91 = .ok (.iaload, 1) := by decide +kernel
theorem dX5_count_92 : decode cX5_count 92 = .ok (.ireturn, 1) := by decide +kernel
theorem dX5_count_93 : decode cX5_count 93 = .ok (.aload_n 0, 1) := by decide +kernel
theorem dX5_count_94 : decode cX5_count 94 = .ok (.getfield 91, 3) := by decide +kernel
theorem dX5_count_97 : decode cX5_count 97 = .ok (.iconst 1, 1) := by decide +kernel
theorem dX5_count_98 : decode cX5_count 98 = .ok (.if_icmp .ne 13, 3) := by decide +kernel
theorem dX5_count_101 : decode cX5_count 101 = .ok (.aload_n 0, 1) := by decide +kernel
theorem dX5_count_102 : decode cX5_count 102 = .ok (.getfield 38, 3) := by decide +kernel
theorem dX5_count_105 : decode cX5_count 105 = .ok (.bipush 17, 2) := by decide +kernel
theorem dX5_count_107 : decode cX5_count 107 = .ok (.iaload, 1) := by decide +kernel
theorem dX5_count_108 : decode cX5_count 108 = .ok (.goto 4, 3) := by decide +kernel
theorem dX5_count_111 : decode cX5_count 111 = .ok (.iconst (-1), 1) := by decide +kernel
theorem dX5_count_112 : decode cX5_count 112 = .ok (.ireturn, 1) := by decide +kernel
theorem dX5_count_113 : decode cX5_count 113 = .ok (.aload_n 0, 1) := by decide +kernel
theorem dX5_count_114 : decode cX5_count 114 = .ok (.getfield 91, 3) := by decide +kernel
theorem dX5_count_117 : decode cX5_count 117 = .ok (.iconst 3, 1) := by decide +kernel
theorem dX5_count_118 : decode cX5_count 118 = .ok (.if_icmp .ne 13, 3) := by decide +kernel
theorem dX5_count_121 : decode cX5_count 121 = .ok (.aload_n 0, 1) := by decide +kernel
theorem dX5_count_122 : decode cX5_count 122 = .ok (.getfield 38, 3) := by decide +kernel
theorem dX5_count_125 : decode cX5_count 125 = .ok (.bipush 18, 2) := by decide +kernel
theorem dX5_count_127 : decode cX5_count 127 = .ok (.iaload, 1) := by decide +kernel
theorem dX5_count_128 : decode cX5_count 128 = .ok (.goto 4, 3) := by decide +kernel
theorem dX5_count_131 : decode cX5_count 131 = .ok (.iconst (-1), 1) := by decide +kernel
theorem dX5_count_132 : decode cX5_count 132 = .ok (.ireturn, 1) := by decide +kernel
theorem dX5_count_133 : decode cX5_count 133 = .ok (.aload_n 0, 1) := by decide +kernel
theorem dX5_count_134 : decode cX5_count 134 = .ok (.getfield 212, 3) := by decide +kernel
theorem dX5_count_137 : decode cX5_count 137 = .ok (.ireturn, 1) := by decide +kernel
theorem dX5_count_138 : decode cX5_count 138 = .ok (.iconst 1, 1) := by decide +kernel
theorem dX5_count_139 : decode cX5_count 139 = .ok (.aload_n 0, 1) := by decide +kernel
theorem dX5_count_140 : decode cX5_count 140 = .ok (.getfield 7, 3) := by decide +kernel
theorem dX5_count_143 : decode cX5_count 143 = .ok (.ishl, 1) := by decide +kernel
theorem dX5_count_144 : decode cX5_count 144 = .ok (.iconst 1, 1) := by decide +kernel
theorem dX5_count_145 : decode cX5_count 145 = .ok (.isub, 1) := by decide +kernel
theorem dX5_count_146 : decode cX5_count 146 = .ok (.aload_n 0, 1) := by decide +kernel
theorem dX5_count_147 : decode cX5_count 147 = .ok (.invokevirtual 228, 3) := by decide +kernel
theorem dX5_count_150 : decode cX5_count 150 = .ok (.iconst (-1), 1) := by decide +kernel
theorem dX5_count_151 : decode cX5_count 151 = .ok (.ixor, 1) := by decide +kernel
theorem dX5_count_152 : decode cX5_count 152 = .ok (.iand, 1) := by decide +kernel
theorem dX5_count_153 : decode cX5_count 153 = .ok (.ireturn, 1) := by decide +kernel
theorem dX5_count_154 : decode cX5_count 154 = .ok (.aload_n 0, 1) := by decide +kernel
theorem dX5_count_155 : decode cX5_count 155 = .ok (.getfield 94, 3) := by decide +kernel
theorem dX5_count_158 : decode cX5_count 158 = .ok (.ireturn, 1) := by decide +kernel
theorem dX5_count_159 : decode cX5_count 159 = .ok (.bipush (-3), 2) := by decide +kernel
theorem dX5_count_161 : decode cX5_count 161 = .ok (.ireturn, 1) := by decide +kernel
