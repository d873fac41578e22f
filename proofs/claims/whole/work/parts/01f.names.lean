theorem dX5_isRead_34 : decode cX5_isRead 34 = .ok (.aload_n 0, 1) := by decide +kernel
theorem dX5_isRead_35 : decode cX5_isRead 35 = .ok (.aload_n 0, 1) := by decide +kernel
theorem dX5_isRead_36 : decode cX5_isRead 36 = .ok (.getfield 88, 3) := by decide +kernel
theorem dX5_isRead_39 : decode cX5_isRead 39 = .ok (.putfield 152, 3) := by decide +kernel
theorem dX5_isRead_42 : decode cX5_isRead 42 = .ok (.aload_n 0, 1) := by decide +kernel
theorem dX5_isRead_43 : decode cX5_isRead 43 = .ok (.iconst 0, 1) := by decide +kernel
theorem dX5_isRead_44 : decode cX5_isRead 44 = .ok (.putfield 146, 3) := by decide +kernel
theorem dX5_isRead_47 : decode cX5_isRead 47 = .ok (.iconst 0, 1) := by decide +kernel
theorem dX5_isRead_48 : decode cX5_isRead 48 = .ok (.istore_n 1, 1) := by decide +kernel
theorem dX5_isRead_49 : decode cX5_isRead 49 = .ok (.iload_n 1, 1) := by decide +kernel
theorem dX5_isRead_50 : decode cX5_isRead 50 = .ok (.aload_n 0, 1) := by decide +kernel
theorem dX5_isRead_51 : decode cX5_isRead 51 = .ok (.getfield 78, 3) := by decide +kernel
theorem dX5_isRead_54 : decode cX5_isRead 54 = .ok (.if_icmp .ge 56, 3) := by decide +kernel
theorem dX5_isRead_57 : decode cX5_isRead 57 = .ok (.aload_n 0, 1) := by decide +kernel
theorem dX5_isRead_58 : decode cX5_isRead 58 = .ok (.aload_n 0, 1) := by decide +kernel
theorem dX5_isRead_59 : decode cX5_isRead 59 = .ok (.getfield 146, 3) := by decide +kernel
theorem dX5_isRead_62 : decode cX5_isRead 62 = .ok (.iconst 1, 1) := by decide +kernel
theorem dX5_isRead_63 : decode cX5_isRead 63 = .ok (.aload_n 0, 1) := by decide +kernel
theorem dX5_isRead_64 : decode cX5_isRead 64 = .ok (.getfield 20, 3) := by decide +kernel
theorem dX5_isRead_67 : decode cX5_isRead 67 = .ok (.iload_n 1, 1) := by decide +kernel
theorem dX5_isRead_68 : decode cX5_isRead 68 = .ok (.iaload, 1) := by decide +kernel
theorem dX5_isRead_69 : decode cX5_isRead 69 = .ok (.ishl, 1) := by decide +kernel
theorem dX5_isRead_70 : decode cX5_isRead 70 = .ok (.ior, 1) := by decide +kernel
theorem dX5_isRead_71 : decode cX5_isRead 71 = .ok (.aload_n 0, 1) := by decide +kernel
theorem dX5_isRead_72 : decode cX5_isRead 72 = .ok (.getfield 17, 3) := by decide +kernel
theorem dX5_isRead_75 : decode cX5_isRead 75 = .ok (.iload_n 1, 1) := by decide +kernel
theorem dX5_isRead_76 : decode cX5_isRead 76 = .ok (.iaload, 1) := by decide +kernel
theorem dX5_isRead_77 : decode cX5_isRead 77 = .ok (.iconst 3, 1) := by decide +kernel
theorem dX5_isRead_78 : decode cX5_isRead 78 = .ok (.if_icmp .ne 21, 3) := by decide +kernel
theorem dX5_isRead_81 : decode cX5_isRead 81 = .ok (.iconst 1, 1) := by decide +kernel
theorem dX5_isRead_82 : decode cX5_isRead 82 = .ok (.aload_n 0, 1) := by decide +kernel
theorem dX5_isRead_83 : decode cX5_isRead 83 = .ok (.getfield 20, 3) := by decide +kernel
theorem dX5_isRead_86 : decode cX5_isRead 86 = .ok (.iload_n 1, 1) := by decide +kernel
theorem dX5_isRead_87 : decode cX5_isRead 87 = .ok (.iaload, 1) := by decide +kernel
theorem dX5_isRead_88 : decode cX5_isRead 88 = .ok (.iconst 1, 1) := by decide +kernel
theorem dX5_isRead_89 : decode cX5_isRead 89 = .ok (.iadd, 1) := by decide +kernel
theorem dX5_isRead_90 : decode cX5_isRead 90 = .ok (.aload_n 0, 1) := by decide +kernel
theorem dX5_isRead_91 : decode cX5_isRead 91 = .ok (.getfield 7, 3) := by decide +kernel
theorem dX5_isRead_94 : decode cX5_isRead 94 = .ok (.irem, 1) := by decide +kernel
theorem dX5_isRead_95 : decode cX5_isRead 95 = .ok (.ishl, 1) := by decide +kernel
theorem dX5_isRead_96 : decode cX5_isRead 96 = .ok (.goto 4, 3) := by decide +kernel
theorem dX5_isRead_99 : decode cX5_isRead 99 = .ok (.iconst 0, 1) := by decide +kernel
theorem dX5_isRead_100 : decode cX5_isRead 100 = .ok (.ior, 1) := by decide +kernel
theorem dX5_isRead_101 : decode cX5_isRead 101 = .ok (.putfield 146, 3) := by decide +kernel
theorem dX5_isRead_104 : decode cX5_isRead 104 = .ok (.iinc 1 1, 3) := by decide +kernel
theorem dX5_isRead_107 : decode cX5_isRead 107 = .ok (.goto (-58), 3) := by decide +kernel
theorem dX5_isRead_110 : decode cX5_isRead 110 = .ok (.iconst 1, 1) := by decide +kernel
theorem dX5_isRead_111 : decode cX5_isRead 111 = .ok (.istore_n 1, 1) := by decide +kernel
theorem dX5_isRead_112 : decode cX5_isRead 112 = .ok (.iload_n 1, 1) := by decide +kernel
theorem dX5_isRead_113 : decode cX5_isRead 113 = .ok (.ifCond .eq 61, 3) := by decide +kernel
theorem dX5_isRead_116 : decode cX5_isRead 116 = .ok (.aload_n 0, 1) := by decide +kernel
theorem dX5_isRead_117 : decode cX5_isRead 117 = .ok (.iconst 3, 1) := by decide +kernel
theorem dX5_isRead_118 : decode cX5_isRead 118 = .ok (.aload_n 0, 1) := by decide +kernel
theorem dX5_isRead_119 : decode cX5_isRead 119 = .ok (.getfield 199, 3) := by decide +kernel
theorem dX5_isRead_122 : decode cX5_isRead 122 = .ok (.imul, 1) := by decide +kernel
theorem dX5_isRead_123 : decode cX5_isRead 123 = .ok (.invokevirtual 202, 3) := by decide +kernel
theorem dX5_isRead_126 : decode cX5_isRead 126 = .ok (.ifCond .ne 5, 3) := by decide +kernel
theorem dX5_isRead_129 : decode cX5_isRead 129 = .ok (.iconst 0, 1) := by decide +kernel
theorem dX5_isRead_130 : decode cX5_isRead 130 = .ok (.ireturn, 1) := by decide +kernel
theorem dX5_isRead_131 : decode cX5_isRead 131 = .ok (.aload_n 0, 1) := by decide +kernel
theorem dX5_isRead_132 : decode cX5_isRead 132 = .ok (.dup, 1) := by decide +kernel
theorem dX5_isRead_133 : decode cX5_isRead 133 = .ok (.getfield 199, 3) := by decide +kernel
theorem dX5_isRead_136 : decode cX5_isRead 136 = .ok (.iconst 1, 1) := by decide +kernel
theorem dX5_isRead_137 : decode cX5_isRead 137 = .ok (.iadd, 1) := by decide +kernel
theorem dX5_isRead_138 : decode cX5_isRead 138 = .ok (.putfield 199, 3) := by decide +kernel
theorem dX5_isRead_141 : decode cX5_isRead 141 = .ok (.aload_n 0, 1) := by decide +kernel
theorem dX5_isRead_142 : decode cX5_isRead 142 = .ok (.invokevirtual 130, 3) := by decide +kernel
theorem dX5_isRead_145 : decode cX5_isRead 145 = .ok (.aload_n 0, 1) := by decide +kernel
theorem dX5_isRead_146 : decode cX5_isRead 146 = .ok (.getfield 113, 3) := by decide +kernel
theorem dX5_isRead_149 : decode cX5_isRead 149 = .ok (.ldc2_w 125, 3) := by decide +kernel
theorem dX5_isRead_152 : decode cX5_isRead 152 = .ok (.lcmp, 1) := by decide +kernel
theorem dX5_isRead_153 : decode cX5_isRead 153 = .ok (.ifCond .ne 16, 3) := by decide +kernel
theorem dX5_isRead_156 : decode cX5_isRead 156 = .ok (.aload_n 0, 1) := by decide +kernel
theorem dX5_isRead_157 : decode cX5_isRead 157 = .ok (.getfield 199, 3) := by decide +kernel
theorem dX5_isRead_160 : decode cX5_isRead 160 = .ok (.bipush 12, 2) := by decide +kernel
theorem dX5_isRead_162 : decode cX5_isRead 162 = .ok (.if_icmp .ge 7, 3) := by decide +kernel
theorem dX5_isRead_165 : decode cX5_isRead 165 = .ok (.iconst 1, 1) := by decide +kernel
theorem dX5_isRead_166 : decode cX5_isRead 166 = .ok (.goto 4, 3) := by decide +kernel
theorem dX5_isRead_169 : decode cX5_isRead 169 = .ok (.iconst 0, 1) := by decide +kernel
theorem dX5_isRead_170 : decode cX5_isRead 170 = .ok (.istore_n 1, 1) := by decide +kernel
theorem dX5_isRead_171 : decode cX5_isRead 171 = .ok (.goto (-59), 3) := by decide +kernel
theorem dX5_isRead_174 : decode cX5_isRead 174 = .ok (.aload_n 0, 1) := by decide +kernel
theorem dX5_isRead_175 : decode cX5_isRead 175 = .ok (.getfield 113, 3) := by decide +kernel
theorem dX5_isRead_178 : decode cX5_isRead 178 = .ok (.ldc2_w 111, 3) := by decide +kernel
theorem dX5_isRead_181 : decode cX5_isRead 181 = .ok (.lcmp, 1) := by decide +kernel
theorem dX5_isRead_182 : decode cX5_isRead 182 = .ok (.ifCond .eq 10, 3) := by decide +kernel
theorem dX5_isRead_185 : decode cX5_isRead 185 = .ok (.aload_n 0, 1) := by decide +kernel
theorem dX5_isRead_186 : decode cX5_isRead 186 = .ok (.invokevirtual 133, 3) := by decide +kernel
theorem dX5_isRead_189 : decode cX5_isRead 189 = .ok (.ifCond .eq 7, 3) := by decide +kernel
theorem dX5_isRead_192 : decode cX5_isRead 192 = .ok (.iconst 1, 1) := by decide +kernel
theorem dX5_isRead_193 : decode cX5_isRead 193 = .ok (.goto 4, 3) := by decide +kernel
theorem dX5_isRead_196 : decode cX5_isRead 196 = .ok (.iconst 0, 1) := by decide +kernel
theorem dX5_isRead_197 : decode cX5_isRead 197 = .ok (.ireturn, 1) := by decide +kernel
set_option maxRecDepth 20000 in
theorem ggX5_fault_X5_isRead : GoodIn wsX5_fault wsX5_isRead := goodIn_r _ [6, 7, 8, 9, 10, 11, 12, 13, 14, 15, 16, 17, 18, 19, 20, 21, 22, 23, 24, 25, 5, 26, 27, 28, 29, 30, 31, 32, 33, 34, 35, 36, 37, 38, 39, 40, 41, 42, 43, 44, 45, 46, 47, 48, 49, 50, 51, 52, 53, 54, 55, 56, 57, 58, 59, 60, 61, 62, 63, 64, 65, 66, 67, 68, 1, 69, 70, 71, 72, 73, 74, 75, 76, 77, 78, 79, 80, 81, 82, 83, 84, 85, 86, 87, 88, 89, 90, 91, 92, 93, 94, 95, 96, 97, 98, 99, 100, 101, 102, 103, 104, 105, 106, 107, 108, 109, 110, 111, 112, 113, 114, 115, 116, 117, 118, 119, 120, 121, 122, 123, 124] (by decide +kernel) (by decide +kernel)
set_option maxRecDepth 20000 in
theorem gX5_fault_X5_isRead : GoodIn wsX5_fault (wsV RX5 205 RX5 yX5_isRead wsX5_isRead) := goodIn_app (goodIn_of _ (by decide +kernel)) ggX5_fault_X5_isRead
theorem dX5_fault_0 : decode cX5_fault 0 = .ok (.aload_n 0, 1) := by decide +kernel
theorem dX5_fault_1 : decode cX5_fault 1 = .ok (.invokevirtual 205, 3) := by decide +kernel
theorem dX5_fault_4 : decode cX5_fault 4 = .ok (.ifCond .eq 7, 3) := by decide +kernel
theorem dX5_fault_7 : decode cX5_fault 7 = .ok (.iconst (-1), 1) := by decide +kernel
theorem dX5_fault_8 : decode cX5_fault 8 = .ok (.goto 7, 3) := by decide +kernel
theorem dX5_fault_11 : decode cX5_fault 11 = .ok (.aload_n 0, 1) := by decide +kernel
theorem dX5_fault_12 : decode cX5_fault 12 = .ok (.getfield 127, 3) := by decide +kernel
theorem dX5_fault_15 : decode cX5_fault 15 = .ok (.ireturn, 1) := by decide +kernel
set_option maxRecDepth 20000 in
theorem ggX5_doLine_X5_plain : GoodIn wsX5_doLine wsX5_plain := goodIn_r _ [17, 3, 5, 8, 10, 11, 12, 18, 19, 20, 21, 22, 23, 24, 25, 26, 27, 28, 29, 30, 31, 32, 33, 34, 35, 36, 37, 38, 39, 40, 41, 42, 43, 44, 45, 46, 47, 48, 49, 50, 51, 52, 53, 54, 55, 56, 57] (by decide +kernel) (by decide +kernel)
set_option maxRecDepth 20000 in
theorem gX5_doLine_X5_plain : GoodIn wsX5_doLine (wsV RX5 72 RX5 yX5_plain wsX5_plain) := goodIn_app (goodIn_of _ (by decide +kernel)) ggX5_doLine_X5_plain
theorem dX5_doLine_0 : decode cX5_doLine 0 = .ok (.aload_n 0, 1) := by decide +kernel
theorem dX5_doLine_1 : decode cX5_doLine 1 = .ok (.getfield 35, 3) := by decide +kernel
theorem dX5_doLine_4 : decode cX5_doLine 4 = .ok (.iload_n 1, 1) := by decide +kernel
theorem dX5_doLine_5 : decode cX5_doLine 5 = .ok (.iconst 1, 1) := by decide +kernel
theorem dX5_doLine_6 : decode cX5_doLine 6 = .ok (.iadd, 1) := by decide +kernel
theorem dX5_doLine_7 : decode cX5_doLine 7 = .ok (.iaload, 1) := by decide +kernel
theorem dX5_doLine_8 : decode cX5_doLine 8 = .ok (.istore_n 2, 1) := by decide +kernel
theorem dX5_doLine_9 : decode cX5_doLine 9 = .ok (.aload_n 0, 1) := by decide +kernel
theorem dX5_doLine_10 : decode cX5_doLine 10 = .ok (.getfield 35, 3) := by decide +kernel
theorem dX5_doLine_13 : decode cX5_doLine 13 = .ok (.iload_n 1, 1) := by decide +kernel
theorem dX5_doLine_14 : decode cX5_doLine 14 = .ok (.iconst 2, 1) := by decide +kernel
theorem dX5_doLine_15 : decode cX5_doLine 15 = .ok (.iadd, 1) := by decide +kernel
theorem dX5_doLine_16 : decode cX5_doLine 16 = .ok (.iaload, 1) := by decide +kernel
theorem dX5_doLine_17 : decode cX5_doLine 17 = .ok (.istore_n 3, 1) := by decide +kernel
theorem dX5_doLine_18 : decode cX5_doLine 18 = .ok (.aload_n 0, 1) := by decide +kernel
theorem dX5_doLine_19 : decode cX5_doLine 19 = .ok (.getfield 35, 3) := by decide +kernel
theorem dX5_doLine_22 : decode cX5_doLine 22 = .ok (.iload_n 1, 1) := by decide +kernel
theorem dX5_doLine_23 : decode cX5_doLine 23 = .ok (.iaload, 1) := by decide +kernel
theorem dX5_doLine_24 : decode cX5_doLine 24 = .ok (.tableswitch 221 0 12 #[68, 80, 90, 90, 90, 90, 130, 169, 221, 221, 221, 221, 208], 68) := by decide +kernel
theorem dX5_doLine_92 : decode cX5_doLine 92 = .ok (.aload_n 0, 1) := by decide +kernel
theorem dX5_doLine_93 : decode cX5_doLine 93 = .ok (.invokevirtual 72, 3) := by decide +kernel
theorem dX5_doLine_96 : decode cX5_doLine 96 = .ok (.aload_n 0, 1) := by decide +kernel
theorem dX5_doLine_97 : decode cX5_doLine 97 = .ok (.iload_n 2, 1) := by decide +kernel
theorem dX5_doLine_98 : decode cX5_doLine 98 = .ok (.putfield 7, 3) := by decide +kernel
theorem dX5_doLine_101 : decode cX5_doLine 101 = .ok (.goto 180, 3) := by decide +kernel
theorem dX5_doLine_104 : decode cX5_doLine 104 = .ok (.aload_n 0, 1) := by decide +kernel
theorem dX5_doLine_105 : decode cX5_doLine 105 = .ok (.getfield 13, 3) := by decide +kernel
theorem dX5_doLine_108 : decode cX5_doLine 108 = .ok (.iload_n 2, 1) := by decide +kernel
theorem dX5_doLine_109 : decode cX5_doLine 109 = .ok (.iload_n 3, 1) := by decide +kernel
theorem dX5_doLine_110 : decode cX5_doLine 110 = .ok (.iastore, 1) := by decide +kernel
theorem dX5_doLine_111 : decode cX5_doLine 111 = .ok (.goto 170, 3) := by decide +kernel
theorem dX5_doLine_114 : decode cX5_doLine 114 = .ok (.aload_n 0, 1) := by decide +kernel
theorem dX5_doLine_115 : decode cX5_doLine 115 = .ok (.getfield 17, 3) := by decide +kernel
theorem dX5_doLine_118 : decode cX5_doLine 118 = .ok (.aload_n 0, 1) := by decide +kernel
theorem dX5_doLine_119 : decode cX5_doLine 119 = .ok (.getfield 78, 3) := by decide +kernel
theorem dX5_doLine_122 : decode cX5_doLine 122 = .ok (.aload_n 0, 1) := by decide +kernel
theorem dX5_doLine_123 : decode cX5_doLine 123 = .ok (.getfield 35, 3) := by decide +kernel
theorem dX5_doLine_126 : decode cX5_doLine 126 = .ok (.iload_n 1, 1) := by decide +kernel
theorem dX5_doLine_127 : decode cX5_doLine 127 = .ok (.iaload, 1) := by decide +kernel
theorem dX5_doLine_128 : decode cX5_doLine 128 = .ok (.iconst 2, 1) := by decide +kernel
theorem dX5_doLine_129 : decode cX5_doLine 129 = .ok (.isub, 1) := by decide +kernel
theorem dX5_doLine_130 : decode cX5_doLine 130 = .ok (.iastore, 1) := by decide +kernel
theorem dX5_doLine_131 : decode cX5_doLine 131 = .ok (.aload_n 0, 1) := by decide +kernel
theorem dX5_doLine_132 : decode cX5_doLine 132 = .ok (.getfield 20, 3) := by decide +kernel
theorem dX5_doLine_135 : decode cX5_doLine 135 = .ok (.aload_n 0, 1) := by decide +kernel
theorem dX5_doLine_136 : decode cX5_doLine 136 = .ok (.getfield 78, 3) := by decide +kernel
theorem dX5_doLine_139 : decode cX5_doLine 139 = .ok (.iload_n 2, 1) := by decide +kernel
theorem dX5_doLine_140 : decode cX5_doLine 140 = .ok (.iastore, 1) := by decide +kernel
theorem dX5_doLine_141 : decode cX5_doLine 141 = .ok (.aload_n 0, 1) := by decide +kernel
theorem dX5_doLine_142 : decode cX5_doLine 142 = .ok (.dup, 1) := by decide +kernel
theorem dX5_doLine_143 : decode cX5_doLine 143 = .ok (.getfield 78, 3) := by decide +kernel
theorem dX5_doLine_146 : decode cX5_doLine 146 = .ok (.iconst 1, 1) := by decide +kernel
theorem dX5_doLine_147 : decode cX5_doLine 147 = .ok (.iadd, 1) := by decide +kernel
theorem dX5_doLine_148 : decode cX5_doLine 148 = .ok (.putfield 78, 3) := by decide +kernel
theorem dX5_doLine_151 : decode cX5_doLine 151 = .ok (.goto 130, 3) := by decide +kernel
theorem dX5_doLine_154 : decode cX5_doLine 154 = .ok (.aload_n 0, 1) := by decide +kernel
theorem dX5_doLine_155 : decode cX5_doLine 155 = .ok (.getfield 23, 3) := by decide +kernel
theorem dX5_doLine_158 : decode cX5_doLine 158 = .ok (.iconst 2, 1) := by decide +kernel
theorem dX5_doLine_159 : decode cX5_doLine 159 = .ok (.aload_n 0, 1) := by decide +kernel
theorem dX5_doLine_160 : decode cX5_doLine 160 = .ok (.getfield 85, 3) := by decide +kernel
theorem dX5_doLine_163 : decode cX5_doLine 163 = .ok (.imul, 1) := by decide +kernel
theorem dX5_doLine_164 : decode cX5_doLine 164 = .ok (.iload_n 2, 1) := by decide +kernel
theorem dX5_doLine_165 : decode cX5_doLine 165 = .ok (.iastore, 1) := by decide +kernel
theorem dX5_doLine_166 : decode cX5_doLine 166 = .ok (.aload_n 0, 1) := by decide +kernel
theorem dX5_doLine_167 : decode cX5_doLine 167 = .ok (.getfield 23, 3) := by decide +kernel
theorem dX5_doLine_170 : decode cX5_doLine 170 = .ok (.iconst 2, 1) := by decide +kernel
theorem dX5_doLine_171 : decode cX5_doLine 171 = .ok (.aload_n 0, 1) := by decide +kernel
theorem dX5_doLine_172 : decode cX5_doLine 172 = .ok (.getfield 85, 3) := by decide +kernel
theorem dX5_doLine_175 : decode cX5_doLine 175 = .ok (.imul, 1) := by decide +kernel
theorem dX5_doLine_176 : decode cX5_doLine 176 = .ok (.iconst 1, 1) := by decide +kernel
theorem dX5_doLine_177 : decode cX5_doLine 177 = .ok (.iadd, 1) := by decide +kernel
theorem dX5_doLine_178 : decode cX5_doLine 178 = .ok (.iload_n 3, 1) := by decide +kernel
theorem dX5_doLine_179 : decode cX5_doLine 179 = .ok (.iastore, 1) := by decide +kernel
theorem dX5_doLine_180 : decode cX5_doLine 180 = .ok (.aload_n 0, 1) := by decide +kernel
theorem dX5_doLine_181 : decode cX5_doLine 181 = .ok (.dup, 1) := by decide +kernel
theorem dX5_doLine_182 : decode cX5_doLine 182 = .ok (.getfield 85, 3) := by decide +kernel
theorem dX5_doLine_185 : decode cX5_doLine 185 = .ok (.iconst 1, 1) := by decide +kernel
theorem dX5_doLine_186 : decode cX5_doLine 186 = .ok (.iadd, 1) := by decide +kernel
theorem dX5_doLine_187 : decode cX5_doLine 187 = .ok (.putfield 85, 3) := by decide +kernel
theorem dX5_doLine_190 : decode cX5_doLine 190 = .ok (.goto 91, 3) := by decide +kernel
theorem dX5_doLine_193 : decode cX5_doLine 193 = .ok (.aload_n 0, 1) := by decide +kernel
theorem dX5_doLine_194 : decode cX5_doLine 194 = .ok (.getfield 26, 3) := by decide +kernel
theorem dX5_doLine_197 : decode cX5_doLine 197 = .ok (.iconst 2, 1) := by decide +kernel
theorem dX5_doLine_198 : decode cX5_doLine 198 = .ok (.aload_n 0, 1) := by decide +kernel
theorem dX5_doLine_199 : decode cX5_doLine 199 = .ok (.getfield 88, 3) := by decide +kernel
theorem dX5_doLine_202 : decode cX5_doLine 202 = .ok (.imul, 1) := by decide +kernel
theorem dX5_doLine_203 : decode cX5_doLine 203 = .ok (.iload_n 2, 1) := by decide +kernel
theorem dX5_doLine_204 : decode cX5_doLine 204 = .ok (.iastore, 1) := by decide +kernel
theorem dX5_doLine_205 : decode cX5_doLine 205 = .ok (.aload_n 0, 1) := by decide +kernel
theorem dX5_doLine_206 : decode cX5_doLine 206 = .ok (.getfield 26, 3) := by decide +kernel
theorem dX5_doLine_209 : decode cX5_doLine 209 = .ok (.iconst 2, 1) := by decide +kernel
theorem dX5_doLine_210 : decode cX5_doLine 210 = .ok (.aload_n 0, 1) := by decide +kernel
theorem dX5_doLine_211 : decode cX5_doLine 211 = .ok (.getfield 88, 3) := by decide +kernel
theorem dX5_doLine_214 : decode cX5_doLine 214 = .ok (.imul, 1) := by decide +kernel
theorem dX5_doLine_215 : decode cX5_doLine 215 = .ok (.iconst 1, 1) := by decide +kernel
theorem dX5_doLine_216 : decode cX5_doLine 216 = .ok (.iadd, 1) := by decide +kernel
theorem dX5_doLine_217 : decode cX5_doLine 217 = .ok (.iload_n 3, 1) := by decide +kernel
theorem dX5_doLine_218 : decode cX5_doLine 218 = .ok (.iastore, 1) := by decide +kernel
theorem dX5_doLine_219 : decode cX5_doLine 219 = .ok (.aload_n 0, 1) := by decide +kernel
theorem dX5_doLine_220 : decode cX5_doLine 220 = .ok (.dup, 1) := by decide +kernel
theorem dX5_doLine_221 : decode cX5_doLine 221 = .ok (.getfield 88, 3) := by decide +kernel
theorem dX5_doLine_224 : decode cX5_doLine 224 = .ok (.iconst 1, 1) := by decide +kernel
theorem dX5_doLine_225 : decode cX5_doLine 225 = .ok (.iadd, 1) := by decide +kernel
theorem dX5_doLine_226 : decode cX5_doLine 226 = .ok (.putfield 88, 3) := by decide +kernel
theorem dX5_doLine_229 : decode cX5_doLine 229 = .ok (.goto 52, 3) := by decide +kernel
theorem dX5_doLine_232 : decode cX5_doLine 232 = .ok (.aload_n 0, 1) := by decide +kernel
theorem dX5_doLine_233 : decode cX5_doLine 233 = .ok (.iconst 0, 1) := by decide +kernel
theorem dX5_doLine_234 : decode cX5_doLine 234 = .ok (.putfield 78, 3) := by decide +kernel
theorem dX5_doLine_237 : decode cX5_doLine 237 = .ok (.aload_n 0, 1) := by decide +kernel
theorem dX5_doLine_238 : decode cX5_doLine 238 = .ok (.iconst 0, 1) := by decide +kernel
theorem dX5_doLine_239 : decode cX5_doLine 239 = .ok (.putfield 88, 3) := by decide +kernel
theorem dX5_doLine_242 : decode cX5_doLine 242 = .ok (.goto 39, 3) := by decide +kernel
theorem dX5_doLine_245 : decode cX5_doLine 245 = .ok (.aload_n 0, 1) := by decide +kernel
theorem dX5_doLine_246 : decode cX5_doLine 246 = .ok (.aload_n 0, 1) := by decide +kernel
theorem dX5_doLine_247 : decode cX5_doLine 247 = .ok (.getfield 35, 3) := by decide +kernel
theorem dX5_doLine_250 : decode cX5_doLine 250 = .ok (.iload_n 1, 1) := by decide +kernel
theorem dX5_doLine_251 : decode cX5_doLine 251 = .ok (.iaload, 1) := by decide +kernel
theorem dX5_doLine_252 : decode cX5_doLine 252 = .ok (.bipush 8, 2) := by decide +kernel
theorem dX5_doLine_254 : decode cX5_doLine 254 = .ok (.isub, 1) := by decide +kernel
theorem dX5_doLine_255 : decode cX5_doLine 255 = .ok (.putfield 91, 3) := by decide +kernel
theorem dX5_doLine_258 : decode cX5_doLine 258 = .ok (.aload_n 0, 1) := by decide +kernel
theorem dX5_doLine_259 : decode cX5_doLine 259 = .ok (.aload_n 0, 1) := by decide +kernel
theorem dX5_doLine_260 : decode cX5_doLine 260 = .ok (.getfield 35, 3) := by decide +kernel
theorem dX5_doLine_263 : decode cX5_doLine 263 = .ok (.iload_n 1, 1) := by decide +kernel
theorem dX5_doLine_264 : decode cX5_doLine 264 = .ok (.iaload, 1) := by decide +kernel
theorem dX5_doLine_265 : decode cX5_doLine 265 = .ok (.bipush 11, 2) := by decide +kernel
theorem dX5_doLine_267 : decode cX5_doLine 267 = .ok (.if_icmp .ne 7, 3) := by decide +kernel
theorem dX5_doLine_270 : decode cX5_doLine 270 = .ok (.iload_n 2, 1) := by decide +kernel
theorem dX5_doLine_271 : decode cX5_doLine 271 = .ok (.goto 7, 3) := by decide +kernel
theorem dX5_doLine_274 : decode cX5_doLine 274 = .ok (.aload_n 0, 1) := by decide +kernel
theorem dX5_doLine_275 : decode cX5_doLine 275 = .ok (.getfield 29, 3) := by decide +kernel
theorem dX5_doLine_278 : decode cX5_doLine 278 = .ok (.putfield 29, 3) := by decide +kernel
theorem dX5_doLine_281 : decode cX5_doLine 281 = .ok (.return_, 1) := by decide +kernel
set_option maxRecDepth 20000 in
theorem ggX5_green_X5_isRead : GoodIn wsX5_green wsX5_isRead := goodIn_r _ [9, 10, 1, 11, 12, 13, 14, 15, 16, 17, 18, 19, 20, 21, 22, 23, 24, 25, 26, 27, 8, 28, 29, 30, 31, 32, 33, 34, 35, 36, 37, 38, 39, 40, 41, 42, 43, 44, 45, 46, 2, 47, 48, 49, 50, 51, 52, 53, 54, 55, 56, 57, 58, 59, 60, 61, 62, 63, 64, 65, 66, 67, 68, 69, 70, 71, 72, 73, 74, 75, 76, 77, 78, 79, 80, 81, 82, 83, 84, 85, 86, 105, 106, 107, 108, 109, 110, 111, 112, 113, 114, 115, 116, 117, 118, 119, 120, 121, 122, 123, 124, 125, 126, 127, 128, 129, 130, 131, 132, 133, 134, 135, 136, 137, 138, 139, 140, 141, 142, 143, 144] (by decide +kernel) (by decide +kernel)
set_option maxRecDepth 20000 in
theorem gX5_green_X5_isRead : GoodIn wsX5_green (wsV RX5 205 RX5 yX5_isRead wsX5_isRead) := goodIn_app (goodIn_of _ (by decide +kernel)) ggX5_green_X5_isRead
set_option maxRecDepth 20000 in
theorem ggX5_green_X5_doLine : GoodIn wsX5_green wsX5_doLine := goodIn_r _ [90, 42, 11, 91, 21, 13, 20, 92, 15, 93, 17, 94, 95, 96, 97, 98, 8, 99, 105, 106, 107, 108, 109, 110, 111, 112, 113, 114, 115, 116, 117, 118, 119, 120, 121, 122, 123, 124, 125, 126, 127, 128, 129, 130, 131, 132, 133, 134, 135, 136, 137, 138, 139, 140, 141, 142, 143, 144] (by decide +kernel) (by decide +kernel)
set_option maxRecDepth 20000 in
theorem gX5_green_X5_doLine : GoodIn wsX5_green (wsV RX5 208 RX5 yX5_doLine wsX5_doLine) := goodIn_app (goodIn_of _ (by decide +kernel)) ggX5_green_X5_doLine
set_option maxRecDepth 20000 in
theorem ggX5_green_X5_begin : GoodIn wsX5_green wsX5_begin := goodIn_r _ [103, 104, 20, 95, 105, 106, 107, 108, 109, 110, 111, 112, 113, 114, 115, 116, 117, 118, 119, 120, 121, 122, 123, 124, 125, 126, 127, 128, 129, 130, 131, 132, 133, 134, 135, 136, 137, 138, 139, 140, 141, 142, 143, 144] (by decide +kernel) (by decide +kernel)
set_option maxRecDepth 20000 in
theorem gX5_green_X5_begin : GoodIn wsX5_green (wsV RX5 75 RX5 yX5_begin wsX5_begin) := goodIn_app (goodIn_of _ (by decide +kernel)) ggX5_green_X5_begin
theorem dX5_green_0 : decode cX5_green 0 = .ok (.aload_n 0, 1) := by decide +kernel
theorem dX5_green_1 : decode cX5_green 1 = .ok (.invokevirtual 205, 3) := by decide +kernel
theorem dX5_green_4 : decode cX5_green 4 = .ok (.ifCond .ne 6, 3) := by decide +kernel
theorem dX5_green_7 : decode cX5_green 7 = .ok (.bipush (-4), 2) := by decide +kernel
theorem dX5_green_9 : decode cX5_green 9 = .ok (.ireturn, 1) := by decide +kernel
theorem dX5_green_10 : decode cX5_green 10 = .ok (.iconst 0, 1) := by decide +kernel
theorem dX5_green_11 : decode cX5_green 11 = .ok (.istore_n 1, 1) := by decide +kernel
theorem dX5_green_12 : decode cX5_green 12 = .ok (.iload_n 1, 1) := by decide +kernel
theorem dX5_green_13 : decode cX5_green 13 = .ok (.aload_n 0, 1) := by decide +kernel
theorem dX5_green_14 : decode cX5_green 14 = .ok (.getfield 199, 3) := by decide +kernel
theorem dX5_green_17 : decode cX5_green 17 = .ok (.if_icmp .ge 16, 3) := by decide +kernel
theorem dX5_green_20 : decode cX5_green 20 = .ok (.aload_n 0, 1) := by decide +kernel
theorem dX5_green_21 : decode cX5_green 21 = .ok (.iconst 3, 1) := by decide +kernel
theorem dX5_green_22 : decode cX5_green 22 = .ok (.iload_n 1, 1) := by decide +kernel
theorem dX5_green_23 : decode cX5_green 23 = .ok (.imul, 1) := by decide +kernel
theorem dX5_green_24 : decode cX5_green 24 = .ok (.invokevirtual 208, 3) := by decide +kernel
theorem dX5_green_27 : decode cX5_green 27 = .ok (.iinc 1 1, 3) := by decide +kernel
theorem dX5_green_30 : decode cX5_green 30 = .ok (.goto (-18), 3) := by decide +kernel
theorem dX5_green_33 : decode cX5_green 33 = .ok (.aload_n 0, 1) := by decide +kernel
theorem dX5_green_34 : decode cX5_green 34 = .ok (.iconst 0, 1) := by decide +kernel
theorem dX5_green_35 : decode cX5_green 35 = .ok (.putfield 94, 3) := by decide +kernel
theorem dX5_green_38 : decode cX5_green 38 = .ok (.aload_n 0, 1) := by decide +kernel
theorem dX5_green_39 : decode cX5_green 39 = .ok (.invokevirtual 75, 3) := by decide +kernel
theorem dX5_green_42 : decode cX5_green 42 = .ok (.aload_n 0, 1) := by decide +kernel
theorem dX5_green_43 : decode cX5_green 43 = .ok (.iconst 0, 1) := by decide +kernel
theorem dX5_green_44 : decode cX5_green 44 = .ok (.putfield 212, 3) := by decide +kernel
theorem dX5_green_47 : decode cX5_green 47 = .ok (.aload_n 0, 1) := by decide +kernel
theorem dX5_green_48 : decode cX5_green 48 = .ok (.getfield 47, 3) := by decide +kernel
theorem dX5_green_51 : decode cX5_green 51 = .ok (.iconst 0, 1) := by decide +kernel
theorem dX5_green_52 : decode cX5_green 52 = .ok (.iconst 0, 1) := by decide +kernel
theorem dX5_green_53 : decode cX5_green 53 = .ok (.bastore, 1) := by decide +kernel
theorem dX5_green_54 : decode cX5_green 54 = .ok (.aload_n 0, 1) := by decide +kernel
theorem dX5_green_55 : decode cX5_green 55 = .ok (.getfield 47, 3) := by decide +kernel
theorem dX5_green_58 : decode cX5_green 58 = .ok (.iconst 1, 1) := by decide +kernel
theorem dX5_green_59 : decode cX5_green 59 = .ok (.iconst 0, 1) := by decide +kernel
theorem dX5_green_60 : decode cX5_green 60 = .ok (.bastore, 1) := by decide +kernel
theorem dX5_green_61 : decode cX5_green 61 = .ok (.aload_n 0, 1) := by decide +kernel
theorem dX5_green_62 : decode cX5_green 62 = .ok (.getfield 199, 3) := by decide +kernel
theorem dX5_green_65 : decode cX5_green 65 = .ok (.ireturn, 1) := by decide +kernel
theorem dX5_next_0 : decode cX5_next 0 = .ok (.iload_n 1, 1) := by decide +kernel
theorem dX5_next_1 : decode cX5_next 1 = .ok (.iload_n 2, 1) := by decide +kernel
theorem dX5_next_2 : decode cX5_next 2 = .ok (.iadd, 1) := by decide +kernel
theorem dX5_next_3 : decode cX5_next 3 = .ok (.aload_n 0, 1) := by decide +kernel
theorem dX5_next_4 : decode cX5_next 4 = .ok (.getfield 7, 3) := by decide +kernel
theorem dX5_next_7 : decode cX5_next 7 = .ok (.iadd, 1) := by decide +kernel
theorem dX5_next_8 : decode cX5_next 8 = .ok (.aload_n 0, 1) := by decide +kernel
theorem dX5_next_9 : decode cX5_next 9 = .ok (.getfield 7, 3) := by decide +kernel
theorem dX5_next_12 : decode cX5_next 12 = .ok (.irem, 1) := by decide +kernel
theorem dX5_next_13 : decode cX5_next 13 = .ok (.ireturn, 1) := by decide +kernel
set_option maxRecDepth 20000 in
theorem ggX5_full_X5_next : GoodIn wsX5_full wsX5_next := goodIn_r _ [8, 9, 10, 11, 12, 13, 14, 15, 16, 17, 18, 19, 20, 21, 22, 23, 24, 25, 26, 27, 28, 29, 30, 31, 32, 33, 34, 35, 36, 37, 38, 39, 40, 41, 42, 43, 44, 45, 46, 47, 48, 49] (by decide +kernel) (by decide +kernel)
set_option maxRecDepth 20000 in
theorem gX5_full_X5_next : GoodIn wsX5_full (wsV RX5 215 RX5 yX5_next wsX5_next) := goodIn_app (goodIn_of _ (by decide +kernel)) ggX5_full_X5_next
theorem dX5_full_0 : decode cX5_full 0 = .ok (.iconst 0, 1) := by decide +kernel
theorem dX5_full_1 : decode cX5_full 1 = .ok (.istore_n 1, 1) := by decide +kernel
theorem dX5_full_2 : decode cX5_full 2 = .ok (.iconst 0, 1) := by decide +kernel
theorem dX5_full_3 : decode cX5_full 3 = .ok (.istore_n 2, 1) := by decide +kernel
theorem dX5_full_4 : decode cX5_full 4 = .ok (.iload_n 2, 1) := by decide +kernel
theorem dX5_full_5 : decode cX5_full 5 = .ok (.aload_n 0, 1) := by decide +kernel
theorem dX5_full_6 : decode cX5_full 6 = .ok (.getfield 78, 3) := by decide +kernel
theorem dX5_full_9 : decode cX5_full 9 = .ok (.if_icmp .ge 48, 3) := by decide +kernel
theorem dX5_full_12 : decode cX5_full 12 = .ok (.iload_n 1, 1) := by decide +kernel
theorem dX5_full_13 : decode cX5_full 13 = .ok (.iconst 1, 1) := by decide +kernel
theorem dX5_full_14 : decode cX5_full 14 = .ok (.aload_n 0, 1) := by decide +kernel
theorem dX5_full_15 : decode cX5_full 15 = .ok (.getfield 38, 3) := by decide +kernel
theorem dX5_full_18 : decode cX5_full 18 = .ok (.iload_n 2, 1) := by decide +kernel
theorem dX5_full_19 : decode cX5_full 19 = .ok (.iaload, 1) := by decide +kernel
theorem dX5_full_20 : decode cX5_full 20 = .ok (.ishl, 1) := by decide +kernel
theorem dX5_full_21 : decode cX5_full 21 = .ok (.ior, 1) := by decide +kernel
theorem dX5_full_22 : decode cX5_full 22 = .ok (.aload_n 0, 1) := by decide +kernel
theorem dX5_full_23 : decode cX5_full 23 = .ok (.getfield 17, 3) := by decide +kernel
theorem dX5_full_26 : decode cX5_full 26 = .ok (.iload_n 2, 1) := by decide +kernel
theorem dX5_full_27 : decode cX5_full 27 = .ok (.iaload, 1) := by decide +kernel
theorem dX5_full_28 : decode cX5_full 28 = .ok (.iconst 3, 1) := by decide +kernel
theorem dX5_full_29 : decode cX5_full 29 = .ok (.if_icmp .ne 19, 3) := by decide +kernel
theorem dX5_full_32 : decode cX5_full 32 = .ok (.iconst 1, 1) := by decide +kernel
theorem dX5_full_33 : decode cX5_full 33 = .ok (.aload_n 0, 1) := by decide +kernel
theorem dX5_full_34 : decode cX5_full 34 = .ok (.aload_n 0, 1) := by decide +kernel
theorem dX5_full_35 : decode cX5_full 35 = .ok (.getfield 38, 3) := by decide +kernel
theorem dX5_full_38 : decode cX5_full 38 = .ok (.iload_n 2, 1) := by decide +kernel
theorem dX5_full_39 : decode cX5_full 39 = .ok (.iaload, 1) := by decide +kernel
theorem dX5_full_40 : decode cX5_full 40 = .ok (.iconst 1, 1) := by decide +kernel
theorem dX5_full_41 : decode cX5_full 41 = .ok (.invokevirtual 215, 3) := by decide +kernel
theorem dX5_full_44 : decode cX5_full 44 = .ok (.ishl, 1) := by decide +kernel
theorem dX5_full_45 : decode cX5_full 45 = .ok (.goto 4, 3) := by decide +kernel
theorem dX5_full_48 : decode cX5_full 48 = .ok (.iconst 0, 1) := by decide +kernel
theorem dX5_full_49 : decode cX5_full 49 = .ok (.ior, 1) := by decide +kernel
theorem dX5_full_50 : decode cX5_full 50 = .ok (.istore_n 1, 1) := by decide +kernel
theorem dX5_full_51 : decode cX5_full 51 = .ok (.iinc 2 1, 3) := by decide +kernel
theorem dX5_full_54 : decode cX5_full 54 = .ok (.goto (-50), 3) := by decide +kernel
theorem dX5_full_57 : decode cX5_full 57 = .ok (.iload_n 1, 1) := by decide +kernel
theorem dX5_full_58 : decode cX5_full 58 = .ok (.ireturn, 1) := by decide +kernel
set_option maxRecDepth 20000 in
theorem ggX5_standsOn_X5_next : GoodIn wsX5_standsOn wsX5_next := goodIn_r _ [7, 8, 9, 10, 11, 12, 13, 14, 15, 16, 17, 18, 19, 20, 21, 22, 23, 24, 25, 26, 27, 28, 29, 30, 31, 32, 33, 34, 35, 36, 37, 38, 39, 40, 41, 42, 43, 44, 45, 46, 47, 48] (by decide +kernel) (by decide +kernel)
set_option maxRecDepth 20000 in
theorem gX5_standsOn_X5_next : GoodIn wsX5_standsOn (wsV RX5 215 RX5 yX5_next wsX5_next) := goodIn_app (goodIn_of _ (by decide +kernel)) ggX5_standsOn_X5_next
theorem dX5_standsOn_0 : decode cX5_standsOn 0 = .ok (.aload_n 0, 1) := by decide +kernel
theorem dX5_standsOn_1 : decode cX5_standsOn 1 = .ok (.getfield 38, 3) := by decide +kernel
theorem dX5_standsOn_4 : decode cX5_standsOn 4 = .ok (.iload_n 1, 1) := by decide +kernel
theorem dX5_standsOn_5 : decode cX5_standsOn 5 = .ok (.iaload, 1) := by decide +kernel
theorem dX5_standsOn_6 : decode cX5_standsOn 6 = .ok (.iload_n 2, 1) := by decide +kernel
theorem dX5_standsOn_7 : decode cX5_standsOn 7 = .ok (.if_icmp .eq 28, 3) := by decide +kernel
theorem dX5_standsOn_10 : decode cX5_standsOn 10 = .ok (.aload_n 0, 1) := by decide +kernel
theorem dX5_standsOn_11 : decode cX5_standsOn 11 = .ok (.getfield 17, 3) := by decide +kernel
theorem dX5_standsOn_14 : decode cX5_standsOn 14 = .ok (.iload_n 1, 1) := by decide +kernel
theorem dX5_standsOn_15 : decode cX5_standsOn 15 = .ok (.iaload, 1) := by decide +kernel
theorem dX5_standsOn_16 : decode cX5_standsOn 16 = .ok (.iconst 3, 1) := by decide +kernel
theorem dX5_standsOn_17 : decode cX5_standsOn 17 = .ok (.if_icmp .ne 22, 3) := by decide +kernel
theorem dX5_standsOn_20 : decode cX5_standsOn 20 = .ok (.aload_n 0, 1) := by decide +kernel
theorem dX5_standsOn_21 : decode cX5_standsOn 21 = .ok (.aload_n 0, 1) := by decide +kernel
theorem dX5_standsOn_22 : decode cX5_standsOn 22 = .ok (.getfield 38, 3) := by decide +kernel
theorem dX5_standsOn_25 : decode cX5_standsOn 25 = .ok (.iload_n 1, 1) := by decide +kernel
theorem dX5_standsOn_26 : decode cX5_standsOn 26 = .ok (.iaload, 1) := by decide +kernel
theorem dX5_standsOn_27 : decode cX5_standsOn 27 = .ok (.iconst 1, 1) := by decide +kernel
theorem dX5_standsOn_28 : decode cX5_standsOn 28 = .ok (.invokevirtual 215, 3) := by decide +kernel
theorem dX5_standsOn_31 : decode cX5_standsOn 31 = .ok (.iload_n 2, 1) := by decide +kernel
theorem dX5_standsOn_32 : decode cX5_standsOn 32 = .ok (.if_icmp .ne 7, 3) := by decide +kernel
theorem dX5_standsOn_35 : decode cX5_standsOn 35 = .ok (.iconst 1, 1) := by decide +kernel
theorem dX5_standsOn_36 : decode cX5_standsOn 36 = .ok (.goto 4, 3) := by decide +kernel
theorem dX5_standsOn_39 : decode cX5_standsOn 39 = .ok (.iconst 0, 1) := by decide +kernel
theorem dX5_standsOn_40 : decode cX5_standsOn 40 = .ok (.ireturn, 1) := by decide +kernel
set_option maxRecDepth 20000 in
theorem ggX5_plot_X5_isPlot : GoodIn wsX5_plot wsX5_isPlot := goodIn_r _ [7, 8, 9, 10, 6, 11, 22, 23, 24, 25, 26, 27, 28, 29, 30, 31, 32, 33, 34, 35, 36, 37, 38, 39, 40, 41, 42, 43, 44, 45, 46, 47, 48, 49, 50, 51, 52, 53, 54, 55, 56, 57, 58, 59, 60, 61] (by decide +kernel) (by decide +kernel)
set_option maxRecDepth 20000 in
theorem gX5_plot_X5_isPlot : GoodIn wsX5_plot (wsV RX5 219 RX5 yX5_isPlot wsX5_isPlot) := goodIn_app (goodIn_of _ (by decide +kernel)) ggX5_plot_X5_isPlot
set_option maxRecDepth 20000 in
theorem ggX5_plot_X5_in : GoodIn wsX5_plot wsX5_in := goodIn_r _ [11] (by decide +kernel) (by decide +kernel)
set_option maxRecDepth 20000 in
theorem gX5_plot_X5_in : GoodIn wsX5_plot (va_wsS RX5 81 yX5_in wsX5_in) := goodIn_app (goodIn_of _ (by decide +kernel)) ggX5_plot_X5_in
set_option maxRecDepth 20000 in
theorem ggX5_plot_X5_standsOn : GoodIn wsX5_plot wsX5_standsOn := goodIn_r _ [15, 16, 17, 18, 19, 20, 6, 21, 8, 22, 23, 24, 25, 26, 27, 28, 29, 30, 31, 32, 33, 34, 35, 36, 37, 38, 39, 40, 41, 42, 43, 44, 45, 46, 47, 48, 49, 50, 51, 52, 53, 54, 55, 56, 57, 58, 59, 60, 61] (by decide +kernel) (by decide +kernel)
set_option maxRecDepth 20000 in
theorem gX5_plot_X5_standsOn : GoodIn wsX5_plot (wsV RX5 222 RX5 yX5_standsOn wsX5_standsOn) := goodIn_app (goodIn_of _ (by decide +kernel)) ggX5_plot_X5_standsOn
theorem dX5_plot_0 : decode cX5_plot 0 = .ok (.aload_n 0, 1) := by decide +kernel
theorem dX5_plot_1 : decode cX5_plot 1 = .ok (.iload_n 1, 1) := by decide +kernel
theorem dX5_plot_2 : decode cX5_plot 2 = .ok (.invokevirtual 219, 3) := by decide +kernel
theorem dX5_plot_5 : decode cX5_plot 5 = .ok (.ifCond .ne 6, 3) := by decide +kernel
theorem dX5_plot_8 : decode cX5_plot 8 = .ok (.bipush (-2), 2) := by decide +kernel
theorem dX5_plot_10 : decode cX5_plot 10 = .ok (.ireturn, 1) := by decide +kernel
theorem dX5_plot_11 : decode cX5_plot 11 = .ok (.iload_n 2, 1) := by decide +kernel
theorem dX5_plot_12 : decode cX5_plot 12 = .ok (.iconst 0, 1) := by decide +kernel
theorem dX5_plot_13 : decode cX5_plot 13 = .ok (.iconst 1, 1) := by decide +kernel
theorem dX5_plot_14 : decode cX5_plot 14 = .ok (.invokestatic 81, 3) := by decide +kernel
theorem dX5_plot_17 : decode cX5_plot 17 = .ok (.ifCond .ne 6, 3) := by decide +kernel
theorem dX5_plot_20 : decode cX5_plot 20 = .ok (.bipush (-3), 2) := by decide +kernel
theorem dX5_plot_22 : decode cX5_plot 22 = .ok (.ireturn, 1) := by decide +kernel
theorem dX5_plot_23 : decode cX5_plot 23 = .ok (.iconst (-1), 1) := by decide +kernel
theorem dX5_plot_24 : decode cX5_plot 24 = .ok (.istore_n 3, 1) := by decide +kernel
theorem dX5_plot_25 : decode cX5_plot 25 = .ok (.iconst 0, 1) := by decide +kernel
theorem dX5_plot_26 : decode cX5_plot 26 = .ok (.istore 4, 2) := by decide +kernel
theorem dX5_plot_28 : decode cX5_plot 28 = .ok (.iload 4, 2) := by decide +kernel
theorem dX5_plot_30 : decode cX5_plot 30 = .ok (.aload_n 0, 1) := by decide +kernel
theorem dX5_plot_31 : decode cX5_plot 31 = .ok (.getfield 78, 3) := by decide +kernel
theorem dX5_plot_34 : decode cX5_plot 34 = .ok (.if_icmp .ge 26, 3) := by decide +kernel
theorem dX5_plot_37 : decode cX5_plot 37 = .ok (.aload_n 0, 1) := by decide +kernel
theorem dX5_plot_38 : decode cX5_plot 38 = .ok (.iload 4, 2) := by decide +kernel
theorem dX5_plot_40 : decode cX5_plot 40 = .ok (.iload_n 1, 1) := by decide +kernel
theorem dX5_plot_41 : decode cX5_plot 41 = .ok (.invokevirtual 222, 3) := by decide +kernel
theorem dX5_plot_44 : decode cX5_plot 44 = .ok (.ifCond .eq 8, 3) := by decide +kernel
theorem dX5_plot_47 : decode cX5_plot 47 = .ok (.iload 4, 2) := by decide +kernel
theorem dX5_plot_49 : decode cX5_plot 49 = .ok (.goto 4, 3) := by decide +kernel
theorem dX5_plot_52 : decode cX5_plot 52 = .ok (.iload_n 3, 1) := by decide +kernel
theorem dX5_plot_53 : decode cX5_plot 53 = .ok (.istore_n 3, 1) := by decide +kernel
theorem dX5_plot_54 : decode cX5_plot 54 = .ok (.iinc 4 1, 3) := by decide +kernel
theorem dX5_plot_57 : decode cX5_plot 57 = .ok (.goto (-29), 3) := by decide +kernel
theorem dX5_plot_60 : decode cX5_plot 60 = .ok (.iload_n 2, 1) := by decide +kernel
theorem dX5_plot_61 : decode cX5_plot 61 = .ok (.ifCond .ne 7, 3) := by decide +kernel
theorem dX5_plot_64 : decode cX5_plot 64 = .ok (.iload_n 3, 1) := by decide +kernel
theorem dX5_plot_65 : decode cX5_plot 65 = .ok (.goto 9, 3) := by decide +kernel
theorem dX5_plot_68 : decode cX5_plot 68 = .ok (.aload_n 0, 1) := by decide +kernel
theorem dX5_plot_69 : decode cX5_plot 69 = .ok (.getfield 13, 3) := by decide +kernel
theorem dX5_plot_72 : decode cX5_plot 72 = .ok (.iload_n 1, 1) := by decide +kernel
theorem dX5_plot_73 : decode cX5_plot 73 = .ok (.iaload, 1) := by decide +kernel
theorem dX5_plot_74 : decode cX5_plot 74 = .ok (.ireturn, 1) := by decide +kernel
theorem dX5_addWay_0 : decode cX5_addWay 0 = .ok (.iload_n 1, 1) := by decide +kernel
theorem dX5_addWay_1 : decode cX5_addWay 1 = .ok (.ifCond .eq 23, 3) := by decide +kernel
theorem dX5_addWay_4 : decode cX5_addWay 4 = .ok (.aload_n 0, 1) := by decide +kernel
theorem dX5_addWay_5 : decode cX5_addWay 5 = .ok (.getfield 54, 3) := by decide +kernel
theorem dX5_addWay_8 : decode cX5_addWay 8 = .ok (.aload_n 0, 1) := by decide +kernel
theorem dX5_addWay_9 : decode cX5_addWay 9 = .ok (.getfield 225, 3) := by decide +kernel
theorem dX5_addWay_12 : decode cX5_addWay 12 = .ok (.iload_n 2, 1) := by decide +kernel
theorem dX5_addWay_13 : decode cX5_addWay 13 = .ok (.iastore, 1) := by decide +kernel
theorem dX5_addWay_14 : decode cX5_addWay 14 = .ok (.aload_n 0, 1) := by decide +kernel
theorem dX5_addWay_15 : decode cX5_addWay 15 = .ok (.dup, 1) := by decide +kernel
theorem dX5_addWay_16 : decode cX5_addWay 16 = .ok (.getfield 225, 3) := by decide +kernel
theorem dX5_addWay_19 : decode cX5_addWay 19 = .ok (.iconst 1, 1) := by decide +kernel
theorem dX5_addWay_20 : decode cX5_addWay 20 = .ok (.iadd, 1) := by decide +kernel
theorem dX5_addWay_21 : decode cX5_addWay 21 = .ok (.putfield 225, 3) := by decide +kernel
theorem dX5_addWay_24 : decode cX5_addWay 24 = .ok (.return_, 1) := by decide +kernel
set_option maxRecDepth 20000 in
theorem ggX5_layWays_X5_full : GoodIn wsX5_layWays wsX5_full := goodIn_r _ [10, 11, 3, 2, 12, 13, 14, 9, 15, 16, 25, 26, 27, 28, 29, 30, 31, 32, 33, 34, 35, 36, 37, 38, 39, 40, 41, 42, 43, 44, 45, 46, 47, 48, 49, 50, 51, 52, 53, 54, 55, 56, 57, 58, 59, 60, 61, 62, 63, 64] (by decide +kernel) (by decide +kernel)
set_option maxRecDepth 20000 in
theorem gX5_layWays_X5_full : GoodIn wsX5_layWays (wsV RX5 228 RX5 yX5_full wsX5_full) := goodIn_app (goodIn_of _ (by decide +kernel)) ggX5_layWays_X5_full
set_option maxRecDepth 20000 in
theorem ggX5_layWays_X5_next : GoodIn wsX5_layWays wsX5_next := goodIn_r _ [15, 16, 25, 26, 27, 28, 29, 30, 31, 32, 33, 34, 35, 36, 37, 38, 39, 40, 41, 42, 43, 44, 45, 46, 47, 48, 49, 50, 51, 52, 53, 54, 55, 56, 57, 58, 59, 60, 61, 62, 63, 64] (by decide +kernel) (by decide +kernel)
set_option maxRecDepth 20000 in
theorem gX5_layWays_X5_next : GoodIn wsX5_layWays (wsV RX5 215 RX5 yX5_next wsX5_next) := goodIn_app (goodIn_of _ (by decide +kernel)) ggX5_layWays_X5_next
set_option maxRecDepth 20000 in
theorem ggX5_layWays_X5_has : GoodIn wsX5_layWays wsX5_has := goodIn_r _ [19] (by decide +kernel) (by decide +kernel)
set_option maxRecDepth 20000 in
theorem gX5_layWays_X5_has : GoodIn wsX5_layWays (va_wsS RX5 232 yX5_has wsX5_has) := goodIn_app (goodIn_of _ (by decide +kernel)) ggX5_layWays_X5_has
set_option maxRecDepth 20000 in
theorem ggX5_layWays_X5_addWay : GoodIn wsX5_layWays wsX5_addWay := goodIn_r _ [23, 24, 1, 25, 26, 27, 28, 29, 30, 31, 32, 33, 34, 35, 36, 37, 38, 39, 40, 41, 42, 43, 44, 45, 46, 47, 48, 49, 50, 51, 52, 53, 54, 55, 56, 57, 58, 59, 60, 61, 62, 63, 64] (by decide +kernel) (by decide +kernel)
set_option maxRecDepth 20000 in
theorem gX5_layWays_X5_addWay : GoodIn wsX5_layWays (wsV RX5 235 RX5 yX5_addWay wsX5_addWay) := goodIn_app (goodIn_of _ (by decide +kernel)) ggX5_layWays_X5_addWay
theorem dX5_layWays_0 : decode cX5_layWays 0 = .ok (.aload_n 0, 1) := by decide +kernel
theorem dX5_layWays_1 : decode cX5_layWays 1 = .ok (.iconst 0, 1) := by decide +kernel
theorem dX5_layWays_2 : decode cX5_layWays 2 = .ok (.putfield 225, 3) := by decide +kernel
theorem dX5_layWays_5 : decode cX5_layWays 5 = .ok (.aload_n 0, 1) := by decide +kernel
theorem dX5_layWays_6 : decode cX5_layWays 6 = .ok (.getfield 17, 3) := by decide +kernel
theorem dX5_layWays_9 : decode cX5_layWays 9 = .ok (.iload_n 1, 1) := by decide +kernel
theorem dX5_layWays_10 : decode cX5_layWays 10 = .ok (.iaload, 1) := by decide +kernel
theorem dX5_layWays_11 : decode cX5_layWays 11 = .ok (.iconst 2, 1) := by decide +kernel
theorem dX5_layWays_12 : decode cX5_layWays 12 = .ok (.if_icmp .ne 4, 3) := by decide +kernel
theorem dX5_layWays_15 : decode cX5_layWays 15 = .ok (.return_, 1) := by decide +kernel
theorem dX5_layWays_16 : decode cX5_layWays 16 = .ok (.aload_n 0, 1) := by decide +kernel
theorem dX5_layWays_17 : decode cX5_layWays 17 = .ok (.invokevirtual 228, 3) := by decide +kernel
theorem dX5_layWays_20 : decode cX5_layWays 20 = .ok (.istore_n 2, 1) := by decide +kernel
theorem dX5_layWays_21 : decode cX5_layWays 21 = .ok (.aload_n 0, 1) := by decide +kernel
theorem dX5_layWays_22 : decode cX5_layWays 22 = .ok (.getfield 38, 3) := by decide +kernel
theorem dX5_layWays_25 : decode cX5_layWays 25 = .ok (.iload_n 1, 1) := by decide +kernel
theorem dX5_layWays_26 : decode cX5_layWays 26 = .ok (.iaload, 1) := by decide +kernel
theorem dX5_layWays_27 : decode cX5_layWays 27 = .ok (.istore_n 3, 1) := by decide +kernel
theorem dX5_layWays_28 : decode cX5_layWays 28 = .ok (.aload_n 0, 1) := by decide +kernel
theorem dX5_layWays_29 : decode cX5_layWays 29 = .ok (.iload_n 2, 1) := by decide +kernel
theorem dX5_layWays_30 : decode cX5_layWays 30 = .ok (.aload_n 0, 1) := by decide +kernel
theorem dX5_layWays_31 : decode cX5_layWays 31 = .ok (.iload_n 3, 1) := by decide +kernel
theorem dX5_layWays_32 : decode cX5_layWays 32 = .ok (.aload_n 0, 1) := by decide +kernel
theorem dX5_layWays_33 : decode cX5_layWays 33 = .ok (.getfield 17, 3) := by decide +kernel
theorem dX5_layWays_36 : decode cX5_layWays 36 = .ok (.iload_n 1, 1) := by decide +kernel
theorem dX5_layWays_37 : decode cX5_layWays 37 = .ok (.iaload, 1) := by decide +kernel
theorem dX5_layWays_38 : decode cX5_layWays 38 = .ok (.iconst 3, 1) := by decide +kernel
theorem dX5_layWays_39 : decode cX5_layWays 39 = .ok (.if_icmp .ne 7, 3) := by decide +kernel
theorem dX5_layWays_42 : decode cX5_layWays 42 = .ok (.iconst 2, 1) := by decide +kernel
theorem dX5_layWays_43 : decode cX5_layWays 43 = .ok (.goto 4, 3) := by decide +kernel
theorem dX5_layWays_46 : decode cX5_layWays 46 = .ok (.iconst 1, 1) := by decide +kernel
theorem dX5_layWays_47 : decode cX5_layWays 47 = .ok (.invokevirtual 215, 3) := by decide +kernel
theorem dX5_layWays_50 : decode cX5_layWays 50 = .ok (.invokestatic 232, 3) := by decide +kernel
theorem dX5_layWays_53 : decode cX5_layWays 53 = .ok (.ifCond .ne 7, 3) := by decide +kernel
theorem dX5_layWays_56 : decode cX5_layWays 56 = .ok (.iconst 1, 1) := by decide +kernel
theorem dX5_layWays_57 : decode cX5_layWays 57 = .ok (.goto 4, 3) := by decide +kernel
theorem dX5_layWays_60 : decode cX5_layWays 60 = .ok (.iconst 0, 1) := by decide +kernel
theorem dX5_layWays_61 : decode cX5_layWays 61 = .ok (.aload_n 0, 1) := by decide +kernel
theorem dX5_layWays_62 : decode cX5_layWays 62 = .ok (.iload_n 3, 1) := by decide +kernel
theorem dX5_layWays_63 : decode cX5_layWays 63 = .ok (.iconst 1, 1) := by decide +kernel
theorem dX5_layWays_64 : decode cX5_layWays 64 = .ok (.invokevirtual 215, 3) := by decide +kernel
theorem dX5_layWays_67 : decode cX5_layWays 67 = .ok (.invokevirtual 235, 3) := by decide +kernel
theorem dX5_layWays_70 : decode cX5_layWays 70 = .ok (.aload_n 0, 1) := by decide +kernel
theorem dX5_layWays_71 : decode cX5_layWays 71 = .ok (.iload_n 2, 1) := by decide +kernel
theorem dX5_layWays_72 : decode cX5_layWays 72 = .ok (.aload_n 0, 1) := by decide +kernel
theorem dX5_layWays_73 : decode cX5_layWays 73 = .ok (.iload_n 3, 1) := by decide +kernel
theorem dX5_layWays_74 : decode cX5_layWays 74 = .ok (.iconst (-1), 1) := by decide +kernel
theorem dX5_layWays_75 : decode cX5_layWays 75 = .ok (.invokevirtual 215, 3) := by decide +kernel
theorem dX5_layWays_78 : decode cX5_layWays 78 = .ok (.invokestatic 232, 3) := by decide +kernel
theorem dX5_layWays_81 : decode cX5_layWays 81 = .ok (.ifCond .ne 7, 3) := by decide +kernel
theorem dX5_layWays_84 : decode cX5_layWays 84 = .ok (.iconst 1, 1) := by decide +kernel
theorem dX5_layWays_85 : decode cX5_layWays 85 = .ok (.goto 4, 3) := by decide +kernel
theorem dX5_layWays_88 : decode cX5_layWays 88 = .ok (.iconst 0, 1) := by decide +kernel
theorem dX5_layWays_89 : decode cX5_layWays 89 = .ok (.aload_n 0, 1) := by decide +kernel
theorem dX5_layWays_90 : decode cX5_layWays 90 = .ok (.iload_n 3, 1) := by decide +kernel
theorem dX5_layWays_91 : decode cX5_layWays 91 = .ok (.iconst (-1), 1) := by decide +kernel
theorem dX5_layWays_92 : decode cX5_layWays 92 = .ok (.invokevirtual 215, 3) := by decide +kernel
theorem dX5_layWays_95 : decode cX5_layWays 95 = .ok (.invokevirtual 235, 3) := by decide +kernel
theorem dX5_layWays_98 : decode cX5_layWays 98 = .ok (.iconst 0, 1) := by decide +kernel
theorem dX5_layWays_99 : decode cX5_layWays 99 = .ok (.istore 4, 2) := by decide +kernel
theorem dX5_layWays_101 : decode cX5_layWays 101 = .ok (.iload 4, 2) := by decide +kernel
theorem dX5_layWays_103 : decode cX5_layWays 103 = .ok (.aload_n 0, 1) := by decide +kernel
theorem dX5_layWays_104 : decode cX5_layWays 104 = .ok (.getfield 85, 3) := by decide +kernel
theorem dX5_layWays_107 : decode cX5_layWays 107 = .ok (.if_icmp .ge 112, 3) := by decide +kernel
theorem dX5_layWays_110 : decode cX5_layWays 110 = .ok (.aload_n 0, 1) := by decide +kernel
theorem dX5_layWays_111 : decode cX5_layWays 111 = .ok (.getfield 17, 3) := by decide +kernel
theorem dX5_layWays_114 : decode cX5_layWays 114 = .ok (.iload_n 1, 1) := by decide +kernel
theorem dX5_layWays_115 : decode cX5_layWays 115 = .ok (.iaload, 1) := by decide +kernel
theorem dX5_layWays_116 : decode cX5_layWays 116 = .ok (.iconst 1, 1) := by decide +kernel
theorem dX5_layWays_117 : decode cX5_layWays 117 = .ok (.if_icmp .ne 102, 3) := by decide +kernel
theorem dX5_layWays_120 : decode cX5_layWays 120 = .ok (.aload_n 0, 1) := by decide +kernel
theorem dX5_layWays_121 : decode cX5_layWays 121 = .ok (.getfield 23, 3) := by decide +kernel
theorem dX5_layWays_124 : decode cX5_layWays 124 = .ok (.iconst 2, 1) := by decide +kernel
theorem dX5_layWays_125 : decode cX5_layWays 125 = .ok (.iload 4, 2) := by decide +kernel
theorem dX5_layWays_127 : decode cX5_layWays 127 = .ok (.imul, 1) := by decide +kernel
theorem dX5_layWays_128 : decode cX5_layWays 128 = .ok (.iaload, 1) := by decide +kernel
theorem dX5_layWays_129 : decode cX5_layWays 129 = .ok (.iload_n 3, 1) := by decide +kernel
theorem dX5_layWays_130 : decode cX5_layWays 130 = .ok (.if_icmp .ne 17, 3) := by decide +kernel
theorem dX5_layWays_133 : decode cX5_layWays 133 = .ok (.aload_n 0, 1) := by decide +kernel
theorem dX5_layWays_134 : decode cX5_layWays 134 = .ok (.getfield 23, 3) := by decide +kernel
theorem dX5_layWays_137 : decode cX5_layWays 137 = .ok (.iconst 2, 1) := by decide +kernel
theorem dX5_layWays_138 : decode cX5_layWays 138 = .ok (.iload 4, 2) := by decide +kernel
theorem dX5_layWays_140 : decode cX5_layWays 140 = .ok (.imul, 1) := by decide +kernel
theorem dX5_layWays_141 : decode cX5_layWays 141 = .ok (.iconst 1, 1) := by decide +kernel
theorem dX5_layWays_142 : decode cX5_layWays 142 = .ok (.iadd, 1) := by decide +kernel
theorem dX5_layWays_143 : decode cX5_layWays 143 = .ok (.iaload, 1) := by decide +kernel
theorem dX5_layWays_144 : decode cX5_layWays 144 = .ok (.goto 31, 3) := by decide +kernel
theorem dX5_layWays_147 : decode cX5_layWays 147 = .ok (.aload_n 0, 1) := by decide +kernel
theorem dX5_layWays_148 : decode cX5_layWays 148 = .ok (.getfield 23, 3) := by decide +kernel
theorem dX5_layWays_151 : decode cX5_layWays 151 = .ok (.iconst 2, 1) := by decide +kernel
theorem dX5_layWays_152 : decode cX5_layWays 152 = .ok (.iload 4, 2) := by decide +kernel
theorem dX5_layWays_154 : decode cX5_layWays 154 = .ok (.imul, 1) := by decide +kernel
theorem dX5_layWays_155 : decode cX5_layWays 155 = .ok (.iconst 1, 1) := by decide +kernel
theorem dX5_layWays_156 : decode cX5_layWays 156 = .ok (.iadd, 1) := by decide +kernel
theorem dX5_layWays_157 : decode cX5_layWays 157 = .ok (.iaload, 1) := by decide +kernel
theorem dX5_layWays_158 : decode cX5_layWays 158 = .ok (.iload_n 3, 1) := by decide +kernel
theorem dX5_layWays_159 : decode cX5_layWays 159 = .ok (.if_icmp .ne 15, 3) := by decide +kernel
theorem dX5_layWays_162 : decode cX5_layWays 162 = .ok (.aload_n 0, 1) := by decide +kernel
theorem dX5_layWays_163 : decode cX5_layWays 163 = .ok (.getfield 23, 3) := by decide +kernel
theorem dX5_layWays_166 : decode cX5_layWays 166 = .ok (.iconst 2, 1) := by decide +kernel
theorem dX5_layWays_167 : decode cX5_layWays 167 = .ok (.iload 4, 2) := by decide +kernel
theorem dX5_layWays_169 : decode cX5_layWays 169 = .ok (.imul, 1) := by decide +kernel
theorem dX5_layWays_170 : decode cX5_layWays 170 = .ok (.iaload, 1) := by decide +kernel
theorem dX5_layWays_171 : decode cX5_layWays 171 = .ok (.goto 4, 3) := by decide +kernel
theorem dX5_layWays_174 : decode cX5_layWays 174 = .ok (.iconst (-1), 1) := by decide +kernel
theorem dX5_layWays_175 : decode cX5_layWays 175 = .ok (.istore 5, 2) := by decide +kernel
theorem dX5_layWays_177 : decode cX5_layWays 177 = .ok (.aload_n 0, 1) := by decide +kernel
theorem dX5_layWays_178 : decode cX5_layWays 178 = .ok (.iload 5, 2) := by decide +kernel
theorem dX5_layWays_180 : decode cX5_layWays 180 = .ok (.iconst (-1), 1) := by decide +kernel
theorem dX5_layWays_181 : decode cX5_layWays 181 = .ok (.if_icmp .eq 26, 3) := by decide +kernel
theorem dX5_layWays_184 : decode cX5_layWays 184 = .ok (.iload_n 2, 1) := by decide +kernel
theorem dX5_layWays_185 : decode cX5_layWays 185 = .ok (.iload 5, 2) := by decide +kernel
theorem dX5_layWays_187 : decode cX5_layWays 187 = .ok (.iconst (-1), 1) := by decide +kernel
theorem dX5_layWays_188 : decode cX5_layWays 188 = .ok (.if_icmp .ne 7, 3) := by decide +kernel
theorem dX5_layWays_191 : decode cX5_layWays 191 = .ok (.iconst 0, 1) := by decide +kernel
theorem dX5_layWays_192 : decode cX5_layWays 192 = .ok (.goto 5, 3) := by decide +kernel
theorem dX5_layWays_195 : decode cX5_layWays 195 = .ok (.iload 5, 2) := by decide +kernel
theorem dX5_layWays_197 : decode cX5_layWays 197 = .ok (.invokestatic 232, 3) := by decide +kernel
theorem dX5_layWays_200 : decode cX5_layWays 200 = .ok (.ifCond .ne 7, 3) := by decide +kernel
theorem dX5_layWays_203 : decode cX5_layWays 203 = .ok (.iconst 1, 1) := by decide +kernel
theorem dX5_layWays_204 : decode cX5_layWays 204 = .ok (.goto 4, 3) := by decide +kernel
theorem dX5_layWays_207 : decode cX5_layWays 207 = .ok (.iconst 0, 1) := by decide +kernel
theorem dX5_layWays_208 : decode cX5_layWays 208 = .ok (.iload 5, 2) := by decide +kernel
theorem dX5_layWays_210 : decode cX5_layWays 210 = .ok (.invokevirtual 235, 3) := by decide +kernel
theorem dX5_layWays_213 : decode cX5_layWays 213 = .ok (.iinc 4 1, 3) := by decide +kernel
theorem dX5_layWays_216 : decode cX5_layWays 216 = .ok (.goto (-115), 3) := by decide +kernel
theorem dX5_layWays_219 : decode cX5_layWays 219 = .ok (.return_, 1) := by decide +kernel
set_option maxRecDepth 20000 in
theorem ggX5_house_X5_isHouse : GoodIn wsX5_house wsX5_isHouse := goodIn_r _ [7, 8, 9, 10, 6, 11, 12, 13, 14, 15, 16, 17, 18, 19, 20, 21, 22, 23, 24, 25, 26, 27, 28, 29, 30, 31, 32, 33, 34, 35, 36, 37, 38, 39, 40, 41, 42, 43, 44, 45, 46, 47, 48, 49, 50, 51] (by decide +kernel) (by decide +kernel)
set_option maxRecDepth 20000 in
theorem gX5_house_X5_isHouse : GoodIn wsX5_house (wsV RX5 239 RX5 yX5_isHouse wsX5_isHouse) := goodIn_app (goodIn_of _ (by decide +kernel)) ggX5_house_X5_isHouse
theorem dX5_house_0 : decode cX5_house 0 = .ok (.aload_n 0, 1) := by decide +kernel
theorem dX5_house_1 : decode cX5_house 1 = .ok (.iload_n 1, 1) := by decide +kernel
theorem dX5_house_2 : decode cX5_house 2 = .ok (.invokevirtual 239, 3) := by decide +kernel
theorem dX5_house_5 : decode cX5_house 5 = .ok (.ifCond .ne 6, 3) := by decide +kernel
theorem dX5_house_8 : decode cX5_house 8 = .ok (.bipush (-2), 2) := by decide +kernel
theorem dX5_house_10 : decode cX5_house 10 = .ok (.ireturn, 1) := by decide +kernel
theorem dX5_house_11 : decode cX5_house 11 = .ok (.iload_n 2, 1) := by decide +kernel
theorem dX5_house_12 : decode cX5_house 12 = .ok (.tableswitch 79 0 2 #[28, 35, 42], 28) := by decide +kernel
theorem dX5_house_40 : decode cX5_house 40 = .ok (.aload_n 0, 1) := by decide +kernel
theorem dX5_house_41 : decode cX5_house 41 = .ok (.getfield 17, 3) := by decide +kernel
theorem dX5_house_44 : decode cX5_house 44 = .ok (.iload_n 1, 1) := by decide +kernel
theorem dX5_house_45 : decode cX5_house 45 = .ok (.iaload, 1) := by decide +kernel
theorem dX5_house_46 : decode cX5_house 46 = .ok (.ireturn, 1) := by decide +kernel
theorem dX5_house_47 : decode cX5_house 47 = .ok (.aload_n 0, 1) := by decide +kernel
theorem dX5_house_48 : decode cX5_house 48 = .ok (.getfield 38, 3) := by decide +kernel
theorem dX5_house_51 : decode cX5_house 51 = .ok (.iload_n 1, 1) := by decide +kernel
theorem dX5_house_52 : decode cX5_house 52 = .ok (.iaload, 1) := by decide +kernel
theorem dX5_house_53 : decode cX5_house 53 = .ok (.ireturn, 1) := by decide +kernel
theorem dX5_house_54 : decode cX5_house 54 = .ok (.aload_n 0, 1) := by decide +kernel
theorem dX5_house_55 : decode cX5_house 55 = .ok (.getfield 38, 3) := by decide +kernel
theorem dX5_house_58 : decode cX5_house 58 = .ok (.bipush 8, 2) := by decide +kernel
theorem dX5_house_60 : decode cX5_house 60 = .ok (.iload_n 1, 1) := by decide +kernel
theorem dX5_house_61 : decode cX5_house 61 = .ok (.iadd, 1) := by decide +kernel
theorem dX5_house_62 : decode cX5_house 62 = .ok (.iaload, 1) := by decide +kernel
theorem dX5_house_63 : decode cX5_house 63 = .ok (.iconst (-1), 1) := by decide +kernel
theorem dX5_house_64 : decode cX5_house 64 = .ok (.if_icmp .ne 7, 3) := by decide +kernel
theorem dX5_house_67 : decode cX5_house 67 = .ok (.iconst (-1), 1) := by decide +kernel
theorem dX5_house_68 : decode cX5_house 68 = .ok (.goto 22, 3) := by decide +kernel
theorem dX5_house_71 : decode cX5_house 71 = .ok (.aload_n 0, 1) := by decide +kernel
theorem dX5_house_72 : decode cX5_house 72 = .ok (.getfield 38, 3) := by decide +kernel
theorem dX5_house_75 : decode cX5_house 75 = .ok (.bipush 16, 2) := by decide +kernel
theorem dX5_house_77 : decode cX5_house 77 = .ok (.iaload, 1) := by decide +kernel
theorem dX5_house_78 : decode cX5_house 78 = .ok (.aload_n 0, 1) := by decide +kernel
theorem dX5_house_79 : decode cX5_house 79 = .ok (.getfield 38, 3) := by decide +kernel
theorem dX5_house_82 : decode cX5_house 82 = .ok (.bipush 8, 2) := by decide +kernel
theorem dX5_house_84 : decode cX5_house 84 = .ok (.iload_n 1, 1) := by decide +kernel
theorem dX5_house_85 : decode cX5_house 85 = .ok (.iadd, 1) := by decide +kernel
theorem dX5_house_86 : decode cX5_house 86 = .ok (.iaload, 1) := by decide +kernel
theorem dX5_house_87 : decode cX5_house 87 = .ok (.isub, 1) := by decide +kernel
theorem dX5_house_88 : decode cX5_house 88 = .ok (.iconst 1, 1) := by decide +kernel
theorem dX5_house_89 : decode cX5_house 89 = .ok (.isub, 1) := by decide +kernel
theorem dX5_house_90 : decode cX5_house 90 = .ok (.ireturn, 1) := by decide +kernel
theorem dX5_house_91 : decode cX5_house 91 = .ok (.bipush (-3), 2) := by decide +kernel
theorem dX5_house_93 : decode cX5_house 93 = .ok (.ireturn, 1) := by decide +kernel
set_option maxRecDepth 20000 in
theorem ggX5_as_X5_isHouse : GoodIn wsX5_as wsX5_isHouse := goodIn_r _ [7, 8, 9, 10, 6, 11, 36, 37, 38, 39, 40, 41, 42, 43, 44, 45, 46, 47, 48, 49, 50, 51, 52, 53, 54, 55, 56, 57, 58, 59, 60, 61, 62, 63, 64, 65, 66, 67, 68, 69, 70, 71, 72, 73, 74, 75] (by decide +kernel) (by decide +kernel)
set_option maxRecDepth 20000 in
theorem gX5_as_X5_isHouse : GoodIn wsX5_as (wsV RX5 239 RX5 yX5_isHouse wsX5_isHouse) := goodIn_app (goodIn_of _ (by decide +kernel)) ggX5_as_X5_isHouse
set_option maxRecDepth 20000 in
theorem ggX5_as_X5_in : GoodIn wsX5_as wsX5_in := goodIn_r _ [11] (by decide +kernel) (by decide +kernel)
set_option maxRecDepth 20000 in
theorem gX5_as_X5_in : GoodIn wsX5_as (va_wsS RX5 81 yX5_in wsX5_in) := goodIn_app (goodIn_of _ (by decide +kernel)) ggX5_as_X5_in
set_option maxRecDepth 20000 in
theorem ggX5_as_X5_layWays : GoodIn wsX5_as wsX5_layWays := goodIn_r _ [15, 2, 1, 16, 17, 18, 19, 20, 21, 6, 22, 8, 23, 24, 25, 26, 27, 28, 29, 30, 31, 32, 33, 34, 35, 36, 37, 38, 39, 40, 41, 42, 43, 44, 45, 46, 47, 48, 49, 50, 51, 52, 53, 54, 55, 56, 57, 58, 59, 60, 61, 62, 63, 64, 65, 66, 67, 68, 69, 70, 71, 72, 73, 74, 75] (by decide +kernel) (by decide +kernel)
set_option maxRecDepth 20000 in
theorem gX5_as_X5_layWays : GoodIn wsX5_as (wsV RX5 242 RX5 yX5_layWays wsX5_layWays) := goodIn_app (goodIn_of _ (by decide +kernel)) ggX5_as_X5_layWays
theorem dX5_as_0 : decode cX5_as 0 = .ok (.aload_n 0, 1) := by decide +kernel
theorem dX5_as_1 : decode cX5_as 1 = .ok (.iload_n 1, 1) := by decide +kernel
theorem dX5_as_2 : decode cX5_as 2 = .ok (.invokevirtual 239, 3) := by decide +kernel
theorem dX5_as_5 : decode cX5_as 5 = .ok (.ifCond .ne 6, 3) := by decide +kernel
theorem dX5_as_8 : decode cX5_as 8 = .ok (.bipush (-2), 2) := by decide +kernel
theorem dX5_as_10 : decode cX5_as 10 = .ok (.ireturn, 1) := by decide +kernel
theorem dX5_as_11 : decode cX5_as 11 = .ok (.iload_n 2, 1) := by decide +kernel
theorem dX5_as_12 : decode cX5_as 12 = .ok (.iconst 0, 1) := by decide +kernel
theorem dX5_as_13 : decode cX5_as 13 = .ok (.iconst 4, 1) := by decide +kernel
theorem dX5_as_14 : decode cX5_as 14 = .ok (.invokestatic 81, 3) := by decide +kernel
theorem dX5_as_17 : decode cX5_as 17 = .ok (.ifCond .ne 6, 3) := by decide +kernel
theorem dX5_as_20 : decode cX5_as 20 = .ok (.bipush (-3), 2) := by decide +kernel
theorem dX5_as_22 : decode cX5_as 22 = .ok (.ireturn, 1) := by decide +kernel
theorem dX5_as_23 : decode cX5_as 23 = .ok (.iload_n 2, 1) := by decide +kernel
theorem dX5_as_24 : decode cX5_as 24 = .ok (.ifCond .eq 67, 3) := by decide +kernel
theorem dX5_as_27 : decode cX5_as 27 = .ok (.iload_n 2, 1) := by decide +kernel
theorem dX5_as_28 : decode cX5_as 28 = .ok (.iconst 1, 1) := by decide +kernel
theorem dX5_as_29 : decode cX5_as 29 = .ok (.if_icmp .ne 16, 3) := by decide +kernel
theorem dX5_as_32 : decode cX5_as 32 = .ok (.aload_n 0, 1) := by decide +kernel
theorem dX5_as_33 : decode cX5_as 33 = .ok (.getfield 17, 3) := by decide +kernel
theorem dX5_as_36 : decode cX5_as 36 = .ok (.iload_n 1, 1) := by decide +kernel
theorem dX5_as_37 : decode cX5_as 37 = .ok (.iaload, 1) := by decide +kernel
theorem dX5_as_38 : decode cX5_as 38 = .ok (.iconst 3, 1) := by decide +kernel
theorem dX5_as_39 : decode cX5_as 39 = .ok (.if_icmp .ge 56, 3) := by decide +kernel
theorem dX5_as_42 : decode cX5_as 42 = .ok (.goto 49, 3) := by decide +kernel
theorem dX5_as_45 : decode cX5_as 45 = .ok (.iload_n 2, 1) := by decide +kernel
theorem dX5_as_46 : decode cX5_as 46 = .ok (.iconst 2, 1) := by decide +kernel
theorem dX5_as_47 : decode cX5_as 47 = .ok (.if_icmp .ne 16, 3) := by decide +kernel
theorem dX5_as_50 : decode cX5_as 50 = .ok (.aload_n 0, 1) := by decide +kernel
theorem dX5_as_51 : decode cX5_as 51 = .ok (.getfield 17, 3) := by decide +kernel
theorem dX5_as_54 : decode cX5_as 54 = .ok (.iload_n 1, 1) := by decide +kernel
theorem dX5_as_55 : decode cX5_as 55 = .ok (.iaload, 1) := by decide +kernel
theorem dX5_as_56 : decode cX5_as 56 = .ok (.iconst 1, 1) := by decide +kernel
theorem dX5_as_57 : decode cX5_as 57 = .ok (.if_icmp .ne 38, 3) := by decide +kernel
theorem dX5_as_60 : decode cX5_as 60 = .ok (.goto 31, 3) := by decide +kernel
theorem dX5_as_63 : decode cX5_as 63 = .ok (.iload_n 2, 1) := by decide +kernel
theorem dX5_as_64 : decode cX5_as 64 = .ok (.iconst 3, 1) := by decide +kernel
theorem dX5_as_65 : decode cX5_as 65 = .ok (.if_icmp .ne 16, 3) := by decide +kernel
theorem dX5_as_68 : decode cX5_as 68 = .ok (.aload_n 0, 1) := by decide +kernel
theorem dX5_as_69 : decode cX5_as 69 = .ok (.getfield 17, 3) := by decide +kernel
theorem dX5_as_72 : decode cX5_as 72 = .ok (.iload_n 1, 1) := by decide +kernel
theorem dX5_as_73 : decode cX5_as 73 = .ok (.iaload, 1) := by decide +kernel
theorem dX5_as_74 : decode cX5_as 74 = .ok (.iconst 2, 1) := by decide +kernel
theorem dX5_as_75 : decode cX5_as 75 = .ok (.if_icmp .ne 20, 3) := by decide +kernel
theorem dX5_as_78 : decode cX5_as 78 = .ok (.goto 13, 3) := by decide +kernel
theorem dX5_as_81 : decode cX5_as 81 = .ok (.aload_n 0, 1) := by decide +kernel
theorem dX5_as_82 : decode cX5_as 82 = .ok (.getfield 17, 3) := by decide +kernel
theorem dX5_as_85 : decode cX5_as 85 = .ok (.iload_n 1, 1) := by decide +kernel
theorem dX5_as_86 : decode cX5_as 86 = .ok (.iaload, 1) := by decide +kernel
theorem dX5_as_87 : decode cX5_as 87 = .ok (.iconst 3, 1) := by decide +kernel
theorem dX5_as_88 : decode cX5_as 88 = .ok (.if_icmp .ne 7, 3) := by decide +kernel
theorem dX5_as_91 : decode cX5_as 91 = .ok (.iconst 1, 1) := by decide +kernel
theorem dX5_as_92 : decode cX5_as 92 = .ok (.goto 4, 3) := by decide +kernel
theorem dX5_as_95 : decode cX5_as 95 = .ok (.iconst 0, 1) := by decide +kernel
theorem dX5_as_96 : decode cX5_as 96 = .ok (.istore_n 3, 1) := by decide +kernel
theorem dX5_as_97 : decode cX5_as 97 = .ok (.aload_n 0, 1) := by decide +kernel
theorem dX5_as_98 : decode cX5_as 98 = .ok (.iload_n 1, 1) := by decide +kernel
theorem dX5_as_99 : decode cX5_as 99 = .ok (.invokevirtual 242, 3) := by decide +kernel
theorem dX5_as_102 : decode cX5_as 102 = .ok (.iload_n 3, 1) := by decide +kernel
theorem dX5_as_103 : decode cX5_as 103 = .ok (.ifCond .eq 10, 3) := by decide +kernel
theorem dX5_as_106 : decode cX5_as 106 = .ok (.aload_n 0, 1) := by decide +kernel
theorem dX5_as_107 : decode cX5_as 107 = .ok (.getfield 225, 3) := by decide +kernel
theorem dX5_as_110 : decode cX5_as 110 = .ok (.goto 5, 3) := by decide +kernel
theorem dX5_as_113 : decode cX5_as 113 = .ok (.bipush (-4), 2) := by decide +kernel
theorem dX5_as_115 : decode cX5_as 115 = .ok (.ireturn, 1) := by decide +kernel
set_option maxRecDepth 20000 in
theorem ggX5_can_X5_isHouse : GoodIn wsX5_can wsX5_isHouse := goodIn_r _ [7, 8, 9, 10, 6, 11, 36, 37, 38, 39, 40, 41, 42, 43, 44, 45, 46, 47, 48, 49, 50, 51, 52, 53, 54, 55, 56, 57, 58, 59, 60, 61, 62, 63, 64, 65, 66, 67, 68, 69, 70, 71, 72, 73, 74, 75] (by decide +kernel) (by decide +kernel)
set_option maxRecDepth 20000 in
theorem gX5_can_X5_isHouse : GoodIn wsX5_can (wsV RX5 239 RX5 yX5_isHouse wsX5_isHouse) := goodIn_app (goodIn_of _ (by decide +kernel)) ggX5_can_X5_isHouse
set_option maxRecDepth 20000 in
theorem ggX5_can_X5_layWays : GoodIn wsX5_can wsX5_layWays := goodIn_r _ [15, 1, 16, 17, 18, 19, 20, 21, 22, 6, 23, 8, 24, 25, 26, 27, 28, 29, 30, 31, 32, 33, 34, 35, 2, 36, 37, 38, 39, 40, 41, 42, 43, 44, 45, 46, 47, 48, 49, 50, 51, 52, 53, 54, 55, 56, 57, 58, 59, 60, 61, 62, 63, 64, 65, 66, 67, 68, 69, 70, 71, 72, 73, 74, 75] (by decide +kernel) (by decide +kernel)
set_option maxRecDepth 20000 in
theorem gX5_can_X5_layWays : GoodIn wsX5_can (wsV RX5 242 RX5 yX5_layWays wsX5_layWays) := goodIn_app (goodIn_of _ (by decide +kernel)) ggX5_can_X5_layWays
theorem dX5_can_0 : decode cX5_can 0 = .ok (.aload_n 0, 1) := by decide +kernel
theorem dX5_can_1 : decode cX5_can 1 = .ok (.iload_n 1, 1) := by decide +kernel
theorem dX5_can_2 : decode cX5_can 2 = .ok (.invokevirtual 239, 3) := by decide +kernel
theorem dX5_can_5 : decode cX5_can 5 = .ok (.ifCond .ne 6, 3) := by decide +kernel
theorem dX5_can_8 : decode cX5_can 8 = .ok (.bipush (-2), 2) := by decide +kernel
theorem dX5_can_10 : decode cX5_can 10 = .ok (.ireturn, 1) := by decide +kernel
theorem dX5_can_11 : decode cX5_can 11 = .ok (.iload_n 2, 1) := by decide +kernel
theorem dX5_can_12 : decode cX5_can 12 = .ok (.ifCond .ge 6, 3) := by decide +kernel
theorem dX5_can_15 : decode cX5_can 15 = .ok (.bipush (-3), 2) := by decide +kernel
theorem dX5_can_17 : decode cX5_can 17 = .ok (.ireturn, 1) := by decide +kernel
theorem dX5_can_18 : decode cX5_can 18 = .ok (.aload_n 0, 1) := by decide +kernel
theorem dX5_can_19 : decode cX5_can 19 = .ok (.iload_n 1, 1) := by decide +kernel
theorem dX5_can_20 : decode cX5_can 20 = .ok (.invokevirtual 242, 3) := by decide +kernel
theorem dX5_can_23 : decode cX5_can 23 = .ok (.iload_n 2, 1) := by decide +kernel
theorem dX5_can_24 : decode cX5_can 24 = .ok (.aload_n 0, 1) := by decide +kernel
theorem dX5_can_25 : decode cX5_can 25 = .ok (.getfield 225, 3) := by decide +kernel
theorem dX5_can_28 : decode cX5_can 28 = .ok (.if_icmp .ge 12, 3) := by decide +kernel
theorem dX5_can_31 : decode cX5_can 31 = .ok (.aload_n 0, 1) := by decide +kernel
theorem dX5_can_32 : decode cX5_can 32 = .ok (.getfield 54, 3) := by decide +kernel
theorem dX5_can_35 : decode cX5_can 35 = .ok (.iload_n 2, 1) := by decide +kernel
theorem dX5_can_36 : decode cX5_can 36 = .ok (.iaload, 1) := by decide +kernel
theorem dX5_can_37 : decode cX5_can 37 = .ok (.goto 4, 3) := by decide +kernel
theorem dX5_can_40 : decode cX5_can 40 = .ok (.iconst (-1), 1) := by decide +kernel
theorem dX5_can_41 : decode cX5_can 41 = .ok (.ireturn, 1) := by decide +kernel
theorem dX5_rollTo_0 : decode cX5_rollTo 0 = .ok (.aload_n 0, 1) := by decide +kernel
theorem dX5_rollTo_1 : decode cX5_rollTo 1 = .ok (.getfield 38, 3) := by decide +kernel
theorem dX5_rollTo_4 : decode cX5_rollTo 4 = .ok (.iload_n 1, 1) := by decide +kernel
theorem dX5_rollTo_5 : decode cX5_rollTo 5 = .ok (.iload_n 2, 1) := by decide +kernel
theorem dX5_rollTo_6 : decode cX5_rollTo 6 = .ok (.iastore, 1) := by decide +kernel
theorem dX5_rollTo_7 : decode cX5_rollTo 7 = .ok (.aload_n 0, 1) := by decide +kernel
theorem dX5_rollTo_8 : decode cX5_rollTo 8 = .ok (.getfield 38, 3) := by decide +kernel
theorem dX5_rollTo_11 : decode cX5_rollTo 11 = .ok (.bipush 8, 2) := by decide +kernel
theorem dX5_rollTo_13 : decode cX5_rollTo 13 = .ok (.iload_n 1, 1) := by decide +kernel
theorem dX5_rollTo_14 : decode cX5_rollTo 14 = .ok (.iadd, 1) := by decide +kernel
theorem dX5_rollTo_15 : decode cX5_rollTo 15 = .ok (.aload_n 0, 1) := by decide +kernel
theorem dX5_rollTo_16 : decode cX5_rollTo 16 = .ok (.getfield 38, 3) := by decide +kernel
theorem dX5_rollTo_19 : decode cX5_rollTo 19 = .ok (.bipush 16, 2) := by decide +kernel
theorem dX5_rollTo_21 : decode cX5_rollTo 21 = .ok (.iaload, 1) := by decide +kernel
theorem dX5_rollTo_22 : decode cX5_rollTo 22 = .ok (.iastore, 1) := by decide +kernel
theorem dX5_rollTo_23 : decode cX5_rollTo 23 = .ok (.return_, 1) := by decide +kernel
set_option maxRecDepth 20000 in
theorem ggX5_rolls_X5_layWays : GoodIn wsX5_rolls wsX5_layWays := goodIn_r _ [9, 4, 10, 3, 11, 12, 13, 14, 15, 8, 16, 1, 17, 18, 19, 20, 21, 22, 23, 24, 25, 26, 27, 28, 29, 30, 31, 32, 33, 34, 35, 36, 37, 38, 39, 40, 41, 42, 43, 44, 45, 46, 47, 48, 49, 50, 51, 52, 53, 54, 55, 56, 57, 58, 59, 60, 61, 62, 63, 64, 65, 66, 67, 68, 69] (by decide +kernel) (by decide +kernel)
set_option maxRecDepth 20000 in
theorem gX5_rolls_X5_layWays : GoodIn wsX5_rolls (wsV RX5 242 RX5 yX5_layWays wsX5_layWays) := goodIn_app (goodIn_of _ (by decide +kernel)) ggX5_rolls_X5_layWays
theorem dX5_rolls_0 : decode cX5_rolls 0 = .ok (.iconst (-1), 1) := by decide +kernel
theorem dX5_rolls_1 : decode cX5_rolls 1 = .ok (.istore_n 1, 1) := by decide +kernel
theorem dX5_rolls_2 : decode cX5_rolls 2 = .ok (.iconst 0, 1) := by decide +kernel
theorem dX5_rolls_3 : decode cX5_rolls 3 = .ok (.istore_n 2, 1) := by decide +kernel
theorem dX5_rolls_4 : decode cX5_rolls 4 = .ok (.iload_n 2, 1) := by decide +kernel
theorem dX5_rolls_5 : decode cX5_rolls 5 = .ok (.aload_n 0, 1) := by decide +kernel
theorem dX5_rolls_6 : decode cX5_rolls 6 = .ok (.getfield 78, 3) := by decide +kernel
theorem dX5_rolls_9 : decode cX5_rolls 9 = .ok (.if_icmp .ge 100, 3) := by decide +kernel
theorem dX5_rolls_12 : decode cX5_rolls 12 = .ok (.aload_n 0, 1) := by decide +kernel
theorem dX5_rolls_13 : decode cX5_rolls 13 = .ok (.getfield 245, 3) := by decide +kernel
theorem dX5_rolls_16 : decode cX5_rolls 16 = .ok (.iconst 1, 1) := by decide +kernel
theorem dX5_rolls_17 : decode cX5_rolls 17 = .ok (.if_icmp .ne 20, 3) := by decide +kernel
theorem dX5_rolls_20 : decode cX5_rolls 20 = .ok (.aload_n 0, 1) := by decide +kernel
theorem dX5_rolls_21 : decode cX5_rolls 21 = .ok (.getfield 38, 3) := by decide +kernel
theorem dX5_rolls_24 : decode cX5_rolls 24 = .ok (.bipush 17, 2) := by decide +kernel
theorem dX5_rolls_26 : decode cX5_rolls 26 = .ok (.iaload, 1) := by decide +kernel
theorem dX5_rolls_27 : decode cX5_rolls 27 = .ok (.iload_n 2, 1) := by decide +kernel
theorem dX5_rolls_28 : decode cX5_rolls 28 = .ok (.iadd, 1) := by decide +kernel
theorem dX5_rolls_29 : decode cX5_rolls 29 = .ok (.aload_n 0, 1) := by decide +kernel
theorem dX5_rolls_30 : decode cX5_rolls 30 = .ok (.getfield 78, 3) := by decide +kernel
theorem dX5_rolls_33 : decode cX5_rolls 33 = .ok (.irem, 1) := by decide +kernel
theorem dX5_rolls_34 : decode cX5_rolls 34 = .ok (.goto 4, 3) := by decide +kernel
theorem dX5_rolls_37 : decode cX5_rolls 37 = .ok (.iload_n 2, 1) := by decide +kernel
theorem dX5_rolls_38 : decode cX5_rolls 38 = .ok (.istore_n 3, 1) := by decide +kernel
theorem dX5_rolls_39 : decode cX5_rolls 39 = .ok (.aload_n 0, 1) := by decide +kernel
theorem dX5_rolls_40 : decode cX5_rolls 40 = .ok (.iload_n 3, 1) := by decide +kernel
theorem dX5_rolls_41 : decode cX5_rolls 41 = .ok (.invokevirtual 242, 3) := by decide +kernel
theorem dX5_rolls_44 : decode cX5_rolls 44 = .ok (.aload_n 0, 1) := by decide +kernel
theorem dX5_rolls_45 : decode cX5_rolls 45 = .ok (.getfield 225, 3) := by decide +kernel
theorem dX5_rolls_48 : decode cX5_rolls 48 = .ok (.ifCond .le 41, 3) := by decide +kernel
theorem dX5_rolls_51 : decode cX5_rolls 51 = .ok (.iload_n 1, 1) := by decide +kernel
theorem dX5_rolls_52 : decode cX5_rolls 52 = .ok (.iconst (-1), 1) := by decide +kernel
theorem dX5_rolls_53 : decode cX5_rolls 53 = .ok (.if_icmp .eq 32, 3) := by decide +kernel
theorem dX5_rolls_56 : decode cX5_rolls 56 = .ok (.aload_n 0, 1) := by decide +kernel
theorem dX5_rolls_57 : decode cX5_rolls 57 = .ok (.getfield 245, 3) := by decide +kernel
theorem dX5_rolls_60 : decode cX5_rolls 60 = .ok (.iconst 2, 1) := by decide +kernel
theorem dX5_rolls_61 : decode cX5_rolls 61 = .ok (.if_icmp .ne 28, 3) := by decide +kernel
theorem dX5_rolls_64 : decode cX5_rolls 64 = .ok (.aload_n 0, 1) := by decide +kernel
theorem dX5_rolls_65 : decode cX5_rolls 65 = .ok (.getfield 38, 3) := by decide +kernel
theorem dX5_rolls_68 : decode cX5_rolls 68 = .ok (.bipush 8, 2) := by decide +kernel
theorem dX5_rolls_70 : decode cX5_rolls 70 = .ok (.iload_n 3, 1) := by decide +kernel
theorem dX5_rolls_71 : decode cX5_rolls 71 = .ok (.iadd, 1) := by decide +kernel
theorem dX5_rolls_72 : decode cX5_rolls 72 = .ok (.iaload, 1) := by decide +kernel
theorem dX5_rolls_73 : decode cX5_rolls 73 = .ok (.aload_n 0, 1) := by decide +kernel
theorem dX5_rolls_74 : decode cX5_rolls 74 = .ok (.getfield 38, 3) := by decide +kernel
theorem dX5_rolls_77 : decode cX5_rolls 77 = .ok (.bipush 8, 2) := by decide +kernel
theorem dX5_rolls_79 : decode cX5_rolls 79 = .ok (.iload_n 1, 1) := by decide +kernel
theorem dX5_rolls_80 : decode cX5_rolls 80 = .ok (.iadd, 1) := by decide +kernel
theorem dX5_rolls_81 : decode cX5_rolls 81 = .ok (.iaload, 1) := by decide +kernel
theorem dX5_rolls_82 : decode cX5_rolls 82 = .ok (.if_icmp .ge 7, 3) := by decide +kernel
theorem dX5_rolls_85 : decode cX5_rolls 85 = .ok (.iconst 1, 1) := by decide +kernel
theorem dX5_rolls_86 : decode cX5_rolls 86 = .ok (.goto 4, 3) := by decide +kernel
theorem dX5_rolls_89 : decode cX5_rolls 89 = .ok (.iconst 0, 1) := by decide +kernel
theorem dX5_rolls_90 : decode cX5_rolls 90 = .ok (.istore 4, 2) := by decide +kernel
theorem dX5_rolls_92 : decode cX5_rolls 92 = .ok (.iload 4, 2) := by decide +kernel
theorem dX5_rolls_94 : decode cX5_rolls 94 = .ok (.ifCond .eq 7, 3) := by decide +kernel
theorem dX5_rolls_97 : decode cX5_rolls 97 = .ok (.iload_n 3, 1) := by decide +kernel
theorem dX5_rolls_98 : decode cX5_rolls 98 = .ok (.goto 4, 3) := by decide +kernel
theorem dX5_rolls_101 : decode cX5_rolls 101 = .ok (.iload_n 1, 1) := by decide +kernel
theorem dX5_rolls_102 : decode cX5_rolls 102 = .ok (.istore_n 1, 1) := by decide +kernel
theorem dX5_rolls_103 : decode cX5_rolls 103 = .ok (.iinc 2 1, 3) := by decide +kernel
theorem dX5_rolls_106 : decode cX5_rolls 106 = .ok (.goto (-102), 3) := by decide +kernel
theorem dX5_rolls_109 : decode cX5_rolls 109 = .ok (.iload_n 1, 1) := by decide +kernel
theorem dX5_rolls_110 : decode cX5_rolls 110 = .ok (.ireturn, 1) := by decide +kernel
set_option maxRecDepth 20000 in
theorem ggX5_goLot_X5_layWays : GoodIn wsX5_goLot wsX5_layWays := goodIn_r _ [10, 2, 11, 3, 12, 13, 14, 15, 16, 9, 17, 1, 18, 19, 20, 21, 22, 23, 24, 25, 26, 27, 28, 29, 5, 34, 35, 36, 37, 38, 39, 40, 41, 42, 43, 44, 45, 46, 47, 48, 49, 50, 51, 52, 53, 54, 55, 56, 57, 58, 59, 60, 61, 62, 63, 64, 65, 66, 67, 68, 69, 70, 71, 72, 73] (by decide +kernel) (by decide +kernel)
set_option maxRecDepth 20000 in
theorem gX5_goLot_X5_layWays : GoodIn wsX5_goLot (wsV RX5 242 RX5 yX5_layWays wsX5_layWays) := goodIn_app (goodIn_of _ (by decide +kernel)) ggX5_goLot_X5_layWays
set_option maxRecDepth 20000 in
theorem ggX5_goLot_X5_rollTo : GoodIn wsX5_goLot wsX5_rollTo := goodIn_r _ [33, 3, 34, 35, 36, 37, 38, 39, 40, 41, 42, 43, 44, 45, 46, 47, 48, 49, 50, 51, 52, 53, 54, 55, 56, 57, 58, 59, 60, 61, 62, 63, 64, 65, 66, 67, 68, 69, 70, 71, 72, 73] (by decide +kernel) (by decide +kernel)
set_option maxRecDepth 20000 in
theorem gX5_goLot_X5_rollTo : GoodIn wsX5_goLot (wsV RX5 249 RX5 yX5_rollTo wsX5_rollTo) := goodIn_app (goodIn_of _ (by decide +kernel)) ggX5_goLot_X5_rollTo
theorem dX5_goLot_0 : decode cX5_goLot 0 = .ok (.iconst 0, 1) := by decide +kernel
theorem dX5_goLot_1 : decode cX5_goLot 1 = .ok (.istore_n 1, 1) := by decide +kernel
theorem dX5_goLot_2 : decode cX5_goLot 2 = .ok (.iconst 0, 1) := by decide +kernel
theorem dX5_goLot_3 : decode cX5_goLot 3 = .ok (.istore_n 2, 1) := by decide +kernel
theorem dX5_goLot_4 : decode cX5_goLot 4 = .ok (.iload_n 2, 1) := by decide +kernel
theorem dX5_goLot_5 : decode cX5_goLot 5 = .ok (.aload_n 0, 1) := by decide +kernel
theorem dX5_goLot_6 : decode cX5_goLot 6 = .ok (.getfield 78, 3) := by decide +kernel
theorem dX5_goLot_9 : decode cX5_goLot 9 = .ok (.if_icmp .ge 21, 3) := by decide +kernel
theorem dX5_goLot_12 : decode cX5_goLot 12 = .ok (.aload_n 0, 1) := by decide +kernel
theorem dX5_goLot_13 : decode cX5_goLot 13 = .ok (.iload_n 2, 1) := by decide +kernel
theorem dX5_goLot_14 : decode cX5_goLot 14 = .ok (.invokevirtual 242, 3) := by decide +kernel
theorem dX5_goLot_17 : decode cX5_goLot 17 = .ok (.iload_n 1, 1) := by decide +kernel
theorem dX5_goLot_18 : decode cX5_goLot 18 = .ok (.aload_n 0, 1) := by decide +kernel
theorem dX5_goLot_19 : decode cX5_goLot 19 = .ok (.getfield 225, 3) := by decide +kernel
theorem dX5_goLot_22 : decode cX5_goLot 22 = .ok (.iadd, 1) := by decide +kernel
theorem dX5_goLot_23 : decode cX5_goLot 23 = .ok (.istore_n 1, 1) := by decide +kernel
theorem dX5_goLot_24 : decode cX5_goLot 24 = .ok (.iinc 2 1, 3) := by decide +kernel
theorem dX5_goLot_27 : decode cX5_goLot 27 = .ok (.goto (-23), 3) := by decide +kernel
theorem dX5_goLot_30 : decode cX5_goLot 30 = .ok (.iload_n 1, 1) := by decide +kernel
theorem dX5_goLot_31 : decode cX5_goLot 31 = .ok (.ifCond .ne 4, 3) := by decide +kernel
theorem dX5_goLot_34 : decode cX5_goLot 34 = .ok (.return_, 1) := by decide +kernel
theorem dX5_goLot_35 : decode cX5_goLot 35 = .ok (.aload_n 0, 1) := by decide +kernel
theorem dX5_goLot_36 : decode cX5_goLot 36 = .ok (.getfield 38, 3) := by decide +kernel
theorem dX5_goLot_39 : decode cX5_goLot 39 = .ok (.bipush 18, 2) := by decide +kernel
theorem dX5_goLot_41 : decode cX5_goLot 41 = .ok (.sipush 16807, 3) := by decide +kernel
theorem dX5_goLot_44 : decode cX5_goLot 44 = .ok (.aload_n 0, 1) := by decide +kernel
theorem dX5_goLot_45 : decode cX5_goLot 45 = .ok (.getfield 38, 3) := by decide +kernel
theorem dX5_goLot_48 : decode cX5_goLot 48 = .ok (.bipush 18, 2) := by decide +kernel
theorem dX5_goLot_50 : decode cX5_goLot 50 = .ok (.iaload, 1) := by decide +kernel
theorem dX5_goLot_51 : decode cX5_goLot 51 = .ok (.imul, 1) := by decide +kernel
theorem dX5_goLot_52 : decode cX5_goLot 52 = .ok (.ldc 248, 2) := by decide +kernel
theorem dX5_goLot_54 : decode cX5_goLot 54 = .ok (.irem, 1) := by decide +kernel
theorem dX5_goLot_55 : decode cX5_goLot 55 = .ok (.iastore, 1) := by decide +kernel
theorem dX5_goLot_56 : decode cX5_goLot 56 = .ok (.aload_n 0, 1) := by decide +kernel
theorem dX5_goLot_57 : decode cX5_goLot 57 = .ok (.getfield 38, 3) := by decide +kernel
theorem dX5_goLot_60 : decode cX5_goLot 60 = .ok (.bipush 18, 2) := by decide +kernel
theorem dX5_goLot_62 : decode cX5_goLot 62 = .ok (.iaload, 1) := by decide +kernel
theorem dX5_goLot_63 : decode cX5_goLot 63 = .ok (.iload_n 1, 1) := by decide +kernel
theorem dX5_goLot_64 : decode cX5_goLot 64 = .ok (.irem, 1) := by decide +kernel
theorem dX5_goLot_65 : decode cX5_goLot 65 = .ok (.istore_n 2, 1) := by decide +kernel
theorem dX5_goLot_66 : decode cX5_goLot 66 = .ok (.iconst 0, 1) := by decide +kernel
theorem dX5_goLot_67 : decode cX5_goLot 67 = .ok (.istore_n 3, 1) := by decide +kernel
theorem dX5_goLot_68 : decode cX5_goLot 68 = .ok (.iload_n 3, 1) := by decide +kernel
theorem dX5_goLot_69 : decode cX5_goLot 69 = .ok (.aload_n 0, 1) := by decide +kernel
theorem dX5_goLot_70 : decode cX5_goLot 70 = .ok (.getfield 78, 3) := by decide +kernel
theorem dX5_goLot_73 : decode cX5_goLot 73 = .ok (.if_icmp .ge 45, 3) := by decide +kernel
theorem dX5_goLot_76 : decode cX5_goLot 76 = .ok (.aload_n 0, 1) := by decide +kernel
theorem dX5_goLot_77 : decode cX5_goLot 77 = .ok (.iload_n 3, 1) := by decide +kernel
theorem dX5_goLot_78 : decode cX5_goLot 78 = .ok (.invokevirtual 242, 3) := by decide +kernel
theorem dX5_goLot_81 : decode cX5_goLot 81 = .ok (.iload_n 2, 1) := by decide +kernel
theorem dX5_goLot_82 : decode cX5_goLot 82 = .ok (.ifCond .lt 23, 3) := by decide +kernel
theorem dX5_goLot_85 : decode cX5_goLot 85 = .ok (.iload_n 2, 1) := by decide +kernel
theorem dX5_goLot_86 : decode cX5_goLot 86 = .ok (.aload_n 0, 1) := by decide +kernel
theorem dX5_goLot_87 : decode cX5_goLot 87 = .ok (.getfield 225, 3) := by decide +kernel
theorem dX5_goLot_90 : decode cX5_goLot 90 = .ok (.if_icmp .ge 15, 3) := by decide +kernel
theorem dX5_goLot_93 : decode cX5_goLot 93 = .ok (.aload_n 0, 1) := by decide +kernel
theorem dX5_goLot_94 : decode cX5_goLot 94 = .ok (.iload_n 3, 1) := by decide +kernel
theorem dX5_goLot_95 : decode cX5_goLot 95 = .ok (.aload_n 0, 1) := by decide +kernel
theorem dX5_goLot_96 : decode cX5_goLot 96 = .ok (.getfield 54, 3) := by decide +kernel
theorem dX5_goLot_99 : decode cX5_goLot 99 = .ok (.iload_n 2, 1) := by decide +kernel
theorem dX5_goLot_100 : decode cX5_goLot 100 = .ok (.iaload, 1) := by decide +kernel
theorem dX5_goLot_101 : decode cX5_goLot 101 = .ok (.invokevirtual 249, 3) := by decide +kernel
theorem dX5_goLot_104 : decode cX5_goLot 104 = .ok (.return_, 1) := by decide +kernel
theorem dX5_goLot_105 : decode cX5_goLot 105 = .ok (.iload_n 2, 1) := by decide +kernel
theorem dX5_goLot_106 : decode cX5_goLot 106 = .ok (.aload_n 0, 1) := by decide +kernel
theorem dX5_goLot_107 : decode cX5_goLot 107 = .ok (.getfield 225, 3) := by decide +kernel
theorem dX5_goLot_110 : decode cX5_goLot 110 = .ok (.isub, 1) := by decide +kernel
theorem dX5_goLot_111 : decode cX5_goLot 111 = .ok (.istore_n 2, 1) := by decide +kernel
theorem dX5_goLot_112 : decode cX5_goLot 112 = .ok (.iinc 3 1, 3) := by decide +kernel
theorem dX5_goLot_115 : decode cX5_goLot 115 = .ok (.goto (-47), 3) := by decide +kernel
theorem dX5_goLot_118 : decode cX5_goLot 118 = .ok (.return_, 1) := by decide +kernel
set_option maxRecDepth 20000 in
theorem ggX5_goNight_X5_goLot : GoodIn wsX5_goNight wsX5_goLot := goodIn_r _ [9, 4, 10, 3, 11, 2, 12, 13, 14, 8, 15, 16, 17, 18, 19, 20, 21, 22, 23, 24, 25, 26, 27, 28, 29, 30, 31, 32, 33, 34, 35, 36, 37, 38, 43, 44, 45, 46, 47, 48, 49, 50, 51, 52, 53, 54, 55, 56, 57, 58, 59, 60, 61, 62, 63, 64, 65, 66, 67, 68, 69, 70, 71, 72, 73, 74, 75, 76, 77, 78, 79, 80, 81, 82] (by decide +kernel) (by decide +kernel)
set_option maxRecDepth 20000 in
theorem gX5_goNight_X5_goLot : GoodIn wsX5_goNight (wsV RX5 253 RX5 yX5_goLot wsX5_goLot) := goodIn_app (goodIn_of _ (by decide +kernel)) ggX5_goNight_X5_goLot
set_option maxRecDepth 20000 in
theorem ggX5_goNight_X5_rolls : GoodIn wsX5_goNight wsX5_rolls := goodIn_r _ [42, 4, 1, 3, 10, 12, 13, 14, 8, 15, 16, 17, 18, 19, 20, 21, 22, 23, 24, 25, 26, 27, 28, 29, 30, 31, 32, 33, 34, 2, 43, 44, 45, 46, 47, 48, 49, 50, 51, 52, 53, 54, 55, 56, 57, 58, 59, 60, 61, 62, 63, 64, 65, 66, 67, 68, 69, 70, 71, 72, 73, 74, 75, 76, 77, 78, 79, 80, 81, 82] (by decide +kernel) (by decide +kernel)
set_option maxRecDepth 20000 in
theorem gX5_goNight_X5_rolls : GoodIn wsX5_goNight (wsV RX5 256 RX5 yX5_rolls wsX5_rolls) := goodIn_app (goodIn_of _ (by decide +kernel)) ggX5_goNight_X5_rolls
set_option maxRecDepth 20000 in
theorem ggX5_goNight_X5_layWays : GoodIn wsX5_goNight wsX5_layWays := goodIn_r _ [15, 10, 16, 3, 17, 18, 19, 20, 21, 8, 22, 4, 23, 24, 25, 26, 27, 28, 29, 30, 31, 32, 33, 34, 2, 43, 44, 45, 46, 47, 48, 49, 50, 51, 52, 53, 54, 55, 56, 57, 58, 59, 60, 61, 62, 63, 64, 65, 66, 67, 68, 69, 70, 71, 72, 73, 74, 75, 76, 77, 78, 79, 80, 81, 82] (by decide +kernel) (by decide +kernel)
set_option maxRecDepth 20000 in
theorem gX5_goNight_X5_layWays : GoodIn wsX5_goNight (wsV RX5 242 RX5 yX5_layWays wsX5_layWays) := goodIn_app (goodIn_of _ (by decide +kernel)) ggX5_goNight_X5_layWays
set_option maxRecDepth 20000 in
theorem ggX5_goNight_X5_rollTo : GoodIn wsX5_goNight wsX5_rollTo := goodIn_r _ [38, 3, 43, 44, 45, 46, 47, 48, 49, 50, 51, 52, 53, 54, 55, 56, 57, 58, 59, 60, 61, 62, 63, 64, 65, 66, 67, 68, 69, 70, 71, 72, 73, 74, 75, 76, 77, 78, 79, 80, 81, 82] (by decide +kernel) (by decide +kernel)
set_option maxRecDepth 20000 in
theorem gX5_goNight_X5_rollTo : GoodIn wsX5_goNight (wsV RX5 249 RX5 yX5_rollTo wsX5_rollTo) := goodIn_app (goodIn_of _ (by decide +kernel)) ggX5_goNight_X5_rollTo
theorem dX5_goNight_0 : decode cX5_goNight 0 = .ok (.aload_n 0, 1) := by decide +kernel
theorem dX5_goNight_1 : decode cX5_goNight 1 = .ok (.getfield 245, 3) := by decide +kernel
theorem dX5_goNight_4 : decode cX5_goNight 4 = .ok (.iconst 3, 1) := by decide +kernel
theorem dX5_goNight_5 : decode cX5_goNight 5 = .ok (.if_icmp .ne 10, 3) := by decide +kernel
theorem dX5_goNight_8 : decode cX5_goNight 8 = .ok (.aload_n 0, 1) := by decide +kernel
theorem dX5_goNight_9 : decode cX5_goNight 9 = .ok (.invokevirtual 253, 3) := by decide +kernel
theorem dX5_goNight_12 : decode cX5_goNight 12 = .ok (.goto 62, 3) := by decide +kernel
theorem dX5_goNight_15 : decode cX5_goNight 15 = .ok (.aload_n 0, 1) := by decide +kernel
theorem dX5_goNight_16 : decode cX5_goNight 16 = .ok (.invokevirtual 256, 3) := by decide +kernel
theorem dX5_goNight_19 : decode cX5_goNight 19 = .ok (.istore_n 1, 1) := by decide +kernel
theorem dX5_goNight_20 : decode cX5_goNight 20 = .ok (.iload_n 1, 1) := by decide +kernel
theorem dX5_goNight_21 : decode cX5_goNight 21 = .ok (.iconst (-1), 1) := by decide +kernel
theorem dX5_goNight_22 : decode cX5_goNight 22 = .ok (.if_icmp .eq 52, 3) := by decide +kernel
theorem dX5_goNight_25 : decode cX5_goNight 25 = .ok (.aload_n 0, 1) := by decide +kernel
theorem dX5_goNight_26 : decode cX5_goNight 26 = .ok (.iload_n 1, 1) := by decide +kernel
theorem dX5_goNight_27 : decode cX5_goNight 27 = .ok (.invokevirtual 242, 3) := by decide +kernel
theorem dX5_goNight_30 : decode cX5_goNight 30 = .ok (.aload_n 0, 1) := by decide +kernel
theorem dX5_goNight_31 : decode cX5_goNight 31 = .ok (.iload_n 1, 1) := by decide +kernel
theorem dX5_goNight_32 : decode cX5_goNight 32 = .ok (.aload_n 0, 1) := by decide +kernel
theorem dX5_goNight_33 : decode cX5_goNight 33 = .ok (.getfield 54, 3) := by decide +kernel
theorem dX5_goNight_36 : decode cX5_goNight 36 = .ok (.iconst 0, 1) := by decide +kernel
theorem dX5_goNight_37 : decode cX5_goNight 37 = .ok (.iaload, 1) := by decide +kernel
theorem dX5_goNight_38 : decode cX5_goNight 38 = .ok (.invokevirtual 249, 3) := by decide +kernel
theorem dX5_goNight_41 : decode cX5_goNight 41 = .ok (.aload_n 0, 1) := by decide +kernel
theorem dX5_goNight_42 : decode cX5_goNight 42 = .ok (.getfield 38, 3) := by decide +kernel
theorem dX5_goNight_45 : decode cX5_goNight 45 = .ok (.bipush 17, 2) := by decide +kernel
theorem dX5_goNight_47 : decode cX5_goNight 47 = .ok (.aload_n 0, 1) := by decide +kernel
theorem dX5_goNight_48 : decode cX5_goNight 48 = .ok (.getfield 245, 3) := by decide +kernel
theorem dX5_goNight_51 : decode cX5_goNight 51 = .ok (.iconst 1, 1) := by decide +kernel
theorem dX5_goNight_52 : decode cX5_goNight 52 = .ok (.if_icmp .ne 14, 3) := by decide +kernel
theorem dX5_goNight_55 : decode cX5_goNight 55 = .ok (.iload_n 1, 1) := by decide +kernel
theorem dX5_goNight_56 : decode cX5_goNight 56 = .ok (.iconst 1, 1) := by decide +kernel
theorem dX5_goNight_57 : decode cX5_goNight 57 = .ok (.iadd, 1) := by decide +kernel
theorem dX5_goNight_58 : decode cX5_goNight 58 = .ok (.aload_n 0, 1) := by decide +kernel
theorem dX5_goNight_59 : decode cX5_goNight 59 = .ok (.getfield 78, 3) := by decide +kernel
theorem dX5_goNight_62 : decode cX5_goNight 62 = .ok (.irem, 1) := by decide +kernel
theorem dX5_goNight_63 : decode cX5_goNight 63 = .ok (.goto 10, 3) := by decide +kernel
theorem dX5_goNight_66 : decode cX5_goNight 66 = .ok (.aload_n 0, 1) := by decide +kernel
theorem dX5_goNight_67 : decode cX5_goNight 67 = .ok (.getfield 38, 3) := by decide +kernel
theorem dX5_goNight_70 : decode cX5_goNight 70 = .ok (.bipush 17, 2) := by decide +kernel
theorem dX5_goNight_72 : decode cX5_goNight 72 = .ok (.iaload, 1) := by decide +kernel
theorem dX5_goNight_73 : decode cX5_goNight 73 = .ok (.iastore, 1) := by decide +kernel
theorem dX5_goNight_74 : decode cX5_goNight 74 = .ok (.aload_n 0, 1) := by decide +kernel
theorem dX5_goNight_75 : decode cX5_goNight 75 = .ok (.getfield 38, 3) := by decide +kernel
theorem dX5_goNight_78 : decode cX5_goNight 78 = .ok (.bipush 16, 2) := by decide +kernel
theorem dX5_goNight_80 : decode cX5_goNight 80 = .ok (.dup2, 1) := by decide +kernel
theorem dX5_goNight_81 : decode cX5_goNight 81 = .ok (.iaload, 1) := by decide +kernel
theorem dX5_goNight_82 : decode cX5_goNight 82 = .ok (.iconst 1, 1) := by decide +kernel
theorem dX5_goNight_83 : decode cX5_goNight 83 = .ok (.iadd, 1) := by decide +kernel
theorem dX5_goNight_84 : decode cX5_goNight 84 = .ok (.iastore, 1) := by decide +kernel
theorem dX5_goNight_85 : decode cX5_goNight 85 = .ok (.return_, 1) := by decide +kernel
set_option maxRecDepth 20000 in
theorem ggX5_go_X5_in : GoodIn wsX5_go wsX5_in := goodIn_r _ [7] (by decide +kernel) (by decide +kernel)
set_option maxRecDepth 20000 in
theorem gX5_go_X5_in : GoodIn wsX5_go (va_wsS RX5 81 yX5_in wsX5_in) := goodIn_app (goodIn_of _ (by decide +kernel)) ggX5_go_X5_in
set_option maxRecDepth 20000 in
theorem ggX5_go_X5_goNight : GoodIn wsX5_go wsX5_goNight := goodIn_r _ [11, 3, 12, 1, 13, 14, 15, 16, 6, 17, 18, 19, 20, 21, 22, 23, 24, 25, 26, 27, 28, 29, 30, 31, 32, 33, 34, 35, 36, 37, 38, 39, 40, 41, 42, 43, 44, 45, 46, 47, 48, 49, 50, 51, 52, 53, 54, 55, 56, 57, 58, 59, 60, 61, 62, 63, 64, 65, 66, 67, 68, 69, 70, 71, 72, 73, 74, 75, 76, 77, 78, 79, 80, 81, 82, 83, 84, 85, 86, 87, 88, 89, 90] (by decide +kernel) (by decide +kernel)
set_option maxRecDepth 20000 in
theorem gX5_go_X5_goNight : GoodIn wsX5_go (wsV RX5 259 RX5 yX5_goNight wsX5_goNight) := goodIn_app (goodIn_of _ (by decide +kernel)) ggX5_go_X5_goNight
theorem dX5_go_0 : decode cX5_go 0 = .ok (.iload_n 1, 1) := by decide +kernel
theorem dX5_go_1 : decode cX5_go 1 = .ok (.iconst 1, 1) := by decide +kernel
theorem dX5_go_2 : decode cX5_go 2 = .ok (.bipush 99, 2) := by decide +kernel
theorem dX5_go_4 : decode cX5_go 4 = .ok (.invokestatic 81, 3) := by decide +kernel
theorem dX5_go_7 : decode cX5_go 7 = .ok (.ifCond .ne 6, 3) := by decide +kernel
theorem dX5_go_10 : decode cX5_go 10 = .ok (.bipush (-3), 2) := by decide +kernel
theorem dX5_go_12 : decode cX5_go 12 = .ok (.ireturn, 1) := by decide +kernel
theorem dX5_go_13 : decode cX5_go 13 = .ok (.aload_n 0, 1) := by decide +kernel
theorem dX5_go_14 : decode cX5_go 14 = .ok (.getfield 38, 3) := by decide +kernel
theorem dX5_go_17 : decode cX5_go 17 = .ok (.bipush 16, 2) := by decide +kernel
theorem dX5_go_19 : decode cX5_go 19 = .ok (.iaload, 1) := by decide +kernel
theorem dX5_go_20 : decode cX5_go 20 = .ok (.iload_n 1, 1) := by decide +kernel
theorem dX5_go_21 : decode cX5_go 21 = .ok (.iadd, 1) := by decide +kernel
theorem dX5_go_22 : decode cX5_go 22 = .ok (.sipush 9999, 3) := by decide +kernel
theorem dX5_go_25 : decode cX5_go 25 = .ok (.if_icmp .le 6, 3) := by decide +kernel
theorem dX5_go_28 : decode cX5_go 28 = .ok (.bipush (-5), 2) := by decide +kernel
theorem dX5_go_30 : decode cX5_go 30 = .ok (.ireturn, 1) := by decide +kernel
theorem dX5_go_31 : decode cX5_go 31 = .ok (.aload_n 0, 1) := by decide +kernel
theorem dX5_go_32 : decode cX5_go 32 = .ok (.aload_n 0, 1) := by decide +kernel
theorem dX5_go_33 : decode cX5_go 33 = .ok (.getfield 91, 3) := by decide +kernel
theorem dX5_go_36 : decode cX5_go 36 = .ok (.putfield 245, 3) := by decide +kernel
theorem dX5_go_39 : decode cX5_go 39 = .ok (.iconst 0, 1) := by decide +kernel
theorem dX5_go_40 : decode cX5_go 40 = .ok (.istore_n 2, 1) := by decide +kernel
theorem dX5_go_41 : decode cX5_go 41 = .ok (.iload_n 2, 1) := by decide +kernel
theorem dX5_go_42 : decode cX5_go 42 = .ok (.iload_n 1, 1) := by decide +kernel
theorem dX5_go_43 : decode cX5_go 43 = .ok (.if_icmp .ge 13, 3) := by decide +kernel
theorem dX5_go_46 : decode cX5_go 46 = .ok (.aload_n 0, 1) := by decide +kernel
theorem dX5_go_47 : decode cX5_go 47 = .ok (.invokevirtual 259, 3) := by decide +kernel
theorem dX5_go_50 : decode cX5_go 50 = .ok (.iinc 2 1, 3) := by decide +kernel
theorem dX5_go_53 : decode cX5_go 53 = .ok (.goto (-12), 3) := by decide +kernel
theorem dX5_go_56 : decode cX5_go 56 = .ok (.aload_n 0, 1) := by decide +kernel
theorem dX5_go_57 : decode cX5_go 57 = .ok (.getfield 38, 3) := by decide +kernel
theorem dX5_go_60 : decode cX5_go 60 = .ok (.bipush 16, 2) := by decide +kernel
theorem dX5_go_62 : decode cX5_go 62 = .ok (.iaload, 1) := by decide +kernel
theorem dX5_go_63 : decode cX5_go 63 = .ok (.ireturn, 1) := by decide +kernel
set_option maxRecDepth 20000 in
theorem ggX5_roll_X5_isHouse : GoodIn wsX5_roll wsX5_isHouse := goodIn_r _ [10, 5, 11, 12, 9, 13, 45, 46, 47, 48, 49, 50, 51, 52, 53, 54, 55, 56, 57, 58, 59, 60, 61, 62, 63, 64, 65, 66, 67, 68, 69, 70, 71, 72, 73, 74, 75, 76, 77, 78, 79, 80, 81, 82, 83, 84] (by decide +kernel) (by decide +kernel)
set_option maxRecDepth 20000 in
theorem gX5_roll_X5_isHouse : GoodIn wsX5_roll (wsV RX5 239 RX5 yX5_isHouse wsX5_isHouse) := goodIn_app (goodIn_of _ (by decide +kernel)) ggX5_roll_X5_isHouse
set_option maxRecDepth 20000 in
theorem ggX5_roll_X5_isPlot : GoodIn wsX5_roll wsX5_isPlot := goodIn_r _ [17, 18, 11, 12, 9, 13, 45, 46, 47, 48, 49, 50, 51, 52, 53, 54, 55, 56, 57, 58, 59, 60, 61, 62, 63, 64, 65, 66, 67, 68, 69, 70, 71, 72, 73, 74, 75, 76, 77, 78, 79, 80, 81, 82, 83, 84] (by decide +kernel) (by decide +kernel)
set_option maxRecDepth 20000 in
theorem gX5_roll_X5_isPlot : GoodIn wsX5_roll (wsV RX5 219 RX5 yX5_isPlot wsX5_isPlot) := goodIn_app (goodIn_of _ (by decide +kernel)) ggX5_roll_X5_isPlot
set_option maxRecDepth 20000 in
theorem ggX5_roll_X5_layWays : GoodIn wsX5_roll wsX5_layWays := goodIn_r _ [22, 1, 23, 3, 24, 25, 26, 27, 28, 9, 29, 5, 30, 31, 32, 33, 18, 34, 35, 36, 37, 38, 39, 40, 2, 45, 46, 47, 48, 49, 50, 51, 52, 53, 54, 55, 56, 57, 58, 59, 60, 61, 62, 63, 64, 65, 66, 67, 68, 69, 70, 71, 72, 73, 74, 75, 76, 77, 78, 79, 80, 81, 82, 83, 84] (by decide +kernel) (by decide +kernel)
set_option maxRecDepth 20000 in
theorem gX5_roll_X5_layWays : GoodIn wsX5_roll (wsV RX5 242 RX5 yX5_layWays wsX5_layWays) := goodIn_app (goodIn_of _ (by decide +kernel)) ggX5_roll_X5_layWays
set_option maxRecDepth 20000 in
theorem ggX5_roll_X5_rollTo : GoodIn wsX5_roll wsX5_rollTo := goodIn_r _ [44, 3, 45, 46, 47, 48, 49, 50, 51, 52, 53, 54, 55, 56, 57, 58, 59, 60, 61, 62, 63, 64, 65, 66, 67, 68, 69, 70, 71, 72, 73, 74, 75, 76, 77, 78, 79, 80, 81, 82, 83, 84] (by decide +kernel) (by decide +kernel)
set_option maxRecDepth 20000 in
theorem gX5_roll_X5_rollTo : GoodIn wsX5_roll (wsV RX5 249 RX5 yX5_rollTo wsX5_rollTo) := goodIn_app (goodIn_of _ (by decide +kernel)) ggX5_roll_X5_rollTo
theorem dX5_roll_0 : decode cX5_roll 0 = .ok (.aload_n 0, 1) := by decide +kernel
theorem dX5_roll_1 : decode cX5_roll 1 = .ok (.iload_n 1, 1) := by decide +kernel
theorem dX5_roll_2 : decode cX5_roll 2 = .ok (.invokevirtual 239, 3) := by decide +kernel
theorem dX5_roll_5 : decode cX5_roll 5 = .ok (.ifCond .eq 11, 3) := by decide +kernel
theorem dX5_roll_8 : decode cX5_roll 8 = .ok (.aload_n 0, 1) := by decide +kernel
theorem dX5_roll_9 : decode cX5_roll 9 = .ok (.iload_n 2, 1) := by decide +kernel
theorem dX5_roll_10 : decode cX5_roll 10 = .ok (.invokevirtual 219, 3) := by decide +kernel
theorem dX5_roll_13 : decode cX5_roll 13 = .ok (.ifCond .ne 6, 3) := by decide +kernel
theorem dX5_roll_16 : decode cX5_roll 16 = .ok (.bipush (-2), 2) := by decide +kernel
theorem dX5_roll_18 : decode cX5_roll 18 = .ok (.ireturn, 1) := by decide +kernel
theorem dX5_roll_19 : decode cX5_roll 19 = .ok (.aload_n 0, 1) := by decide +kernel
theorem dX5_roll_20 : decode cX5_roll 20 = .ok (.iload_n 1, 1) := by decide +kernel
theorem dX5_roll_21 : decode cX5_roll 21 = .ok (.invokevirtual 242, 3) := by decide +kernel
theorem dX5_roll_24 : decode cX5_roll 24 = .ok (.iconst 0, 1) := by decide +kernel
theorem dX5_roll_25 : decode cX5_roll 25 = .ok (.istore_n 3, 1) := by decide +kernel
theorem dX5_roll_26 : decode cX5_roll 26 = .ok (.iconst 0, 1) := by decide +kernel
theorem dX5_roll_27 : decode cX5_roll 27 = .ok (.istore 4, 2) := by decide +kernel
theorem dX5_roll_29 : decode cX5_roll 29 = .ok (.iload 4, 2) := by decide +kernel
theorem dX5_roll_31 : decode cX5_roll 31 = .ok (.aload_n 0, 1) := by decide +kernel
theorem dX5_roll_32 : decode cX5_roll 32 = .ok (.getfield 225, 3) := by decide +kernel
theorem dX5_roll_35 : decode cX5_roll 35 = .ok (.if_icmp .ge 30, 3) := by decide +kernel
theorem dX5_roll_38 : decode cX5_roll 38 = .ok (.iload_n 3, 1) := by decide +kernel
theorem dX5_roll_39 : decode cX5_roll 39 = .ok (.ifCond .ne 14, 3) := by decide +kernel
theorem dX5_roll_42 : decode cX5_roll 42 = .ok (.aload_n 0, 1) := by decide +kernel
theorem dX5_roll_43 : decode cX5_roll 43 = .ok (.getfield 54, 3) := by decide +kernel
theorem dX5_roll_46 : decode cX5_roll 46 = .ok (.iload 4, 2) := by decide +kernel
theorem dX5_roll_48 : decode cX5_roll 48 = .ok (.iaload, 1) := by decide +kernel
theorem dX5_roll_49 : decode cX5_roll 49 = .ok (.iload_n 2, 1) := by decide +kernel
theorem dX5_roll_50 : decode cX5_roll 50 = .ok (.if_icmp .ne 7, 3) := by decide +kernel
theorem dX5_roll_53 : decode cX5_roll 53 = .ok (.iconst 1, 1) := by decide +kernel
theorem dX5_roll_54 : decode cX5_roll 54 = .ok (.goto 4, 3) := by decide +kernel
theorem dX5_roll_57 : decode cX5_roll 57 = .ok (.iconst 0, 1) := by decide +kernel
theorem dX5_roll_58 : decode cX5_roll 58 = .ok (.istore_n 3, 1) := by decide +kernel
theorem dX5_roll_59 : decode cX5_roll 59 = .ok (.iinc 4 1, 3) := by decide +kernel
theorem dX5_roll_62 : decode cX5_roll 62 = .ok (.goto (-33), 3) := by decide +kernel
theorem dX5_roll_65 : decode cX5_roll 65 = .ok (.iload_n 3, 1) := by decide +kernel
theorem dX5_roll_66 : decode cX5_roll 66 = .ok (.ifCond .ne 6, 3) := by decide +kernel
theorem dX5_roll_69 : decode cX5_roll 69 = .ok (.bipush (-4), 2) := by decide +kernel
theorem dX5_roll_71 : decode cX5_roll 71 = .ok (.ireturn, 1) := by decide +kernel
theorem dX5_roll_72 : decode cX5_roll 72 = .ok (.aload_n 0, 1) := by decide +kernel
theorem dX5_roll_73 : decode cX5_roll 73 = .ok (.getfield 38, 3) := by decide +kernel
theorem dX5_roll_76 : decode cX5_roll 76 = .ok (.bipush 16, 2) := by decide +kernel
theorem dX5_roll_78 : decode cX5_roll 78 = .ok (.iaload, 1) := by decide +kernel
theorem dX5_roll_79 : decode cX5_roll 79 = .ok (.sipush 9999, 3) := by decide +kernel
theorem dX5_roll_82 : decode cX5_roll 82 = .ok (.if_icmp .ne 6, 3) := by decide +kernel
theorem dX5_roll_85 : decode cX5_roll 85 = .ok (.bipush (-5), 2) := by decide +kernel
theorem dX5_roll_87 : decode cX5_roll 87 = .ok (.ireturn, 1) := by decide +kernel
theorem dX5_roll_88 : decode cX5_roll 88 = .ok (.aload_n 0, 1) := by decide +kernel
theorem dX5_roll_89 : decode cX5_roll 89 = .ok (.iload_n 1, 1) := by decide +kernel
theorem dX5_roll_90 : decode cX5_roll 90 = .ok (.iload_n 2, 1) := by decide +kernel
theorem dX5_roll_91 : decode cX5_roll 91 = .ok (.invokevirtual 249, 3) := by decide +kernel
theorem dX5_roll_94 : decode cX5_roll 94 = .ok (.aload_n 0, 1) := by decide +kernel
theorem dX5_roll_95 : decode cX5_roll 95 = .ok (.getfield 38, 3) := by decide +kernel
theorem dX5_roll_98 : decode cX5_roll 98 = .ok (.bipush 17, 2) := by decide +kernel
theorem dX5_roll_100 : decode cX5_roll 100 = .ok (.aload_n 0, 1) := by decide +kernel
theorem dX5_roll_101 : decode cX5_roll 101 = .ok (.getfield 91, 3) := by decide +kernel
theorem dX5_roll_104 : decode cX5_roll 104 = .ok (.iconst 1, 1) := by decide +kernel
theorem dX5_roll_105 : decode cX5_roll 105 = .ok (.if_icmp .ne 14, 3) := by decide +kernel
theorem dX5_roll_108 : decode cX5_roll 108 = .ok (.iload_n 1, 1) := by decide +kernel
theorem dX5_roll_109 : decode cX5_roll 109 = .ok (.iconst 1, 1) := by decide +kernel
theorem dX5_roll_110 : decode cX5_roll 110 = .ok (.iadd, 1) := by decide +kernel
theorem dX5_roll_111 : decode cX5_roll 111 = .ok (.aload_n 0, 1) := by decide +kernel
theorem dX5_roll_112 : decode cX5_roll 112 = .ok (.getfield 78, 3) := by decide +kernel
theorem dX5_roll_115 : decode cX5_roll 115 = .ok (.irem, 1) := by decide +kernel
theorem dX5_roll_116 : decode cX5_roll 116 = .ok (.goto 10, 3) := by decide +kernel
theorem dX5_roll_119 : decode cX5_roll 119 = .ok (.aload_n 0, 1) := by decide +kernel
theorem dX5_roll_120 : decode cX5_roll 120 = .ok (.getfield 38, 3) := by decide +kernel
theorem dX5_roll_123 : decode cX5_roll 123 = .ok (.bipush 17, 2) := by decide +kernel
theorem dX5_roll_125 : decode cX5_roll 125 = .ok (.iaload, 1) := by decide +kernel
theorem dX5_roll_126 : decode cX5_roll 126 = .ok (.iastore, 1) := by decide +kernel
theorem dX5_roll_127 : decode cX5_roll 127 = .ok (.aload_n 0, 1) := by decide +kernel
theorem dX5_roll_128 : decode cX5_roll 128 = .ok (.getfield 38, 3) := by decide +kernel
theorem dX5_roll_131 : decode cX5_roll 131 = .ok (.bipush 16, 2) := by decide +kernel
theorem dX5_roll_133 : decode cX5_roll 133 = .ok (.dup2, 1) := by decide +kernel
theorem dX5_roll_134 : decode cX5_roll 134 = .ok (.iaload, 1) := by decide +kernel
theorem dX5_roll_135 : decode cX5_roll 135 = .ok (.iconst 1, 1) := by decide +kernel
theorem dX5_roll_136 : decode cX5_roll 136 = .ok (.iadd, 1) := by decide +kernel
theorem dX5_roll_137 : decode cX5_roll 137 = .ok (.iastore, 1) := by decide +kernel
theorem dX5_roll_138 : decode cX5_roll 138 = .ok (.aload_n 0, 1) := by decide +kernel
theorem dX5_roll_139 : decode cX5_roll 139 = .ok (.getfield 38, 3) := by decide +kernel
theorem dX5_roll_142 : decode cX5_roll 142 = .ok (.bipush 16, 2) := by decide +kernel
theorem dX5_roll_144 : decode cX5_roll 144 = .ok (.iaload, 1) := by decide +kernel
theorem dX5_roll_145 : decode cX5_roll 145 = .ok (.ireturn, 1) := by decide +kernel
theorem dX5_copy_0 : decode cX5_copy 0 = .ok (.iconst 0, 1) := by decide +kernel
theorem dX5_copy_1 : decode cX5_copy 1 = .ok (.istore 4, 2) := by decide +kernel
theorem dX5_copy_3 : decode cX5_copy 3 = .ok (.iload 4, 2) := by decide +kernel
theorem dX5_copy_5 : decode cX5_copy 5 = .ok (.bipush 19, 2) := by decide +kernel
theorem dX5_copy_7 : decode cX5_copy 7 = .ok (.if_icmp .ge 21, 3) := by decide +kernel
theorem dX5_copy_10 : decode cX5_copy 10 = .ok (.aload_n 2, 1) := by decide +kernel
theorem dX5_copy_11 : decode cX5_copy 11 = .ok (.iload_n 3, 1) := by decide +kernel
theorem dX5_copy_12 : decode cX5_copy 12 = .ok (.iload 4, 2) := by decide +kernel
theorem dX5_copy_14 : decode cX5_copy 14 = .ok (.iadd, 1) := by decide +kernel
theorem dX5_copy_15 : decode cX5_copy 15 = .ok (.aload_n 0, 1) := by decide +kernel
theorem dX5_copy_16 : decode cX5_copy 16 = .ok (.iload_n 1, 1) := by decide +kernel
theorem dX5_copy_17 : decode cX5_copy 17 = .ok (.iload 4, 2) := by decide +kernel
theorem dX5_copy_19 : decode cX5_copy 19 = .ok (.iadd, 1) := by decide +kernel
theorem dX5_copy_20 : decode cX5_copy 20 = .ok (.iaload, 1) := by decide +kernel
theorem dX5_copy_21 : decode cX5_copy 21 = .ok (.iastore, 1) := by decide +kernel
theorem dX5_copy_22 : decode cX5_copy 22 = .ok (.iinc 4 1, 3) := by decide +kernel
theorem dX5_copy_25 : decode cX5_copy 25 = .ok (.goto (-22), 3) := by decide +kernel
theorem dX5_copy_28 : decode cX5_copy 28 = .ok (.return_, 1) := by decide +kernel
set_option maxRecDepth 20000 in
theorem ggX5_keep_X5_in : GoodIn wsX5_keep wsX5_in := goodIn_r _ [7] (by decide +kernel) (by decide +kernel)
set_option maxRecDepth 20000 in
theorem gX5_keep_X5_in : GoodIn wsX5_keep (va_wsS RX5 81 yX5_in wsX5_in) := goodIn_app (goodIn_of _ (by decide +kernel)) ggX5_keep_X5_in
set_option maxRecDepth 20000 in
theorem ggX5_keep_X5_copy : GoodIn wsX5_keep wsX5_copy := goodIn_r _ [10] (by decide +kernel) (by decide +kernel)
set_option maxRecDepth 20000 in
theorem gX5_keep_X5_copy : GoodIn wsX5_keep (va_wsS RX5 262 yX5_copy wsX5_copy) := goodIn_app (goodIn_of _ (by decide +kernel)) ggX5_keep_X5_copy
theorem dX5_keep_0 : decode cX5_keep 0 = .ok (.iload_n 1, 1) := by decide +kernel
theorem dX5_keep_1 : decode cX5_keep 1 = .ok (.iconst 0, 1) := by decide +kernel
theorem dX5_keep_2 : decode cX5_keep 2 = .ok (.iconst 1, 1) := by decide +kernel
theorem dX5_keep_3 : decode cX5_keep 3 = .ok (.invokestatic 81, 3) := by decide +kernel
theorem dX5_keep_6 : decode cX5_keep 6 = .ok (.ifCond .ne 6, 3) := by decide +kernel
theorem dX5_keep_9 : decode cX5_keep 9 = .ok (.bipush (-2), 2) := by decide +kernel
theorem dX5_keep_11 : decode cX5_keep 11 = .ok (.ireturn, 1) := by decide +kernel
theorem dX5_keep_12 : decode cX5_keep 12 = .ok (.aload_n 0, 1) := by decide +kernel
theorem dX5_keep_13 : decode cX5_keep 13 = .ok (.getfield 38, 3) := by decide +kernel
theorem dX5_keep_16 : decode cX5_keep 16 = .ok (.iconst 0, 1) := by decide +kernel
theorem dX5_keep_17 : decode cX5_keep 17 = .ok (.aload_n 0, 1) := by decide +kernel
theorem dX5_keep_18 : decode cX5_keep 18 = .ok (.getfield 44, 3) := by decide +kernel
theorem dX5_keep_21 : decode cX5_keep 21 = .ok (.bipush 19, 2) := by decide +kernel
theorem dX5_keep_23 : decode cX5_keep 23 = .ok (.iload_n 1, 1) := by decide +kernel
theorem dX5_keep_24 : decode cX5_keep 24 = .ok (.imul, 1) := by decide +kernel
theorem dX5_keep_25 : decode cX5_keep 25 = .ok (.invokestatic 262, 3) := by decide +kernel
theorem dX5_keep_28 : decode cX5_keep 28 = .ok (.aload_n 0, 1) := by decide +kernel
theorem dX5_keep_29 : decode cX5_keep 29 = .ok (.getfield 47, 3) := by decide +kernel
theorem dX5_keep_32 : decode cX5_keep 32 = .ok (.iload_n 1, 1) := by decide +kernel
theorem dX5_keep_33 : decode cX5_keep 33 = .ok (.iconst 1, 1) := by decide +kernel
theorem dX5_keep_34 : decode cX5_keep 34 = .ok (.bastore, 1) := by decide +kernel
theorem dX5_keep_35 : decode cX5_keep 35 = .ok (.aload_n 0, 1) := by decide +kernel
theorem dX5_keep_36 : decode cX5_keep 36 = .ok (.getfield 38, 3) := by decide +kernel
theorem dX5_keep_39 : decode cX5_keep 39 = .ok (.bipush 16, 2) := by decide +kernel
theorem dX5_keep_41 : decode cX5_keep 41 = .ok (.iaload, 1) := by decide +kernel
theorem dX5_keep_42 : decode cX5_keep 42 = .ok (.ireturn, 1) := by decide +kernel
set_option maxRecDepth 20000 in
theorem ggX5_back_X5_in : GoodIn wsX5_back wsX5_in := goodIn_r _ [7] (by decide +kernel) (by decide +kernel)
set_option maxRecDepth 20000 in
theorem gX5_back_X5_in : GoodIn wsX5_back (va_wsS RX5 81 yX5_in wsX5_in) := goodIn_app (goodIn_of _ (by decide +kernel)) ggX5_back_X5_in
set_option maxRecDepth 20000 in
theorem ggX5_back_X5_copy : GoodIn wsX5_back wsX5_copy := goodIn_r _ [10] (by decide +kernel) (by decide +kernel)
set_option maxRecDepth 20000 in
theorem gX5_back_X5_copy : GoodIn wsX5_back (va_wsS RX5 262 yX5_copy wsX5_copy) := goodIn_app (goodIn_of _ (by decide +kernel)) ggX5_back_X5_copy
theorem dX5_back_0 : decode cX5_back 0 = .ok (.iload_n 1, 1) := by decide +kernel
theorem dX5_back_1 : decode cX5_back 1 = .ok (.iconst 0, 1) := by decide +kernel
theorem dX5_back_2 : decode cX5_back 2 = .ok (.iconst 1, 1) := by decide +kernel
theorem dX5_back_3 : decode cX5_back 3 = .ok (.invokestatic 81, 3) := by decide +kernel
theorem dX5_back_6 : decode cX5_back 6 = .ok (.ifCond .ne 6, 3) := by decide +kernel
theorem dX5_back_9 : decode cX5_back 9 = .ok (.bipush (-2), 2) := by decide +kernel
theorem dX5_back_11 : decode cX5_back 11 = .ok (.ireturn, 1) := by decide +kernel
theorem dX5_back_12 : decode cX5_back 12 = .ok (.aload_n 0, 1) := by decide +kernel
theorem dX5_back_13 : decode cX5_back 13 = .ok (.getfield 47, 3) := by decide +kernel
theorem dX5_back_16 : decode cX5_back 16 = .ok (.iload_n 1, 1) := by decide +kernel
theorem dX5_back_17 : decode cX5_back 17 = .ok (.baload, 1) := by decide +kernel
theorem dX5_back_18 : decode cX5_back 18 = .ok (.ifCond .ne 6, 3) := by decide +kernel
theorem dX5_back_21 : decode cX5_back 21 = .ok (.bipush (-4), 2) := by decide +kernel
theorem dX5_back_23 : decode cX5_back 23 = .ok (.ireturn, 1) := by decide +kernel
theorem dX5_back_24 : decode cX5_back 24 = .ok (.aload_n 0, 1) := by decide +kernel
theorem dX5_back_25 : decode cX5_back 25 = .ok (.getfield 44, 3) := by decide +kernel
theorem dX5_back_28 : decode cX5_back 28 = .ok (.bipush 19, 2) := by decide +kernel
theorem dX5_back_30 : decode cX5_back 30 = .ok (.iload_n 1, 1) := by decide +kernel
theorem dX5_back_31 : decode cX5_back 31 = .ok (.imul, 1) := by decide +kernel
theorem dX5_back_32 : decode cX5_back 32 = .ok (.aload_n 0, 1) := by decide +kernel
theorem dX5_back_33 : decode cX5_back 33 = .ok (.getfield 38, 3) := by decide +kernel
theorem dX5_back_36 : decode cX5_back 36 = .ok (.iconst 0, 1) := by decide +kernel
theorem dX5_back_37 : decode cX5_back 37 = .ok (.invokestatic 262, 3) := by decide +kernel
theorem dX5_back_40 : decode cX5_back 40 = .ok (.aload_n 0, 1) := by decide +kernel
theorem dX5_back_41 : decode cX5_back 41 = .ok (.getfield 38, 3) := by decide +kernel
theorem dX5_back_44 : decode cX5_back 44 = .ok (.bipush 16, 2) := by decide +kernel
theorem dX5_back_46 : decode cX5_back 46 = .ok (.iaload, 1) := by decide +kernel
theorem dX5_back_47 : decode cX5_back 47 = .ok (.ireturn, 1) := by decide +kernel
set_option maxRecDepth 20000 in
theorem ggX5_putAside_X5_copy : GoodIn wsX5_putAside wsX5_copy := goodIn_r _ [8] (by decide +kernel) (by decide +kernel)
set_option maxRecDepth 20000 in
theorem gX5_putAside_X5_copy : GoodIn wsX5_putAside (va_wsS RX5 262 yX5_copy wsX5_copy) := goodIn_app (goodIn_of _ (by decide +kernel)) ggX5_putAside_X5_copy
theorem dX5_putAside_0 : decode cX5_putAside 0 = .ok (.aload_n 0, 1) := by decide +kernel
theorem dX5_putAside_1 : decode cX5_putAside 1 = .ok (.getfield 38, 3) := by decide +kernel
theorem dX5_putAside_4 : decode cX5_putAside 4 = .ok (.iconst 0, 1) := by decide +kernel
theorem dX5_putAside_5 : decode cX5_putAside 5 = .ok (.aload_n 0, 1) := by decide +kernel
theorem dX5_putAside_6 : decode cX5_putAside 6 = .ok (.getfield 41, 3) := by decide +kernel
theorem dX5_putAside_9 : decode cX5_putAside 9 = .ok (.iconst 0, 1) := by decide +kernel
theorem dX5_putAside_10 : decode cX5_putAside 10 = .ok (.invokestatic 262, 3) := by decide +kernel
theorem dX5_putAside_13 : decode cX5_putAside 13 = .ok (.aload_n 0, 1) := by decide +kernel
theorem dX5_putAside_14 : decode cX5_putAside 14 = .ok (.aload_n 0, 1) := by decide +kernel
theorem dX5_putAside_15 : decode cX5_putAside 15 = .ok (.getfield 91, 3) := by decide +kernel
theorem dX5_putAside_18 : decode cX5_putAside 18 = .ok (.putfield 245, 3) := by decide +kernel
theorem dX5_putAside_21 : decode cX5_putAside 21 = .ok (.return_, 1) := by decide +kernel
set_option maxRecDepth 20000 in
theorem ggX5_putBack_X5_copy : GoodIn wsX5_putBack wsX5_copy := goodIn_r _ [6] (by decide +kernel) (by decide +kernel)
set_option maxRecDepth 20000 in
theorem gX5_putBack_X5_copy : GoodIn wsX5_putBack (va_wsS RX5 262 yX5_copy wsX5_copy) := goodIn_app (goodIn_of _ (by decide +kernel)) ggX5_putBack_X5_copy
theorem dX5_putBack_0 : decode cX5_putBack 0 = .ok (.aload_n 0, 1) := by decide +kernel
theorem dX5_putBack_1 : decode cX5_putBack 1 = .ok (.getfield 41, 3) := by decide +kernel
theorem dX5_putBack_4 : decode cX5_putBack 4 = .ok (.iconst 0, 1) := by decide +kernel
theorem dX5_putBack_5 : decode cX5_putBack 5 = .ok (.aload_n 0, 1) := by decide +kernel
theorem dX5_putBack_6 : decode cX5_putBack 6 = .ok (.getfield 38, 3) := by decide +kernel
theorem dX5_putBack_9 : decode cX5_putBack 9 = .ok (.iconst 0, 1) := by decide +kernel
theorem dX5_putBack_10 : decode cX5_putBack 10 = .ok (.invokestatic 262, 3) := by decide +kernel
theorem dX5_putBack_13 : decode cX5_putBack 13 = .ok (.return_, 1) := by decide +kernel
set_option maxRecDepth 20000 in
theorem ggX5_later_X5_isHouse : GoodIn wsX5_later wsX5_isHouse := goodIn_r _ [6, 7, 8, 9, 5, 10, 67, 68, 69, 70, 71, 72, 73, 74, 75, 76, 77, 78, 79, 80, 81, 82, 83, 84, 85, 86, 87, 88, 89, 90, 91, 92, 93, 94, 95, 96, 97, 98, 99, 100, 101, 102, 103, 104, 105, 106] (by decide +kernel) (by decide +kernel)
set_option maxRecDepth 20000 in
theorem gX5_later_X5_isHouse : GoodIn wsX5_later (wsV RX5 239 RX5 yX5_isHouse wsX5_isHouse) := goodIn_app (goodIn_of _ (by decide +kernel)) ggX5_later_X5_isHouse
set_option maxRecDepth 20000 in
theorem ggX5_later_X5_in : GoodIn wsX5_later wsX5_in := goodIn_r _ [10] (by decide +kernel) (by decide +kernel)
set_option maxRecDepth 20000 in
theorem gX5_later_X5_in : GoodIn wsX5_later (va_wsS RX5 81 yX5_in wsX5_in) := goodIn_app (goodIn_of _ (by decide +kernel)) ggX5_later_X5_in
set_option maxRecDepth 20000 in
theorem ggX5_later_X5_putAside : GoodIn wsX5_later wsX5_putAside := goodIn_r _ [14, 1, 15, 16, 17, 18, 19, 5, 20, 67, 68, 69, 70, 71, 72, 73, 74, 75, 76, 77, 78, 79, 80, 81, 82, 83, 84, 85, 86, 87, 88, 89, 90, 91, 92, 93, 94, 95, 96, 97, 98, 99, 100, 101, 102, 103, 104, 105, 106] (by decide +kernel) (by decide +kernel)
set_option maxRecDepth 20000 in
theorem gX5_later_X5_putAside : GoodIn wsX5_later (wsV RX5 266 RX5 yX5_putAside wsX5_putAside) := goodIn_app (goodIn_of _ (by decide +kernel)) ggX5_later_X5_putAside
set_option maxRecDepth 20000 in
theorem ggX5_later_X5_goNight : GoodIn wsX5_later wsX5_goNight := goodIn_r _ [24, 17, 25, 1, 7, 26, 27, 28, 5, 29, 30, 31, 32, 33, 34, 35, 36, 37, 38, 39, 40, 41, 42, 43, 44, 45, 46, 47, 48, 49, 50, 51, 52, 53, 54, 55, 56, 57, 58, 59, 60, 61, 62, 67, 68, 69, 70, 71, 72, 73, 74, 75, 76, 77, 78, 79, 80, 81, 82, 83, 84, 85, 86, 87, 88, 89, 90, 91, 92, 93, 94, 95, 96, 97, 98, 99, 100, 101, 102, 103, 104, 105, 106] (by decide +kernel) (by decide +kernel)
set_option maxRecDepth 20000 in
theorem gX5_later_X5_goNight : GoodIn wsX5_later (wsV RX5 259 RX5 yX5_goNight wsX5_goNight) := goodIn_app (goodIn_of _ (by decide +kernel)) ggX5_later_X5_goNight
set_option maxRecDepth 20000 in
theorem ggX5_later_X5_putBack : GoodIn wsX5_later wsX5_putBack := goodIn_r _ [66, 15, 1, 18, 19, 5, 20, 67, 68, 69, 70, 71, 72, 73, 74, 75, 76, 77, 78, 79, 80, 81, 82, 83, 84, 85, 86, 87, 88, 89, 90, 91, 92, 93, 94, 95, 96, 97, 98, 99, 100, 101, 102, 103, 104, 105, 106] (by decide +kernel) (by decide +kernel)
set_option maxRecDepth 20000 in
theorem gX5_later_X5_putBack : GoodIn wsX5_later (wsV RX5 269 RX5 yX5_putBack wsX5_putBack) := goodIn_app (goodIn_of _ (by decide +kernel)) ggX5_later_X5_putBack
theorem dX5_later_0 : decode cX5_later 0 = .ok (.aload_n 0, 1) := by decide +kernel
theorem dX5_later_1 : decode cX5_later 1 = .ok (.iload_n 1, 1) := by decide +kernel
theorem dX5_later_2 : decode cX5_later 2 = .ok (.invokevirtual 239, 3) := by decide +kernel
theorem dX5_later_5 : decode cX5_later 5 = .ok (.ifCond .ne 6, 3) := by decide +kernel
theorem dX5_later_8 : decode cX5_later 8 = .ok (.bipush (-2), 2) := by decide +kernel
theorem dX5_later_10 : decode cX5_later 10 = .ok (.ireturn, 1) := by decide +kernel
theorem dX5_later_11 : decode cX5_later 11 = .ok (.iload_n 2, 1) := by decide +kernel
theorem dX5_later_12 : decode cX5_later 12 = .ok (.iconst 0, 1) := by decide +kernel
theorem dX5_later_13 : decode cX5_later 13 = .ok (.bipush 99, 2) := by decide +kernel
theorem dX5_later_15 : decode cX5_later 15 = .ok (.invokestatic 81, 3) := by decide +kernel
theorem dX5_later_18 : decode cX5_later 18 = .ok (.ifCond .ne 6, 3) := by decide +kernel
theorem dX5_later_21 : decode cX5_later 21 = .ok (.bipush (-3), 2) := by decide +kernel
theorem dX5_later_23 : decode cX5_later 23 = .ok (.ireturn, 1) := by decide +kernel
theorem dX5_later_24 : decode cX5_later 24 = .ok (.aload_n 0, 1) := by decide +kernel
theorem dX5_later_25 : decode cX5_later 25 = .ok (.invokevirtual 266, 3) := by decide +kernel
theorem dX5_later_28 : decode cX5_later 28 = .ok (.iconst 0, 1) := by decide +kernel
theorem dX5_later_29 : decode cX5_later 29 = .ok (.istore_n 3, 1) := by decide +kernel
theorem dX5_later_30 : decode cX5_later 30 = .ok (.iload_n 3, 1) := by decide +kernel
theorem dX5_later_31 : decode cX5_later 31 = .ok (.iload_n 2, 1) := by decide +kernel
theorem dX5_later_32 : decode cX5_later 32 = .ok (.if_icmp .ge 13, 3) := by decide +kernel
theorem dX5_later_35 : decode cX5_later 35 = .ok (.aload_n 0, 1) := by decide +kernel
theorem dX5_later_36 : decode cX5_later 36 = .ok (.invokevirtual 259, 3) := by decide +kernel
theorem dX5_later_39 : decode cX5_later 39 = .ok (.iinc 3 1, 3) := by decide +kernel
theorem dX5_later_42 : decode cX5_later 42 = .ok (.goto (-12), 3) := by decide +kernel
theorem dX5_later_45 : decode cX5_later 45 = .ok (.aload_n 0, 1) := by decide +kernel
theorem dX5_later_46 : decode cX5_later 46 = .ok (.getfield 38, 3) := by decide +kernel
theorem dX5_later_49 : decode cX5_later 49 = .ok (.iload_n 1, 1) := by decide +kernel
theorem dX5_later_50 : decode cX5_later 50 = .ok (.iaload, 1) := by decide +kernel
theorem dX5_later_51 : decode cX5_later 51 = .ok (.istore_n 3, 1) := by decide +kernel
theorem dX5_later_52 : decode cX5_later 52 = .ok (.aload_n 0, 1) := by decide +kernel
theorem dX5_later_53 : decode cX5_later 53 = .ok (.invokevirtual 269, 3) := by decide +kernel
theorem dX5_later_56 : decode cX5_later 56 = .ok (.iload_n 3, 1) := by decide +kernel
theorem dX5_later_57 : decode cX5_later 57 = .ok (.ireturn, 1) := by decide +kernel
theorem dX5_rankOf_0 : decode cX5_rankOf 0 = .ok (.iconst 0, 1) := by decide +kernel
theorem dX5_rankOf_1 : decode cX5_rankOf 1 = .ok (.istore_n 2, 1) := by decide +kernel
theorem dX5_rankOf_2 : decode cX5_rankOf 2 = .ok (.iconst 0, 1) := by decide +kernel
theorem dX5_rankOf_3 : decode cX5_rankOf 3 = .ok (.istore_n 3, 1) := by decide +kernel
theorem dX5_rankOf_4 : decode cX5_rankOf 4 = .ok (.iload_n 3, 1) := by decide +kernel
theorem dX5_rankOf_5 : decode cX5_rankOf 5 = .ok (.aload_n 0, 1) := by decide +kernel
theorem dX5_rankOf_6 : decode cX5_rankOf 6 = .ok (.getfield 78, 3) := by decide +kernel
theorem dX5_rankOf_9 : decode cX5_rankOf 9 = .ok (.if_icmp .ge 38, 3) := by decide +kernel
theorem dX5_rankOf_12 : decode cX5_rankOf 12 = .ok (.iload_n 2, 1) := by decide +kernel
theorem dX5_rankOf_13 : decode cX5_rankOf 13 = .ok (.aload_n 0, 1) := by decide +kernel
theorem dX5_rankOf_14 : decode cX5_rankOf 14 = .ok (.getfield 38, 3) := by decide +kernel
theorem dX5_rankOf_17 : decode cX5_rankOf 17 = .ok (.bipush 8, 2) := by decide +kernel
theorem dX5_rankOf_19 : decode cX5_rankOf 19 = .ok (.iload_n 3, 1) := by decide +kernel
theorem dX5_rankOf_20 : decode cX5_rankOf 20 = .ok (.iadd, 1) := by decide +kernel
theorem dX5_rankOf_21 : decode cX5_rankOf 21 = .ok (.iaload, 1) := by decide +kernel
theorem dX5_rankOf_22 : decode cX5_rankOf 22 = .ok (.aload_n 0, 1) := by decide +kernel
theorem dX5_rankOf_23 : decode cX5_rankOf 23 = .ok (.getfield 38, 3) := by decide +kernel
theorem dX5_rankOf_26 : decode cX5_rankOf 26 = .ok (.bipush 8, 2) := by decide +kernel
theorem dX5_rankOf_28 : decode cX5_rankOf 28 = .ok (.iload_n 1, 1) := by decide +kernel
theorem dX5_rankOf_29 : decode cX5_rankOf 29 = .ok (.iadd, 1) := by decide +kernel
theorem dX5_rankOf_30 : decode cX5_rankOf 30 = .ok (.iaload, 1) := by decide +kernel
theorem dX5_rankOf_31 : decode cX5_rankOf 31 = .ok (.if_icmp .ge 7, 3) := by decide +kernel
theorem dX5_rankOf_34 : decode cX5_rankOf 34 = .ok (.iconst 1, 1) := by decide +kernel
theorem dX5_rankOf_35 : decode cX5_rankOf 35 = .ok (.goto 4, 3) := by decide +kernel
theorem dX5_rankOf_38 : decode cX5_rankOf 38 = .ok (.iconst 0, 1) := by decide +kernel
theorem dX5_rankOf_39 : decode cX5_rankOf 39 = .ok (.iadd, 1) := by decide +kernel
theorem dX5_rankOf_40 : decode cX5_rankOf 40 = .ok (.istore_n 2, 1) := by decide +kernel
theorem dX5_rankOf_41 : decode cX5_rankOf 41 = .ok (.iinc 3 1, 3) := by decide +kernel
theorem dX5_rankOf_44 : decode cX5_rankOf 44 = .ok (.goto (-40), 3) := by decide +kernel
theorem dX5_rankOf_47 : decode cX5_rankOf 47 = .ok (.iload_n 2, 1) := by decide +kernel
theorem dX5_rankOf_48 : decode cX5_rankOf 48 = .ok (.ireturn, 1) := by decide +kernel
set_option maxRecDepth 20000 in
theorem ggX5_layState_X5_rankOf : GoodIn wsX5_layState wsX5_rankOf := goodIn_r _ [9, 2, 3, 10, 11, 12, 13, 14, 15, 16, 17, 18, 19, 20, 21, 22, 23, 24, 25, 26, 27, 28, 29, 30, 31, 32, 33, 34, 35, 36, 37, 38, 39, 40, 41, 42, 43, 44, 45, 46, 47, 48, 49] (by decide +kernel) (by decide +kernel)
set_option maxRecDepth 20000 in
theorem gX5_layState_X5_rankOf : GoodIn wsX5_layState (wsV RX5 272 RX5 yX5_rankOf wsX5_rankOf) := goodIn_app (goodIn_of _ (by decide +kernel)) ggX5_layState_X5_rankOf
theorem dX5_layState_0 : decode cX5_layState 0 = .ok (.iconst 0, 1) := by decide +kernel
theorem dX5_layState_1 : decode cX5_layState 1 = .ok (.istore_n 2, 1) := by decide +kernel
theorem dX5_layState_2 : decode cX5_layState 2 = .ok (.iload_n 2, 1) := by decide +kernel
theorem dX5_layState_3 : decode cX5_layState 3 = .ok (.bipush 8, 2) := by decide +kernel
theorem dX5_layState_5 : decode cX5_layState 5 = .ok (.if_icmp .ge 77, 3) := by decide +kernel
theorem dX5_layState_8 : decode cX5_layState 8 = .ok (.aload_n 0, 1) := by decide +kernel
theorem dX5_layState_9 : decode cX5_layState 9 = .ok (.getfield 57, 3) := by decide +kernel
theorem dX5_layState_12 : decode cX5_layState 12 = .ok (.bipush 18, 2) := by decide +kernel
theorem dX5_layState_14 : decode cX5_layState 14 = .ok (.iload_n 1, 1) := by decide +kernel
theorem dX5_layState_15 : decode cX5_layState 15 = .ok (.imul, 1) := by decide +kernel
theorem dX5_layState_16 : decode cX5_layState 16 = .ok (.iload_n 2, 1) := by decide +kernel
theorem dX5_layState_17 : decode cX5_layState 17 = .ok (.iadd, 1) := by decide +kernel
theorem dX5_layState_18 : decode cX5_layState 18 = .ok (.iload_n 2, 1) := by decide +kernel
theorem dX5_layState_19 : decode cX5_layState 19 = .ok (.aload_n 0, 1) := by decide +kernel
theorem dX5_layState_20 : decode cX5_layState 20 = .ok (.getfield 78, 3) := by decide +kernel
theorem dX5_layState_23 : decode cX5_layState 23 = .ok (.if_icmp .ge 12, 3) := by decide +kernel
theorem dX5_layState_26 : decode cX5_layState 26 = .ok (.aload_n 0, 1) := by decide +kernel
theorem dX5_layState_27 : decode cX5_layState 27 = .ok (.getfield 38, 3) := by decide +kernel
theorem dX5_layState_30 : decode cX5_layState 30 = .ok (.iload_n 2, 1) := by decide +kernel
theorem dX5_layState_31 : decode cX5_layState 31 = .ok (.iaload, 1) := by decide +kernel
theorem dX5_layState_32 : decode cX5_layState 32 = .ok (.goto 4, 3) := by decide +kernel
theorem dX5_layState_35 : decode cX5_layState 35 = .ok (.iconst 0, 1) := by decide +kernel
theorem dX5_layState_36 : decode cX5_layState 36 = .ok (.iastore, 1) := by decide +kernel
theorem dX5_layState_37 : decode cX5_layState 37 = .ok (.aload_n 0, 1) := by decide +kernel
theorem dX5_layState_38 : decode cX5_layState 38 = .ok (.getfield 57, 3) := by decide +kernel
theorem dX5_layState_41 : decode cX5_layState 41 = .ok (.bipush 18, 2) := by decide +kernel
theorem dX5_layState_43 : decode cX5_layState 43 = .ok (.iload_n 1, 1) := by decide +kernel
theorem dX5_layState_44 : decode cX5_layState 44 = .ok (.imul, 1) := by decide +kernel
theorem dX5_layState_45 : decode cX5_layState 45 = .ok (.bipush 9, 2) := by decide +kernel
theorem dX5_layState_47 : decode cX5_layState 47 = .ok (.iadd, 1) := by decide +kernel
theorem dX5_layState_48 : decode cX5_layState 48 = .ok (.iload_n 2, 1) := by decide +kernel
theorem dX5_layState_49 : decode cX5_layState 49 = .ok (.iadd, 1) := by decide +kernel
theorem dX5_layState_50 : decode cX5_layState 50 = .ok (.iload_n 2, 1) := by decide +kernel
theorem dX5_layState_51 : decode cX5_layState 51 = .ok (.aload_n 0, 1) := by decide +kernel
theorem dX5_layState_52 : decode cX5_layState 52 = .ok (.getfield 78, 3) := by decide +kernel
theorem dX5_layState_55 : decode cX5_layState 55 = .ok (.if_icmp .ge 19, 3) := by decide +kernel
theorem dX5_layState_58 : decode cX5_layState 58 = .ok (.aload_n 0, 1) := by decide +kernel
theorem dX5_layState_59 : decode cX5_layState 59 = .ok (.getfield 91, 3) := by decide +kernel
theorem dX5_layState_62 : decode cX5_layState 62 = .ok (.iconst 2, 1) := by decide +kernel
theorem dX5_layState_63 : decode cX5_layState 63 = .ok (.if_icmp .ne 11, 3) := by decide +kernel
theorem dX5_layState_66 : decode cX5_layState 66 = .ok (.aload_n 0, 1) := by decide +kernel
theorem dX5_layState_67 : decode cX5_layState 67 = .ok (.iload_n 2, 1) := by decide +kernel
theorem dX5_layState_68 : decode cX5_layState 68 = .ok (.invokevirtual 272, 3) := by decide +kernel
theorem dX5_layState_71 : decode cX5_layState 71 = .ok (.goto 4, 3) := by decide +kernel
theorem dX5_layState_74 : decode cX5_layState 74 = .ok (.iconst 0, 1) := by decide +kernel
theorem dX5_layState_75 : decode cX5_layState 75 = .ok (.iastore, 1) := by decide +kernel
theorem dX5_layState_76 : decode cX5_layState 76 = .ok (.iinc 2 1, 3) := by decide +kernel
theorem dX5_layState_79 : decode cX5_layState 79 = .ok (.goto (-77), 3) := by decide +kernel
theorem dX5_layState_82 : decode cX5_layState 82 = .ok (.aload_n 0, 1) := by decide +kernel
theorem dX5_layState_83 : decode cX5_layState 83 = .ok (.getfield 57, 3) := by decide +kernel
theorem dX5_layState_86 : decode cX5_layState 86 = .ok (.bipush 18, 2) := by decide +kernel
theorem dX5_layState_88 : decode cX5_layState 88 = .ok (.iload_n 1, 1) := by decide +kernel
theorem dX5_layState_89 : decode cX5_layState 89 = .ok (.imul, 1) := by decide +kernel
theorem dX5_layState_90 : decode cX5_layState 90 = .ok (.bipush 8, 2) := by decide +kernel
theorem dX5_layState_92 : decode cX5_layState 92 = .ok (.iadd, 1) := by decide +kernel
theorem dX5_layState_93 : decode cX5_layState 93 = .ok (.aload_n 0, 1) := by decide +kernel
theorem dX5_layState_94 : decode cX5_layState 94 = .ok (.getfield 91, 3) := by decide +kernel
theorem dX5_layState_97 : decode cX5_layState 97 = .ok (.iconst 1, 1) := by decide +kernel
theorem dX5_layState_98 : decode cX5_layState 98 = .ok (.if_icmp .ne 13, 3) := by decide +kernel
theorem dX5_layState_101 : decode cX5_layState 101 = .ok (.aload_n 0, 1) := by decide +kernel
theorem dX5_layState_102 : decode cX5_layState 102 = .ok (.getfield 38, 3) := by decide +kernel
theorem dX5_layState_105 : decode cX5_layState 105 = .ok (.bipush 17, 2) := by decide +kernel
theorem dX5_layState_107 : decode cX5_layState 107 = .ok (.iaload, 1) := by decide +kernel
theorem dX5_layState_108 : decode cX5_layState 108 = .ok (.goto 4, 3) := by decide +kernel
theorem dX5_layState_111 : decode cX5_layState 111 = .ok (.iconst 0, 1) := by decide +kernel
theorem dX5_layState_112 : decode cX5_layState 112 = .ok (.iastore, 1) := by decide +kernel
theorem dX5_layState_113 : decode cX5_layState 113 = .ok (.aload_n 0, 1) := by decide +kernel
theorem dX5_layState_114 : decode cX5_layState 114 = .ok (.getfield 57, 3) := by decide +kernel
theorem dX5_layState_117 : decode cX5_layState 117 = .ok (.bipush 18, 2) := by decide +kernel
theorem dX5_layState_119 : decode cX5_layState 119 = .ok (.iload_n 1, 1) := by decide +kernel
theorem dX5_layState_120 : decode cX5_layState 120 = .ok (.imul, 1) := by decide +kernel
theorem dX5_layState_121 : decode cX5_layState 121 = .ok (.bipush 17, 2) := by decide +kernel
theorem dX5_layState_123 : decode cX5_layState 123 = .ok (.iadd, 1) := by decide +kernel
theorem dX5_layState_124 : decode cX5_layState 124 = .ok (.aload_n 0, 1) := by decide +kernel
theorem dX5_layState_125 : decode cX5_layState 125 = .ok (.getfield 91, 3) := by decide +kernel
theorem dX5_layState_128 : decode cX5_layState 128 = .ok (.iconst 3, 1) := by decide +kernel
theorem dX5_layState_129 : decode cX5_layState 129 = .ok (.if_icmp .ne 13, 3) := by decide +kernel
theorem dX5_layState_132 : decode cX5_layState 132 = .ok (.aload_n 0, 1) := by decide +kernel
theorem dX5_layState_133 : decode cX5_layState 133 = .ok (.getfield 38, 3) := by decide +kernel
theorem dX5_layState_136 : decode cX5_layState 136 = .ok (.bipush 18, 2) := by decide +kernel
theorem dX5_layState_138 : decode cX5_layState 138 = .ok (.iaload, 1) := by decide +kernel
theorem dX5_layState_139 : decode cX5_layState 139 = .ok (.goto 4, 3) := by decide +kernel
theorem dX5_layState_142 : decode cX5_layState 142 = .ok (.iconst 0, 1) := by decide +kernel
theorem dX5_layState_143 : decode cX5_layState 143 = .ok (.iastore, 1) := by decide +kernel
theorem dX5_layState_144 : decode cX5_layState 144 = .ok (.return_, 1) := by decide +kernel
theorem dX5_isLike_0 : decode cX5_isLike 0 = .ok (.iconst 1, 1) := by decide +kernel
theorem dX5_isLike_1 : decode cX5_isLike 1 = .ok (.istore_n 3, 1) := by decide +kernel
theorem dX5_isLike_2 : decode cX5_isLike 2 = .ok (.iconst 0, 1) := by decide +kernel
theorem dX5_isLike_3 : decode cX5_isLike 3 = .ok (.istore 4, 2) := by decide +kernel
theorem dX5_isLike_5 : decode cX5_isLike 5 = .ok (.iload 4, 2) := by decide +kernel
theorem dX5_isLike_7 : decode cX5_isLike 7 = .ok (.bipush 18, 2) := by decide +kernel
theorem dX5_isLike_9 : decode cX5_isLike 9 = .ok (.if_icmp .ge 46, 3) := by decide +kernel
theorem dX5_isLike_12 : decode cX5_isLike 12 = .ok (.iload_n 3, 1) := by decide +kernel
theorem dX5_isLike_13 : decode cX5_isLike 13 = .ok (.ifCond .eq 42, 3) := by decide +kernel
theorem dX5_isLike_16 : decode cX5_isLike 16 = .ok (.aload_n 0, 1) := by decide +kernel
theorem dX5_isLike_17 : decode cX5_isLike 17 = .ok (.getfield 57, 3) := by decide +kernel
theorem dX5_isLike_20 : decode cX5_isLike 20 = .ok (.bipush 18, 2) := by decide +kernel
theorem dX5_isLike_22 : decode cX5_isLike 22 = .ok (.iload_n 1, 1) := by decide +kernel
theorem dX5_isLike_23 : decode cX5_isLike 23 = .ok (.imul, 1) := by decide +kernel
theorem dX5_isLike_24 : decode cX5_isLike 24 = .ok (.iload 4, 2) := by decide +kernel
theorem dX5_isLike_26 : decode cX5_isLike 26 = .ok (.iadd, 1) := by decide +kernel
theorem dX5_isLike_27 : decode cX5_isLike 27 = .ok (.iaload, 1) := by decide +kernel
theorem dX5_isLike_28 : decode cX5_isLike 28 = .ok (.aload_n 0, 1) := by decide +kernel
theorem dX5_isLike_29 : decode cX5_isLike 29 = .ok (.getfield 57, 3) := by decide +kernel
theorem dX5_isLike_32 : decode cX5_isLike 32 = .ok (.bipush 18, 2) := by decide +kernel
theorem dX5_isLike_34 : decode cX5_isLike 34 = .ok (.iload_n 2, 1) := by decide +kernel
theorem dX5_isLike_35 : decode cX5_isLike 35 = .ok (.imul, 1) := by decide +kernel
theorem dX5_isLike_36 : decode cX5_isLike 36 = .ok (.iload 4, 2) := by decide +kernel
theorem dX5_isLike_38 : decode cX5_isLike 38 = .ok (.iadd, 1) := by decide +kernel
theorem dX5_isLike_39 : decode cX5_isLike 39 = .ok (.iaload, 1) := by decide +kernel
theorem dX5_isLike_40 : decode cX5_isLike 40 = .ok (.if_icmp .ne 7, 3) := by decide +kernel
theorem dX5_isLike_43 : decode cX5_isLike 43 = .ok (.iconst 1, 1) := by decide +kernel
theorem dX5_isLike_44 : decode cX5_isLike 44 = .ok (.goto 4, 3) := by decide +kernel
theorem dX5_isLike_47 : decode cX5_isLike 47 = .ok (.iconst 0, 1) := by decide +kernel
theorem dX5_isLike_48 : decode cX5_isLike 48 = .ok (.istore_n 3, 1) := by decide +kernel
theorem dX5_isLike_49 : decode cX5_isLike 49 = .ok (.iinc 4 1, 3) := by decide +kernel
theorem dX5_isLike_52 : decode cX5_isLike 52 = .ok (.goto (-47), 3) := by decide +kernel
theorem dX5_isLike_55 : decode cX5_isLike 55 = .ok (.iload_n 3, 1) := by decide +kernel
theorem dX5_isLike_56 : decode cX5_isLike 56 = .ok (.ireturn, 1) := by decide +kernel
set_option maxRecDepth 20000 in
theorem ggX5_roundOf_X5_putAside : GoodIn wsX5_roundOf wsX5_putAside := goodIn_r _ [5, 6, 7, 8, 9, 10, 11, 4, 12, 73, 74, 75, 76, 77, 78, 79, 80, 81, 82, 83, 84, 85, 86, 87, 88, 89, 90, 91, 92, 93, 94, 95, 96, 97, 98, 99, 100, 101, 102, 103, 104, 105, 106, 107, 108, 109, 110, 111, 112] (by decide +kernel) (by decide +kernel)
set_option maxRecDepth 20000 in
theorem gX5_roundOf_X5_putAside : GoodIn wsX5_roundOf (wsV RX5 266 RX5 yX5_putAside wsX5_putAside) := goodIn_app (goodIn_of _ (by decide +kernel)) ggX5_roundOf_X5_putAside
set_option maxRecDepth 20000 in
theorem ggX5_roundOf_X5_layState : GoodIn wsX5_roundOf wsX5_layState := goodIn_r _ [16, 17, 18, 6, 8, 19, 20, 21, 4, 22, 73, 74, 75, 76, 77, 78, 79, 80, 81, 82, 83, 84, 85, 86, 87, 88, 89, 90, 91, 92, 93, 94, 95, 96, 97, 98, 99, 100, 101, 102, 103, 104, 105, 106, 107, 108, 109, 110, 111, 112] (by decide +kernel) (by decide +kernel)
set_option maxRecDepth 20000 in
theorem gX5_roundOf_X5_layState : GoodIn wsX5_roundOf (wsV RX5 276 RX5 yX5_layState wsX5_layState) := goodIn_app (goodIn_of _ (by decide +kernel)) ggX5_roundOf_X5_layState
set_option maxRecDepth 20000 in
theorem ggX5_roundOf_X5_isLike : GoodIn wsX5_roundOf wsX5_isLike := goodIn_r _ [26, 17, 73, 74, 75, 76, 77, 78, 79, 80, 81, 82, 83, 84, 85, 86, 87, 88, 89, 90, 91, 92, 93, 94, 95, 96, 97, 98, 99, 100, 101, 102, 103, 104, 105, 106, 107, 108, 109, 110, 111, 112] (by decide +kernel) (by decide +kernel)
set_option maxRecDepth 20000 in
theorem gX5_roundOf_X5_isLike : GoodIn wsX5_roundOf (wsV RX5 279 RX5 yX5_isLike wsX5_isLike) := goodIn_app (goodIn_of _ (by decide +kernel)) ggX5_roundOf_X5_isLike
set_option maxRecDepth 20000 in
theorem ggX5_roundOf_X5_goNight : GoodIn wsX5_roundOf wsX5_goNight := goodIn_r _ [30, 9, 31, 6, 18, 32, 33, 34, 4, 35, 36, 37, 38, 39, 40, 41, 42, 43, 44, 45, 46, 47, 48, 49, 50, 51, 52, 53, 54, 55, 56, 57, 58, 59, 60, 61, 62, 63, 64, 65, 66, 67, 68, 73, 74, 75, 76, 77, 78, 79, 80, 81, 82, 83, 84, 85, 86, 87, 88, 89, 90, 91, 92, 93, 94, 95, 96, 97, 98, 99, 100, 101, 102, 103, 104, 105, 106, 107, 108, 109, 110, 111, 112] (by decide +kernel) (by decide +kernel)
set_option maxRecDepth 20000 in
theorem gX5_roundOf_X5_goNight : GoodIn wsX5_roundOf (wsV RX5 259 RX5 yX5_goNight wsX5_goNight) := goodIn_app (goodIn_of _ (by decide +kernel)) ggX5_roundOf_X5_goNight
set_option maxRecDepth 20000 in
theorem ggX5_roundOf_X5_putBack : GoodIn wsX5_roundOf wsX5_putBack := goodIn_r _ [72, 7, 6, 10, 11, 4, 12, 73, 74, 75, 76, 77, 78, 79, 80, 81, 82, 83, 84, 85, 86, 87, 88, 89, 90, 91, 92, 93, 94, 95, 96, 97, 98, 99, 100, 101, 102, 103, 104, 105, 106, 107, 108, 109, 110, 111, 112] (by decide +kernel) (by decide +kernel)
set_option maxRecDepth 20000 in
theorem gX5_roundOf_X5_putBack : GoodIn wsX5_roundOf (wsV RX5 269 RX5 yX5_putBack wsX5_putBack) := goodIn_app (goodIn_of _ (by decide +kernel)) ggX5_roundOf_X5_putBack
theorem dX5_roundOf_0 : decode cX5_roundOf 0 = .ok (.aload_n 0, 1) := by decide +kernel
theorem dX5_roundOf_1 : decode cX5_roundOf 1 = .ok (.invokevirtual 266, 3) := by decide +kernel
theorem dX5_roundOf_4 : decode cX5_roundOf 4 = .ok (.iconst (-1), 1) := by decide +kernel
theorem dX5_roundOf_5 : decode cX5_roundOf 5 = .ok (.istore_n 1, 1) := by decide +kernel
theorem dX5_roundOf_6 : decode cX5_roundOf 6 = .ok (.iconst 0, 1) := by decide +kernel
theorem dX5_roundOf_7 : decode cX5_roundOf 7 = .ok (.istore_n 2, 1) := by decide +kernel
theorem dX5_roundOf_8 : decode cX5_roundOf 8 = .ok (.iload_n 2, 1) := by decide +kernel
theorem dX5_roundOf_9 : decode cX5_roundOf 9 = .ok (.sipush 500, 3) := by decide +kernel
theorem dX5_roundOf_12 : decode cX5_roundOf 12 = .ok (.if_icmp .gt 64, 3) := by decide +kernel
theorem dX5_roundOf_15 : decode cX5_roundOf 15 = .ok (.iload_n 1, 1) := by decide +kernel
theorem dX5_roundOf_16 : decode cX5_roundOf 16 = .ok (.iconst (-1), 1) := by decide +kernel
theorem dX5_roundOf_17 : decode cX5_roundOf 17 = .ok (.if_icmp .ne 59, 3) := by decide +kernel
theorem dX5_roundOf_20 : decode cX5_roundOf 20 = .ok (.aload_n 0, 1) := by decide +kernel
theorem dX5_roundOf_21 : decode cX5_roundOf 21 = .ok (.iload_n 2, 1) := by decide +kernel
theorem dX5_roundOf_22 : decode cX5_roundOf 22 = .ok (.invokevirtual 276, 3) := by decide +kernel
theorem dX5_roundOf_25 : decode cX5_roundOf 25 = .ok (.iconst 0, 1) := by decide +kernel
theorem dX5_roundOf_26 : decode cX5_roundOf 26 = .ok (.istore_n 3, 1) := by decide +kernel
theorem dX5_roundOf_27 : decode cX5_roundOf 27 = .ok (.iload_n 3, 1) := by decide +kernel
theorem dX5_roundOf_28 : decode cX5_roundOf 28 = .ok (.iload_n 2, 1) := by decide +kernel
theorem dX5_roundOf_29 : decode cX5_roundOf 29 = .ok (.if_icmp .ge 37, 3) := by decide +kernel
theorem dX5_roundOf_32 : decode cX5_roundOf 32 = .ok (.iload_n 1, 1) := by decide +kernel
theorem dX5_roundOf_33 : decode cX5_roundOf 33 = .ok (.iconst (-1), 1) := by decide +kernel
theorem dX5_roundOf_34 : decode cX5_roundOf 34 = .ok (.if_icmp .ne 32, 3) := by decide +kernel
theorem dX5_roundOf_37 : decode cX5_roundOf 37 = .ok (.aload_n 0, 1) := by decide +kernel
theorem dX5_roundOf_38 : decode cX5_roundOf 38 = .ok (.iload_n 3, 1) := by decide +kernel
theorem dX5_roundOf_39 : decode cX5_roundOf 39 = .ok (.iload_n 2, 1) := by decide +kernel
theorem dX5_roundOf_40 : decode cX5_roundOf 40 = .ok (.invokevirtual 279, 3) := by decide +kernel
theorem dX5_roundOf_43 : decode cX5_roundOf 43 = .ok (.ifCond .eq 15, 3) := by decide +kernel
theorem dX5_roundOf_46 : decode cX5_roundOf 46 = .ok (.sipush 501, 3) := by decide +kernel
theorem dX5_roundOf_49 : decode cX5_roundOf 49 = .ok (.iload_n 3, 1) := by decide +kernel
theorem dX5_roundOf_50 : decode cX5_roundOf 50 = .ok (.imul, 1) := by decide +kernel
theorem dX5_roundOf_51 : decode cX5_roundOf 51 = .ok (.iload_n 2, 1) := by decide +kernel
theorem dX5_roundOf_52 : decode cX5_roundOf 52 = .ok (.iadd, 1) := by decide +kernel
theorem dX5_roundOf_53 : decode cX5_roundOf 53 = .ok (.iload_n 3, 1) := by decide +kernel
theorem dX5_roundOf_54 : decode cX5_roundOf 54 = .ok (.isub, 1) := by decide +kernel
theorem dX5_roundOf_55 : decode cX5_roundOf 55 = .ok (.goto 4, 3) := by decide +kernel
theorem dX5_roundOf_58 : decode cX5_roundOf 58 = .ok (.iconst (-1), 1) := by decide +kernel
theorem dX5_roundOf_59 : decode cX5_roundOf 59 = .ok (.istore_n 1, 1) := by decide +kernel
theorem dX5_roundOf_60 : decode cX5_roundOf 60 = .ok (.iinc 3 1, 3) := by decide +kernel
theorem dX5_roundOf_63 : decode cX5_roundOf 63 = .ok (.goto (-36), 3) := by decide +kernel
theorem dX5_roundOf_66 : decode cX5_roundOf 66 = .ok (.aload_n 0, 1) := by decide +kernel
theorem dX5_roundOf_67 : decode cX5_roundOf 67 = .ok (.invokevirtual 259, 3) := by decide +kernel
theorem dX5_roundOf_70 : decode cX5_roundOf 70 = .ok (.iinc 2 1, 3) := by decide +kernel
theorem dX5_roundOf_73 : decode cX5_roundOf 73 = .ok (.goto (-65), 3) := by decide +kernel
theorem dX5_roundOf_76 : decode cX5_roundOf 76 = .ok (.aload_n 0, 1) := by decide +kernel
theorem dX5_roundOf_77 : decode cX5_roundOf 77 = .ok (.invokevirtual 269, 3) := by decide +kernel
theorem dX5_roundOf_80 : decode cX5_roundOf 80 = .ok (.iload_n 1, 1) := by decide +kernel
theorem dX5_roundOf_81 : decode cX5_roundOf 81 = .ok (.ireturn, 1) := by decide +kernel
set_option maxRecDepth 20000 in
theorem ggX5_round_X5_in : GoodIn wsX5_round wsX5_in := goodIn_r _ [4] (by decide +kernel) (by decide +kernel)
set_option maxRecDepth 20000 in
theorem gX5_round_X5_in : GoodIn wsX5_round (va_wsS RX5 81 yX5_in wsX5_in) := goodIn_app (goodIn_of _ (by decide +kernel)) ggX5_round_X5_in
set_option maxRecDepth 20000 in
theorem ggX5_round_X5_roundOf : GoodIn wsX5_round wsX5_roundOf := goodIn_r _ [8, 9, 10, 11, 3, 12, 13, 14, 15, 16, 17, 18, 19, 20, 21, 22, 23, 24, 25, 26, 27, 28, 29, 30, 31, 32, 33, 34, 35, 36, 37, 38, 39, 40, 41, 42, 43, 44, 45, 46, 47, 48, 49, 50, 51, 52, 53, 54, 55, 56, 57, 58, 59, 60, 61, 62, 63, 64, 65, 66, 67, 68, 69, 70, 71, 72, 73, 74, 75, 76, 77, 78, 79, 80, 81, 82, 83, 84, 85, 86, 87, 88, 89, 90, 91, 92, 93, 94, 95, 96, 97, 98, 99, 100, 101, 102, 103, 104, 105, 106, 107, 108, 109, 110, 111, 112, 113, 114, 115, 116, 117, 118, 119] (by decide +kernel) (by decide +kernel)
set_option maxRecDepth 20000 in
theorem gX5_round_X5_roundOf : GoodIn wsX5_round (wsV RX5 282 RX5 yX5_roundOf wsX5_roundOf) := goodIn_app (goodIn_of _ (by decide +kernel)) ggX5_round_X5_roundOf
theorem dX5_round_0 : decode cX5_round 0 = .ok (.iload_n 1, 1) := by decide +kernel
theorem dX5_round_1 : decode cX5_round 1 = .ok (.iconst 0, 1) := by decide +kernel
theorem dX5_round_2 : decode cX5_round 2 = .ok (.iconst 1, 1) := by decide +kernel
theorem dX5_round_3 : decode cX5_round 3 = .ok (.invokestatic 81, 3) := by decide +kernel
theorem dX5_round_6 : decode cX5_round 6 = .ok (.ifCond .ne 6, 3) := by decide +kernel
theorem dX5_round_9 : decode cX5_round 9 = .ok (.bipush (-3), 2) := by decide +kernel
theorem dX5_round_11 : decode cX5_round 11 = .ok (.ireturn, 1) := by decide +kernel
theorem dX5_round_12 : decode cX5_round 12 = .ok (.aload_n 0, 1) := by decide +kernel
theorem dX5_round_13 : decode cX5_round 13 = .ok (.invokevirtual 282, 3) := by decide +kernel
theorem dX5_round_16 : decode cX5_round 16 = .ok (.istore_n 2, 1) := by decide +kernel
theorem dX5_round_17 : decode cX5_round 17 = .ok (.iload_n 2, 1) := by decide +kernel
theorem dX5_round_18 : decode cX5_round 18 = .ok (.iconst (-1), 1) := by decide +kernel
theorem dX5_round_19 : decode cX5_round 19 = .ok (.if_icmp .ne 7, 3) := by decide +kernel
theorem dX5_round_22 : decode cX5_round 22 = .ok (.iconst (-1), 1) := by decide +kernel
theorem dX5_round_23 : decode cX5_round 23 = .ok (.goto 20, 3) := by decide +kernel
theorem dX5_round_26 : decode cX5_round 26 = .ok (.iload_n 1, 1) := by decide +kernel
theorem dX5_round_27 : decode cX5_round 27 = .ok (.ifCond .ne 11, 3) := by decide +kernel
theorem dX5_round_30 : decode cX5_round 30 = .ok (.iload_n 2, 1) := by decide +kernel
theorem dX5_round_31 : decode cX5_round 31 = .ok (.sipush 501, 3) := by decide +kernel
theorem dX5_round_34 : decode cX5_round 34 = .ok (.idiv, 1) := by decide +kernel
theorem dX5_round_35 : decode cX5_round 35 = .ok (.goto 8, 3) := by decide +kernel
theorem dX5_round_38 : decode cX5_round 38 = .ok (.iload_n 2, 1) := by decide +kernel
theorem dX5_round_39 : decode cX5_round 39 = .ok (.sipush 501, 3) := by decide +kernel
theorem dX5_round_42 : decode cX5_round 42 = .ok (.irem, 1) := by decide +kernel
theorem dX5_round_43 : decode cX5_round 43 = .ok (.ireturn, 1) := by decide +kernel
set_option maxRecDepth 20000 in
theorem ggX5_areBeside_X5_standsOn : GoodIn wsX5_areBeside wsX5_standsOn := goodIn_r _ [6, 7, 8, 9, 10, 11, 5, 12, 1, 13, 14, 15, 16, 17, 18, 19, 20, 21, 22, 23, 24, 25, 26, 27, 28, 29, 30, 31, 32, 33, 34, 35, 36, 37, 38, 39, 40, 41, 42, 43, 44, 45, 46, 47, 48, 49, 50, 51, 52] (by decide +kernel) (by decide +kernel)
set_option maxRecDepth 20000 in
theorem gX5_areBeside_X5_standsOn : GoodIn wsX5_areBeside (wsV RX5 222 RX5 yX5_standsOn wsX5_standsOn) := goodIn_app (goodIn_of _ (by decide +kernel)) ggX5_areBeside_X5_standsOn
set_option maxRecDepth 20000 in
theorem ggX5_areBeside_X5_next : GoodIn wsX5_areBeside wsX5_next := goodIn_r _ [12, 1, 13, 14, 15, 16, 17, 18, 19, 20, 21, 22, 23, 24, 25, 26, 27, 28, 29, 30, 31, 32, 33, 34, 35, 36, 37, 38, 39, 40, 41, 42, 43, 44, 45, 46, 47, 48, 49, 50, 51, 52] (by decide +kernel) (by decide +kernel)
set_option maxRecDepth 20000 in
theorem gX5_areBeside_X5_next : GoodIn wsX5_areBeside (wsV RX5 215 RX5 yX5_next wsX5_next) := goodIn_app (goodIn_of _ (by decide +kernel)) ggX5_areBeside_X5_next
theorem dX5_areBeside_0 : decode cX5_areBeside 0 = .ok (.iconst 0, 1) := by decide +kernel
theorem dX5_areBeside_1 : decode cX5_areBeside 1 = .ok (.istore_n 3, 1) := by decide +kernel
theorem dX5_areBeside_2 : decode cX5_areBeside 2 = .ok (.iconst 0, 1) := by decide +kernel
theorem dX5_areBeside_3 : decode cX5_areBeside 3 = .ok (.istore 4, 2) := by decide +kernel
theorem dX5_areBeside_5 : decode cX5_areBeside 5 = .ok (.iload 4, 2) := by decide +kernel
theorem dX5_areBeside_7 : decode cX5_areBeside 7 = .ok (.aload_n 0, 1) := by decide +kernel
theorem dX5_areBeside_8 : decode cX5_areBeside 8 = .ok (.getfield 7, 3) := by decide +kernel
theorem dX5_areBeside_11 : decode cX5_areBeside 11 = .ok (.if_icmp .ge 59, 3) := by decide +kernel
theorem dX5_areBeside_14 : decode cX5_areBeside 14 = .ok (.iload_n 3, 1) := by decide +kernel
theorem dX5_areBeside_15 : decode cX5_areBeside 15 = .ok (.ifCond .ne 43, 3) := by decide +kernel
theorem dX5_areBeside_18 : decode cX5_areBeside 18 = .ok (.aload_n 0, 1) := by decide +kernel
theorem dX5_areBeside_19 : decode cX5_areBeside 19 = .ok (.iload_n 1, 1) := by decide +kernel
theorem dX5_areBeside_20 : decode cX5_areBeside 20 = .ok (.iload 4, 2) := by decide +kernel
theorem dX5_areBeside_22 : decode cX5_areBeside 22 = .ok (.invokevirtual 222, 3) := by decide +kernel
theorem dX5_areBeside_25 : decode cX5_areBeside 25 = .ok (.ifCond .eq 37, 3) := by decide +kernel
theorem dX5_areBeside_28 : decode cX5_areBeside 28 = .ok (.aload_n 0, 1) := by decide +kernel
theorem dX5_areBeside_29 : decode cX5_areBeside 29 = .ok (.iload_n 2, 1) := by decide +kernel
theorem dX5_areBeside_30 : decode cX5_areBeside 30 = .ok (.aload_n 0, 1) := by decide +kernel
theorem dX5_areBeside_31 : decode cX5_areBeside 31 = .ok (.iload 4, 2) := by decide +kernel
theorem dX5_areBeside_33 : decode cX5_areBeside 33 = .ok (.iconst 1, 1) := by decide +kernel
theorem dX5_areBeside_34 : decode cX5_areBeside 34 = .ok (.invokevirtual 215, 3) := by decide +kernel
theorem dX5_areBeside_37 : decode cX5_areBeside 37 = .ok (.invokevirtual 222, 3) := by decide +kernel
theorem dX5_areBeside_40 : decode cX5_areBeside 40 = .ok (.ifCond .ne 18, 3) := by decide +kernel
theorem dX5_areBeside_43 : decode cX5_areBeside 43 = .ok (.aload_n 0, 1) := by decide +kernel
theorem dX5_areBeside_44 : decode cX5_areBeside 44 = .ok (.iload_n 2, 1) := by decide +kernel
theorem dX5_areBeside_45 : decode cX5_areBeside 45 = .ok (.aload_n 0, 1) := by decide +kernel
theorem dX5_areBeside_46 : decode cX5_areBeside 46 = .ok (.iload 4, 2) := by decide +kernel
theorem dX5_areBeside_48 : decode cX5_areBeside 48 = .ok (.iconst (-1), 1) := by decide +kernel
theorem dX5_areBeside_49 : decode cX5_areBeside 49 = .ok (.invokevirtual 215, 3) := by decide +kernel
theorem dX5_areBeside_52 : decode cX5_areBeside 52 = .ok (.invokevirtual 222, 3) := by decide +kernel
theorem dX5_areBeside_55 : decode cX5_areBeside 55 = .ok (.ifCond .eq 7, 3) := by decide +kernel
theorem dX5_areBeside_58 : decode cX5_areBeside 58 = .ok (.iconst 1, 1) := by decide +kernel
theorem dX5_areBeside_59 : decode cX5_areBeside 59 = .ok (.goto 4, 3) := by decide +kernel
theorem dX5_areBeside_62 : decode cX5_areBeside 62 = .ok (.iconst 0, 1) := by decide +kernel
theorem dX5_areBeside_63 : decode cX5_areBeside 63 = .ok (.istore_n 3, 1) := by decide +kernel
theorem dX5_areBeside_64 : decode cX5_areBeside 64 = .ok (.iinc 4 1, 3) := by decide +kernel
theorem dX5_areBeside_67 : decode cX5_areBeside 67 = .ok (.goto (-62), 3) := by decide +kernel
theorem dX5_areBeside_70 : decode cX5_areBeside 70 = .ok (.iload_n 3, 1) := by decide +kernel
theorem dX5_areBeside_71 : decode cX5_areBeside 71 = .ok (.ireturn, 1) := by decide +kernel
set_option maxRecDepth 20000 in
theorem ggX5_doTouch_X5_areBeside : GoodIn wsX5_doTouch wsX5_areBeside := goodIn_r _ [7, 1, 8, 9, 10, 6, 11, 2, 12, 13, 14, 15, 16, 17, 18, 19, 20, 21, 22, 23, 24, 25, 26, 27, 28, 29, 30, 31, 32, 33, 34, 35, 36, 37, 38, 39, 40, 41, 42, 43, 44, 45, 46, 47, 48, 49, 50, 51, 52, 53, 54, 55, 56] (by decide +kernel) (by decide +kernel)
set_option maxRecDepth 20000 in
theorem gX5_doTouch_X5_areBeside : GoodIn wsX5_doTouch (wsV RX5 285 RX5 yX5_areBeside wsX5_areBeside) := goodIn_app (goodIn_of _ (by decide +kernel)) ggX5_doTouch_X5_areBeside
set_option maxRecDepth 20000 in
theorem ggX5_doTouch_X5_next : GoodIn wsX5_doTouch wsX5_next := goodIn_r _ [16, 1, 17, 18, 19, 20, 21, 22, 23, 24, 25, 26, 27, 28, 29, 30, 31, 32, 33, 34, 35, 36, 37, 38, 39, 40, 41, 42, 43, 44, 45, 46, 47, 48, 49, 50, 51, 52, 53, 54, 55, 56] (by decide +kernel) (by decide +kernel)
set_option maxRecDepth 20000 in
theorem gX5_doTouch_X5_next : GoodIn wsX5_doTouch (wsV RX5 215 RX5 yX5_next wsX5_next) := goodIn_app (goodIn_of _ (by decide +kernel)) ggX5_doTouch_X5_next
theorem dX5_doTouch_0 : decode cX5_doTouch 0 = .ok (.iload_n 3, 1) := by decide +kernel
theorem dX5_doTouch_1 : decode cX5_doTouch 1 = .ok (.ifCond .ne 10, 3) := by decide +kernel
theorem dX5_doTouch_4 : decode cX5_doTouch 4 = .ok (.aload_n 0, 1) := by decide +kernel
theorem dX5_doTouch_5 : decode cX5_doTouch 5 = .ok (.iload_n 1, 1) := by decide +kernel
theorem dX5_doTouch_6 : decode cX5_doTouch 6 = .ok (.iload_n 2, 1) := by decide +kernel
theorem dX5_doTouch_7 : decode cX5_doTouch 7 = .ok (.invokevirtual 285, 3) := by decide +kernel
theorem dX5_doTouch_10 : decode cX5_doTouch 10 = .ok (.ireturn, 1) := by decide +kernel
theorem dX5_doTouch_11 : decode cX5_doTouch 11 = .ok (.aload_n 0, 1) := by decide +kernel
theorem dX5_doTouch_12 : decode cX5_doTouch 12 = .ok (.getfield 7, 3) := by decide +kernel
theorem dX5_doTouch_15 : decode cX5_doTouch 15 = .ok (.iconst 2, 1) := by decide +kernel
theorem dX5_doTouch_16 : decode cX5_doTouch 16 = .ok (.irem, 1) := by decide +kernel
theorem dX5_doTouch_17 : decode cX5_doTouch 17 = .ok (.ifCond .ne 32, 3) := by decide +kernel
theorem dX5_doTouch_20 : decode cX5_doTouch 20 = .ok (.aload_n 0, 1) := by decide +kernel
theorem dX5_doTouch_21 : decode cX5_doTouch 21 = .ok (.aload_n 0, 1) := by decide +kernel
theorem dX5_doTouch_22 : decode cX5_doTouch 22 = .ok (.getfield 38, 3) := by decide +kernel
theorem dX5_doTouch_25 : decode cX5_doTouch 25 = .ok (.iload_n 1, 1) := by decide +kernel
theorem dX5_doTouch_26 : decode cX5_doTouch 26 = .ok (.iaload, 1) := by decide +kernel
theorem dX5_doTouch_27 : decode cX5_doTouch 27 = .ok (.aload_n 0, 1) := by decide +kernel
theorem dX5_doTouch_28 : decode cX5_doTouch 28 = .ok (.getfield 7, 3) := by decide +kernel
theorem dX5_doTouch_31 : decode cX5_doTouch 31 = .ok (.iconst 2, 1) := by decide +kernel
theorem dX5_doTouch_32 : decode cX5_doTouch 32 = .ok (.idiv, 1) := by decide +kernel
theorem dX5_doTouch_33 : decode cX5_doTouch 33 = .ok (.invokevirtual 215, 3) := by decide +kernel
theorem dX5_doTouch_36 : decode cX5_doTouch 36 = .ok (.aload_n 0, 1) := by decide +kernel
theorem dX5_doTouch_37 : decode cX5_doTouch 37 = .ok (.getfield 38, 3) := by decide +kernel
theorem dX5_doTouch_40 : decode cX5_doTouch 40 = .ok (.iload_n 2, 1) := by decide +kernel
theorem dX5_doTouch_41 : decode cX5_doTouch 41 = .ok (.iaload, 1) := by decide +kernel
theorem dX5_doTouch_42 : decode cX5_doTouch 42 = .ok (.if_icmp .ne 7, 3) := by decide +kernel
theorem dX5_doTouch_45 : decode cX5_doTouch 45 = .ok (.iconst 1, 1) := by decide +kernel
theorem dX5_doTouch_46 : decode cX5_doTouch 46 = .ok (.goto 4, 3) := by decide +kernel
theorem dX5_doTouch_49 : decode cX5_doTouch 49 = .ok (.iconst 0, 1) := by decide +kernel
theorem dX5_doTouch_50 : decode cX5_doTouch 50 = .ok (.ireturn, 1) := by decide +kernel
set_option maxRecDepth 20000 in
theorem ggX5_whyNot_X5_isHouse : GoodIn wsX5_whyNot wsX5_isHouse := goodIn_r _ [5, 6, 7, 8, 4, 9, 10, 11, 12, 13, 14, 15, 16, 17, 18, 19, 20, 21, 22, 23, 24, 25, 26, 27, 28, 29, 30, 31, 32, 33, 34, 35, 36, 37, 38, 39, 40, 41, 42, 43, 44, 45, 46, 47, 48, 49] (by decide +kernel) (by decide +kernel)
set_option maxRecDepth 20000 in
theorem gX5_whyNot_X5_isHouse : GoodIn wsX5_whyNot (wsV RX5 239 RX5 yX5_isHouse wsX5_isHouse) := goodIn_app (goodIn_of _ (by decide +kernel)) ggX5_whyNot_X5_isHouse
theorem dX5_whyNot_0 : decode cX5_whyNot 0 = .ok (.aload_n 0, 1) := by decide +kernel
theorem dX5_whyNot_1 : decode cX5_whyNot 1 = .ok (.iload_n 1, 1) := by decide +kernel
theorem dX5_whyNot_2 : decode cX5_whyNot 2 = .ok (.invokevirtual 239, 3) := by decide +kernel
theorem dX5_whyNot_5 : decode cX5_whyNot 5 = .ok (.ifCond .eq 11, 3) := by decide +kernel
theorem dX5_whyNot_8 : decode cX5_whyNot 8 = .ok (.aload_n 0, 1) := by decide +kernel
theorem dX5_whyNot_9 : decode cX5_whyNot 9 = .ok (.iload_n 2, 1) := by decide +kernel
theorem dX5_whyNot_10 : decode cX5_whyNot 10 = .ok (.invokevirtual 239, 3) := by decide +kernel
theorem dX5_whyNot_13 : decode cX5_whyNot 13 = .ok (.ifCond .ne 8, 3) := by decide +kernel
theorem dX5_whyNot_16 : decode cX5_whyNot 16 = .ok (.bipush (-2), 2) := by decide +kernel
theorem dX5_whyNot_18 : decode cX5_whyNot 18 = .ok (.goto 18, 3) := by decide +kernel
theorem dX5_whyNot_21 : decode cX5_whyNot 21 = .ok (.iload_n 1, 1) := by decide +kernel
theorem dX5_whyNot_22 : decode cX5_whyNot 22 = .ok (.iload_n 2, 1) := by decide +kernel
theorem dX5_whyNot_23 : decode cX5_whyNot 23 = .ok (.if_icmp .eq 7, 3) := by decide +kernel
theorem dX5_whyNot_26 : decode cX5_whyNot 26 = .ok (.iload_n 3, 1) := by decide +kernel
theorem dX5_whyNot_27 : decode cX5_whyNot 27 = .ok (.ifCond .ne 8, 3) := by decide +kernel
theorem dX5_whyNot_30 : decode cX5_whyNot 30 = .ok (.bipush (-3), 2) := by decide +kernel
theorem dX5_whyNot_32 : decode cX5_whyNot 32 = .ok (.goto 4, 3) := by decide +kernel
theorem dX5_whyNot_35 : decode cX5_whyNot 35 = .ok (.iconst 0, 1) := by decide +kernel
theorem dX5_whyNot_36 : decode cX5_whyNot 36 = .ok (.ireturn, 1) := by decide +kernel
set_option maxRecDepth 20000 in
theorem ggX5_touch_X5_in : GoodIn wsX5_touch wsX5_in := goodIn_r _ [4] (by decide +kernel) (by decide +kernel)
set_option maxRecDepth 20000 in
theorem gX5_touch_X5_in : GoodIn wsX5_touch (va_wsS RX5 81 yX5_in wsX5_in) := goodIn_app (goodIn_of _ (by decide +kernel)) ggX5_touch_X5_in
set_option maxRecDepth 20000 in
theorem ggX5_touch_X5_whyNot : GoodIn wsX5_touch wsX5_whyNot := goodIn_r _ [8, 9, 10, 11, 3, 12, 13, 1, 2, 4, 33, 34, 35, 36, 37, 38, 39, 40, 41, 42, 43, 44, 45, 46, 47, 48, 49, 50, 51, 52, 53, 54, 55, 56, 57, 58, 59, 60, 61, 62, 63, 64, 65, 66, 67, 68, 69, 70, 71, 72] (by decide +kernel) (by decide +kernel)
set_option maxRecDepth 20000 in
theorem gX5_touch_X5_whyNot : GoodIn wsX5_touch (wsV RX5 288 RX5 yX5_whyNot wsX5_whyNot) := goodIn_app (goodIn_of _ (by decide +kernel)) ggX5_touch_X5_whyNot
set_option maxRecDepth 20000 in
theorem ggX5_touch_X5_doTouch : GoodIn wsX5_touch wsX5_doTouch := goodIn_r _ [17, 18, 19, 20, 21, 22, 3, 23, 24, 25, 26, 27, 28, 29, 30, 31, 32, 33, 34, 35, 36, 37, 38, 39, 40, 41, 42, 43, 44, 45, 46, 47, 48, 49, 50, 51, 52, 53, 54, 55, 56, 57, 58, 59, 60, 61, 62, 63, 64, 65, 66, 67, 68, 69, 70, 71, 72] (by decide +kernel) (by decide +kernel)
set_option maxRecDepth 20000 in
theorem gX5_touch_X5_doTouch : GoodIn wsX5_touch (wsV RX5 292 RX5 yX5_doTouch wsX5_doTouch) := goodIn_app (goodIn_of _ (by decide +kernel)) ggX5_touch_X5_doTouch
theorem dX5_touch_0 : decode cX5_touch 0 = .ok (.aload_n 0, 1) := by decide +kernel
theorem dX5_touch_1 : decode cX5_touch 1 = .ok (.iload_n 1, 1) := by decide +kernel
theorem dX5_touch_2 : decode cX5_touch 2 = .ok (.iload_n 2, 1) := by decide +kernel
theorem dX5_touch_3 : decode cX5_touch 3 = .ok (.iload_n 3, 1) := by decide +kernel
theorem dX5_touch_4 : decode cX5_touch 4 = .ok (.iconst 0, 1) := by decide +kernel
theorem dX5_touch_5 : decode cX5_touch 5 = .ok (.iconst 1, 1) := by decide +kernel
theorem dX5_touch_6 : decode cX5_touch 6 = .ok (.invokestatic 81, 3) := by decide +kernel
theorem dX5_touch_9 : decode cX5_touch 9 = .ok (.invokevirtual 288, 3) := by decide +kernel
theorem dX5_touch_12 : decode cX5_touch 12 = .ok (.istore 4, 2) := by decide +kernel
theorem dX5_touch_14 : decode cX5_touch 14 = .ok (.iload 4, 2) := by decide +kernel
theorem dX5_touch_16 : decode cX5_touch 16 = .ok (.ifCond .eq 8, 3) := by decide +kernel
theorem dX5_touch_19 : decode cX5_touch 19 = .ok (.iload 4, 2) := by decide +kernel
theorem dX5_touch_21 : decode cX5_touch 21 = .ok (.goto 18, 3) := by decide +kernel
theorem dX5_touch_24 : decode cX5_touch 24 = .ok (.aload_n 0, 1) := by decide +kernel
theorem dX5_touch_25 : decode cX5_touch 25 = .ok (.iload_n 1, 1) := by decide +kernel
theorem dX5_touch_26 : decode cX5_touch 26 = .ok (.iload_n 2, 1) := by decide +kernel
theorem dX5_touch_27 : decode cX5_touch 27 = .ok (.iload_n 3, 1) := by decide +kernel
theorem dX5_touch_28 : decode cX5_touch 28 = .ok (.invokevirtual 292, 3) := by decide +kernel
theorem dX5_touch_31 : decode cX5_touch 31 = .ok (.ifCond .eq 7, 3) := by decide +kernel
theorem dX5_touch_34 : decode cX5_touch 34 = .ok (.iconst 1, 1) := by decide +kernel
theorem dX5_touch_35 : decode cX5_touch 35 = .ok (.goto 4, 3) := by decide +kernel
theorem dX5_touch_38 : decode cX5_touch 38 = .ok (.iconst 0, 1) := by decide +kernel
theorem dX5_touch_39 : decode cX5_touch 39 = .ok (.ireturn, 1) := by decide +kernel
set_option maxRecDepth 20000 in
theorem ggX5_when_X5_in : GoodIn wsX5_when wsX5_in := goodIn_r _ [4] (by decide +kernel) (by decide +kernel)
set_option maxRecDepth 20000 in
theorem gX5_when_X5_in : GoodIn wsX5_when (va_wsS RX5 81 yX5_in wsX5_in) := goodIn_app (goodIn_of _ (by decide +kernel)) ggX5_when_X5_in
set_option maxRecDepth 20000 in
theorem ggX5_when_X5_whyNot : GoodIn wsX5_when wsX5_whyNot := goodIn_r _ [8, 9, 10, 11, 3, 12, 13, 1, 2, 4, 83, 84, 85, 86, 87, 88, 89, 90, 91, 92, 93, 94, 95, 96, 97, 98, 99, 100, 101, 102, 103, 104, 105, 106, 107, 108, 109, 110, 111, 112, 113, 114, 115, 116, 117, 118, 119, 120, 121, 122] (by decide +kernel) (by decide +kernel)
set_option maxRecDepth 20000 in
theorem gX5_when_X5_whyNot : GoodIn wsX5_when (wsV RX5 288 RX5 yX5_whyNot wsX5_whyNot) := goodIn_app (goodIn_of _ (by decide +kernel)) ggX5_when_X5_whyNot
set_option maxRecDepth 20000 in
theorem ggX5_when_X5_putAside : GoodIn wsX5_when wsX5_putAside := goodIn_r _ [17, 18, 19, 20, 21, 22, 23, 3, 24, 83, 84, 85, 86, 87, 88, 89, 90, 91, 92, 93, 94, 95, 96, 97, 98, 99, 100, 101, 102, 103, 104, 105, 106, 107, 108, 109, 110, 111, 112, 113, 114, 115, 116, 117, 118, 119, 120, 121, 122] (by decide +kernel) (by decide +kernel)
set_option maxRecDepth 20000 in
theorem gX5_when_X5_putAside : GoodIn wsX5_when (wsV RX5 266 RX5 yX5_putAside wsX5_putAside) := goodIn_app (goodIn_of _ (by decide +kernel)) ggX5_when_X5_putAside
set_option maxRecDepth 20000 in
theorem ggX5_when_X5_doTouch : GoodIn wsX5_when wsX5_doTouch := goodIn_r _ [28, 29, 18, 30, 31, 32, 3, 33, 34, 35, 36, 37, 38, 39, 40, 41, 42, 83, 84, 85, 86, 87, 88, 89, 90, 91, 92, 93, 94, 95, 96, 97, 98, 99, 100, 101, 102, 103, 104, 105, 106, 107, 108, 109, 110, 111, 112, 113, 114, 115, 116, 117, 118, 119, 120, 121, 122] (by decide +kernel) (by decide +kernel)
set_option maxRecDepth 20000 in
theorem gX5_when_X5_doTouch : GoodIn wsX5_when (wsV RX5 292 RX5 yX5_doTouch wsX5_doTouch) := goodIn_app (goodIn_of _ (by decide +kernel)) ggX5_when_X5_doTouch
set_option maxRecDepth 20000 in
theorem ggX5_when_X5_goNight : GoodIn wsX5_when wsX5_goNight := goodIn_r _ [46, 21, 47, 18, 13, 48, 49, 50, 3, 51, 52, 53, 54, 55, 56, 57, 38, 58, 59, 60, 61, 62, 63, 39, 40, 41, 42, 29, 64, 65, 66, 67, 68, 69, 70, 71, 72, 73, 74, 75, 76, 77, 78, 83, 84, 85, 86, 87, 88, 89, 90, 91, 92, 93, 94, 95, 96, 97, 98, 99, 100, 101, 102, 103, 104, 105, 106, 107, 108, 109, 110, 111, 112, 113, 114, 115, 116, 117, 118, 119, 120, 121, 122] (by decide +kernel) (by decide +kernel)
set_option maxRecDepth 20000 in
theorem gX5_when_X5_goNight : GoodIn wsX5_when (wsV RX5 259 RX5 yX5_goNight wsX5_goNight) := goodIn_app (goodIn_of _ (by decide +kernel)) ggX5_when_X5_goNight
set_option maxRecDepth 20000 in
theorem ggX5_when_X5_putBack : GoodIn wsX5_when wsX5_putBack := goodIn_r _ [82, 19, 18, 22, 23, 3, 24, 83, 84, 85, 86, 87, 88, 89, 90, 91, 92, 93, 94, 95, 96, 97, 98, 99, 100, 101, 102, 103, 104, 105, 106, 107, 108, 109, 110, 111, 112, 113, 114, 115, 116, 117, 118, 119, 120, 121, 122] (by decide +kernel) (by decide +kernel)
set_option maxRecDepth 20000 in
theorem gX5_when_X5_putBack : GoodIn wsX5_when (wsV RX5 269 RX5 yX5_putBack wsX5_putBack) := goodIn_app (goodIn_of _ (by decide +kernel)) ggX5_when_X5_putBack
theorem dX5_when_0 : decode cX5_when 0 = .ok (.aload_n 0, 1) := by decide +kernel
theorem dX5_when_1 : decode cX5_when 1 = .ok (.iload_n 1, 1) := by decide +kernel
theorem dX5_when_2 : decode cX5_when 2 = .ok (.iload_n 2, 1) := by decide +kernel
theorem dX5_when_3 : decode cX5_when 3 = .ok (.iload_n 3, 1) := by decide +kernel
theorem dX5_when_4 : decode cX5_when 4 = .ok (.iconst 0, 1) := by decide +kernel
theorem dX5_when_5 : decode cX5_when 5 = .ok (.iconst 1, 1) := by decide +kernel
theorem dX5_when_6 : decode cX5_when 6 = .ok (.invokestatic 81, 3) := by decide +kernel
theorem dX5_when_9 : decode cX5_when 9 = .ok (.invokevirtual 288, 3) := by decide +kernel
theorem dX5_when_12 : decode cX5_when 12 = .ok (.istore 4, 2) := by decide +kernel
theorem dX5_when_14 : decode cX5_when 14 = .ok (.iload 4, 2) := by decide +kernel
theorem dX5_when_16 : decode cX5_when 16 = .ok (.ifCond .eq 6, 3) := by decide +kernel
theorem dX5_when_19 : decode cX5_when 19 = .ok (.iload 4, 2) := by decide +kernel
theorem dX5_when_21 : decode cX5_when 21 = .ok (.ireturn, 1) := by decide +kernel
theorem dX5_when_22 : decode cX5_when 22 = .ok (.aload_n 0, 1) := by decide +kernel
theorem dX5_when_23 : decode cX5_when 23 = .ok (.invokevirtual 266, 3) := by decide +kernel
theorem dX5_when_26 : decode cX5_when 26 = .ok (.iconst (-1), 1) := by decide +kernel
theorem dX5_when_27 : decode cX5_when 27 = .ok (.istore 5, 2) := by decide +kernel
theorem dX5_when_29 : decode cX5_when 29 = .ok (.iconst 0, 1) := by decide +kernel
theorem dX5_when_30 : decode cX5_when 30 = .ok (.istore 6, 2) := by decide +kernel
theorem dX5_when_32 : decode cX5_when 32 = .ok (.iload 6, 2) := by decide +kernel
theorem dX5_when_34 : decode cX5_when 34 = .ok (.sipush 400, 3) := by decide +kernel
theorem dX5_when_37 : decode cX5_when 37 = .ok (.if_icmp .ge 37, 3) := by decide +kernel
theorem dX5_when_40 : decode cX5_when 40 = .ok (.iload 5, 2) := by decide +kernel
theorem dX5_when_42 : decode cX5_when 42 = .ok (.iconst (-1), 1) := by decide +kernel
theorem dX5_when_43 : decode cX5_when 43 = .ok (.if_icmp .ne 31, 3) := by decide +kernel
theorem dX5_when_46 : decode cX5_when 46 = .ok (.aload_n 0, 1) := by decide +kernel
theorem dX5_when_47 : decode cX5_when 47 = .ok (.iload_n 1, 1) := by decide +kernel
theorem dX5_when_48 : decode cX5_when 48 = .ok (.iload_n 2, 1) := by decide +kernel
theorem dX5_when_49 : decode cX5_when 49 = .ok (.iload_n 3, 1) := by decide +kernel
theorem dX5_when_50 : decode cX5_when 50 = .ok (.invokevirtual 292, 3) := by decide +kernel
theorem dX5_when_53 : decode cX5_when 53 = .ok (.ifCond .eq 8, 3) := by decide +kernel
theorem dX5_when_56 : decode cX5_when 56 = .ok (.iload 6, 2) := by decide +kernel
theorem dX5_when_58 : decode cX5_when 58 = .ok (.goto 4, 3) := by decide +kernel
theorem dX5_when_61 : decode cX5_when 61 = .ok (.iconst (-1), 1) := by decide +kernel
theorem dX5_when_62 : decode cX5_when 62 = .ok (.istore 5, 2) := by decide +kernel
theorem dX5_when_64 : decode cX5_when 64 = .ok (.aload_n 0, 1) := by decide +kernel
theorem dX5_when_65 : decode cX5_when 65 = .ok (.invokevirtual 259, 3) := by decide +kernel
theorem dX5_when_68 : decode cX5_when 68 = .ok (.iinc 6 1, 3) := by decide +kernel
theorem dX5_when_71 : decode cX5_when 71 = .ok (.goto (-39), 3) := by decide +kernel
theorem dX5_when_74 : decode cX5_when 74 = .ok (.aload_n 0, 1) := by decide +kernel
theorem dX5_when_75 : decode cX5_when 75 = .ok (.invokevirtual 269, 3) := by decide +kernel
theorem dX5_when_78 : decode cX5_when 78 = .ok (.iload 5, 2) := by decide +kernel
theorem dX5_when_80 : decode cX5_when 80 = .ok (.ireturn, 1) := by decide +kernel
set_option maxRecDepth 20000 in
theorem ggX5_areDays_X5_in : GoodIn wsX5_areDays wsX5_in := goodIn_r _ [4] (by decide +kernel) (by decide +kernel)
set_option maxRecDepth 20000 in
theorem gX5_areDays_X5_in : GoodIn wsX5_areDays (va_wsS RX5 81 yX5_in wsX5_in) := goodIn_app (goodIn_of _ (by decide +kernel)) ggX5_areDays_X5_in
theorem dX5_areDays_0 : decode cX5_areDays 0 = .ok (.iload_n 0, 1) := by decide +kernel
theorem dX5_areDays_1 : decode cX5_areDays 1 = .ok (.iconst 1, 1) := by decide +kernel
theorem dX5_areDays_2 : decode cX5_areDays 2 = .ok (.bipush 99, 2) := by decide +kernel
theorem dX5_areDays_4 : decode cX5_areDays 4 = .ok (.invokestatic 81, 3) := by decide +kernel
theorem dX5_areDays_7 : decode cX5_areDays 7 = .ok (.ireturn, 1) := by decide +kernel
set_option maxRecDepth 20000 in
theorem ggX5_often_X5_in : GoodIn wsX5_often wsX5_in := goodIn_r _ [4] (by decide +kernel) (by decide +kernel)
set_option maxRecDepth 20000 in
theorem gX5_often_X5_in : GoodIn wsX5_often (va_wsS RX5 81 yX5_in wsX5_in) := goodIn_app (goodIn_of _ (by decide +kernel)) ggX5_often_X5_in
set_option maxRecDepth 20000 in
theorem ggX5_often_X5_areDays : GoodIn wsX5_often wsX5_areDays := goodIn_r _ [7, 1, 2, 3, 4] (by decide +kernel) (by decide +kernel)
set_option maxRecDepth 20000 in
theorem gX5_often_X5_areDays : GoodIn wsX5_often (va_wsS RX5 295 yX5_areDays wsX5_areDays) := goodIn_app (goodIn_of _ (by decide +kernel)) ggX5_often_X5_areDays
set_option maxRecDepth 20000 in
theorem ggX5_often_X5_whyNot : GoodIn wsX5_often wsX5_whyNot := goodIn_r _ [11, 12, 13, 14, 3, 15, 16, 1, 2, 4, 86, 87, 88, 89, 90, 91, 92, 93, 94, 95, 96, 97, 98, 99, 100, 101, 102, 103, 104, 105, 106, 107, 108, 109, 110, 111, 112, 113, 114, 115, 116, 117, 118, 119, 120, 121, 122, 123, 124, 125] (by decide +kernel) (by decide +kernel)
set_option maxRecDepth 20000 in
theorem gX5_often_X5_whyNot : GoodIn wsX5_often (wsV RX5 288 RX5 yX5_whyNot wsX5_whyNot) := goodIn_app (goodIn_of _ (by decide +kernel)) ggX5_often_X5_whyNot
set_option maxRecDepth 20000 in
theorem ggX5_often_X5_putAside : GoodIn wsX5_often wsX5_putAside := goodIn_r _ [20, 21, 22, 23, 24, 25, 26, 3, 27, 86, 87, 88, 89, 90, 91, 92, 93, 94, 95, 96, 97, 98, 99, 100, 101, 102, 103, 104, 105, 106, 107, 108, 109, 110, 111, 112, 113, 114, 115, 116, 117, 118, 119, 120, 121, 122, 123, 124, 125] (by decide +kernel) (by decide +kernel)
set_option maxRecDepth 20000 in
theorem gX5_often_X5_putAside : GoodIn wsX5_often (wsV RX5 266 RX5 yX5_putAside wsX5_putAside) := goodIn_app (goodIn_of _ (by decide +kernel)) ggX5_often_X5_putAside
set_option maxRecDepth 20000 in
theorem ggX5_often_X5_doTouch : GoodIn wsX5_often wsX5_doTouch := goodIn_r _ [31, 32, 21, 33, 34, 35, 3, 36, 37, 38, 39, 40, 41, 42, 43, 44, 45, 86, 87, 88, 89, 90, 91, 92, 93, 94, 95, 96, 97, 98, 99, 100, 101, 102, 103, 104, 105, 106, 107, 108, 109, 110, 111, 112, 113, 114, 115, 116, 117, 118, 119, 120, 121, 122, 123, 124, 125] (by decide +kernel) (by decide +kernel)
set_option maxRecDepth 20000 in
theorem gX5_often_X5_doTouch : GoodIn wsX5_often (wsV RX5 292 RX5 yX5_doTouch wsX5_doTouch) := goodIn_app (goodIn_of _ (by decide +kernel)) ggX5_often_X5_doTouch
set_option maxRecDepth 20000 in
theorem ggX5_often_X5_goNight : GoodIn wsX5_often wsX5_goNight := goodIn_r _ [49, 24, 50, 21, 16, 51, 52, 53, 3, 54, 55, 56, 57, 58, 59, 60, 41, 61, 62, 63, 64, 65, 66, 42, 43, 44, 45, 32, 67, 68, 69, 70, 71, 72, 73, 74, 75, 76, 77, 78, 79, 80, 81, 86, 87, 88, 89, 90, 91, 92, 93, 94, 95, 96, 97, 98, 99, 100, 101, 102, 103, 104, 105, 106, 107, 108, 109, 110, 111, 112, 113, 114, 115, 116, 117, 118, 119, 120, 121, 122, 123, 124, 125] (by decide +kernel) (by decide +kernel)
set_option maxRecDepth 20000 in
theorem gX5_often_X5_goNight : GoodIn wsX5_often (wsV RX5 259 RX5 yX5_goNight wsX5_goNight) := goodIn_app (goodIn_of _ (by decide +kernel)) ggX5_often_X5_goNight
set_option maxRecDepth 20000 in
theorem ggX5_often_X5_putBack : GoodIn wsX5_often wsX5_putBack := goodIn_r _ [85, 22, 21, 25, 26, 3, 27, 86, 87, 88, 89, 90, 91, 92, 93, 94, 95, 96, 97, 98, 99, 100, 101, 102, 103, 104, 105, 106, 107, 108, 109, 110, 111, 112, 113, 114, 115, 116, 117, 118, 119, 120, 121, 122, 123, 124, 125] (by decide +kernel) (by decide +kernel)
set_option maxRecDepth 20000 in
theorem gX5_often_X5_putBack : GoodIn wsX5_often (wsV RX5 269 RX5 yX5_putBack wsX5_putBack) := goodIn_app (goodIn_of _ (by decide +kernel)) ggX5_often_X5_putBack
theorem dX5_often_0 : decode cX5_often 0 = .ok (.aload_n 0, 1) := by decide +kernel
theorem dX5_often_1 : decode cX5_often 1 = .ok (.iload_n 1, 1) := by decide +kernel
theorem dX5_often_2 : decode cX5_often 2 = .ok (.iload_n 2, 1) := by decide +kernel
theorem dX5_often_3 : decode cX5_often 3 = .ok (.iload_n 3, 1) := by decide +kernel
theorem dX5_often_4 : decode cX5_often 4 = .ok (.iconst 0, 1) := by decide +kernel
theorem dX5_often_5 : decode cX5_often 5 = .ok (.iconst 1, 1) := by decide +kernel
theorem dX5_often_6 : decode cX5_often 6 = .ok (.invokestatic 81, 3) := by decide +kernel
theorem dX5_often_9 : decode cX5_often 9 = .ok (.ifCond .eq 15, 3) := by decide +kernel
theorem dX5_often_12 : decode cX5_often 12 = .ok (.iload 4, 2) := by decide +kernel
theorem dX5_often_14 : decode cX5_often 14 = .ok (.invokestatic 295, 3) := by decide +kernel
theorem dX5_often_17 : decode cX5_often 17 = .ok (.ifCond .eq 7, 3) := by decide +kernel
theorem dX5_often_20 : decode cX5_often 20 = .ok (.iconst 1, 1) := by decide +kernel
theorem dX5_often_21 : decode cX5_often 21 = .ok (.goto 4, 3) := by decide +kernel
theorem dX5_often_24 : decode cX5_often 24 = .ok (.iconst 0, 1) := by decide +kernel
theorem dX5_often_25 : decode cX5_often 25 = .ok (.invokevirtual 288, 3) := by decide +kernel
