theorem dX5_init_0 : decode cX5_init 0 = .ok (.aload_n 0, 1) := by decide +kernel
theorem dX5_init_1 : decode cX5_init 1 = .ok (.invokespecial 1, 3) := by decide +kernel
theorem dX5_init_4 : decode cX5_init 4 = .ok (.aload_n 0, 1) := by decide +kernel
theorem dX5_init_5 : decode cX5_init 5 = .ok (.bipush 6, 2) := by decide +kernel
theorem dX5_init_7 : decode cX5_init 7 = .ok (.putfield 7, 3) := by decide +kernel
theorem dX5_init_10 : decode cX5_init 10 = .ok (.aload_n 0, 1) := by decide +kernel
theorem dX5_init_11 : decode cX5_init 11 = .ok (.bipush 12, 2) := by decide +kernel
theorem dX5_init_13 : decode cX5_init 13 = .ok (.newarray .int, 2) := by decide +kernel
theorem dX5_init_15 : decode cX5_init 15 = .ok (.putfield 13, 3) := by decide +kernel
theorem dX5_init_18 : decode cX5_init 18 = .ok (.aload_n 0, 1) := by decide +kernel
theorem dX5_init_19 : decode cX5_init 19 = .ok (.bipush 8, 2) := by decide +kernel
theorem dX5_init_21 : decode cX5_init 21 = .ok (.newarray .int, 2) := by decide +kernel
theorem dX5_init_23 : decode cX5_init 23 = .ok (.putfield 17, 3) := by decide +kernel
theorem dX5_init_26 : decode cX5_init 26 = .ok (.aload_n 0, 1) := by decide +kernel
theorem dX5_init_27 : decode cX5_init 27 = .ok (.bipush 8, 2) := by decide +kernel
theorem dX5_init_29 : decode cX5_init 29 = .ok (.newarray .int, 2) := by decide +kernel
theorem dX5_init_31 : decode cX5_init 31 = .ok (.putfield 20, 3) := by decide +kernel
theorem dX5_init_34 : decode cX5_init 34 = .ok (.aload_n 0, 1) := by decide +kernel
theorem dX5_init_35 : decode cX5_init 35 = .ok (.bipush 12, 2) := by decide +kernel
theorem dX5_init_37 : decode cX5_init 37 = .ok (.newarray .int, 2) := by decide +kernel
theorem dX5_init_39 : decode cX5_init 39 = .ok (.putfield 23, 3) := by decide +kernel
theorem dX5_init_42 : decode cX5_init 42 = .ok (.aload_n 0, 1) := by decide +kernel
theorem dX5_init_43 : decode cX5_init 43 = .ok (.bipush 12, 2) := by decide +kernel
theorem dX5_init_45 : decode cX5_init 45 = .ok (.newarray .int, 2) := by decide +kernel
theorem dX5_init_47 : decode cX5_init 47 = .ok (.putfield 26, 3) := by decide +kernel
theorem dX5_init_50 : decode cX5_init 50 = .ok (.aload_n 0, 1) := by decide +kernel
theorem dX5_init_51 : decode cX5_init 51 = .ok (.iconst 1, 1) := by decide +kernel
theorem dX5_init_52 : decode cX5_init 52 = .ok (.putfield 29, 3) := by decide +kernel
theorem dX5_init_55 : decode cX5_init 55 = .ok (.aload_n 0, 1) := by decide +kernel
theorem dX5_init_56 : decode cX5_init 56 = .ok (.sipush 200, 3) := by decide +kernel
theorem dX5_init_59 : decode cX5_init 59 = .ok (.newarray .int, 2) := by decide +kernel
theorem dX5_init_61 : decode cX5_init 61 = .ok (.putfield 32, 3) := by decide +kernel
theorem dX5_init_64 : decode cX5_init 64 = .ok (.aload_n 0, 1) := by decide +kernel
theorem dX5_init_65 : decode cX5_init 65 = .ok (.bipush 36, 2) := by decide +kernel
theorem dX5_init_67 : decode cX5_init 67 = .ok (.newarray .int, 2) := by decide +kernel
theorem dX5_init_69 : decode cX5_init 69 = .ok (.putfield 35, 3) := by decide +kernel
theorem dX5_init_72 : decode cX5_init 72 = .ok (.aload_n 0, 1) := by decide +kernel
theorem dX5_init_73 : decode cX5_init 73 = .ok (.bipush 19, 2) := by decide +kernel
theorem dX5_init_75 : decode cX5_init 75 = .ok (.newarray .int, 2) := by decide +kernel
theorem dX5_init_77 : decode cX5_init 77 = .ok (.putfield 38, 3) := by decide +kernel
theorem dX5_init_80 : decode cX5_init 80 = .ok (.aload_n 0, 1) := by decide +kernel
theorem dX5_init_81 : decode cX5_init 81 = .ok (.bipush 19, 2) := by decide +kernel
theorem dX5_init_83 : decode cX5_init 83 = .ok (.newarray .int, 2) := by decide +kernel
theorem dX5_init_85 : decode cX5_init 85 = .ok (.putfield 41, 3) := by decide +kernel
theorem dX5_init_88 : decode cX5_init 88 = .ok (.aload_n 0, 1) := by decide +kernel
theorem dX5_init_89 : decode cX5_init 89 = .ok (.bipush 38, 2) := by decide +kernel
theorem dX5_init_91 : decode cX5_init 91 = .ok (.newarray .int, 2) := by decide +kernel
theorem dX5_init_93 : decode cX5_init 93 = .ok (.putfield 44, 3) := by decide +kernel
theorem dX5_init_96 : decode cX5_init 96 = .ok (.aload_n 0, 1) := by decide +kernel
theorem dX5_init_97 : decode cX5_init 97 = .ok (.iconst 2, 1) := by decide +kernel
theorem dX5_init_98 : decode cX5_init 98 = .ok (.newarray .boolean, 2) := by decide +kernel
theorem dX5_init_100 : decode cX5_init 100 = .ok (.putfield 47, 3) := by decide +kernel
theorem dX5_init_103 : decode cX5_init 103 = .ok (.aload_n 0, 1) := by decide +kernel
theorem dX5_init_104 : decode cX5_init 104 = .ok (.bipush 24, 2) := by decide +kernel
theorem dX5_init_106 : decode cX5_init 106 = .ok (.newarray .int, 2) := by decide +kernel
theorem dX5_init_108 : decode cX5_init 108 = .ok (.putfield 51, 3) := by decide +kernel
theorem dX5_init_111 : decode cX5_init 111 = .ok (.aload_n 0, 1) := by decide +kernel
theorem dX5_init_112 : decode cX5_init 112 = .ok (.bipush 8, 2) := by decide +kernel
theorem dX5_init_114 : decode cX5_init 114 = .ok (.newarray .int, 2) := by decide +kernel
theorem dX5_init_116 : decode cX5_init 116 = .ok (.putfield 54, 3) := by decide +kernel
theorem dX5_init_119 : decode cX5_init 119 = .ok (.aload_n 0, 1) := by decide +kernel
theorem dX5_init_120 : decode cX5_init 120 = .ok (.sipush 9018, 3) := by decide +kernel
theorem dX5_init_123 : decode cX5_init 123 = .ok (.newarray .int, 2) := by decide +kernel
theorem dX5_init_125 : decode cX5_init 125 = .ok (.putfield 57, 3) := by decide +kernel
theorem dX5_init_128 : decode cX5_init 128 = .ok (.aload_n 0, 1) := by decide +kernel
theorem dX5_init_129 : decode cX5_init 129 = .ok (.bipush 48, 2) := by decide +kernel
theorem dX5_init_131 : decode cX5_init 131 = .ok (.newarray .int, 2) := by decide +kernel
theorem dX5_init_133 : decode cX5_init 133 = .ok (.putfield 60, 3) := by decide +kernel
theorem dX5_init_136 : decode cX5_init 136 = .ok (.aload_n 0, 1) := by decide +kernel
theorem dX5_init_137 : decode cX5_init 137 = .ok (.bipush 6, 2) := by decide +kernel
theorem dX5_init_139 : decode cX5_init 139 = .ok (.newarray .int, 2) := by decide +kernel
theorem dX5_init_141 : decode cX5_init 141 = .ok (.putfield 63, 3) := by decide +kernel
theorem dX5_init_144 : decode cX5_init 144 = .ok (.aload_n 0, 1) := by decide +kernel
theorem dX5_init_145 : decode cX5_init 145 = .ok (.bipush 6, 2) := by decide +kernel
theorem dX5_init_147 : decode cX5_init 147 = .ok (.newarray .int, 2) := by decide +kernel
theorem dX5_init_149 : decode cX5_init 149 = .ok (.putfield 66, 3) := by decide +kernel
theorem dX5_init_152 : decode cX5_init 152 = .ok (.aload_n 0, 1) := by decide +kernel
theorem dX5_init_153 : decode cX5_init 153 = .ok (.bipush 6, 2) := by decide +kernel
theorem dX5_init_155 : decode cX5_init 155 = .ok (.newarray .int, 2) := by decide +kernel
theorem dX5_init_157 : decode cX5_init 157 = .ok (.putfield 69, 3) := by decide +kernel
theorem dX5_init_160 : decode cX5_init 160 = .ok (.aload_n 0, 1) := by decide +kernel
theorem dX5_init_161 : decode cX5_init 161 = .ok (.invokevirtual 72, 3) := by decide +kernel
theorem dX5_init_164 : decode cX5_init 164 = .ok (.aload_n 0, 1) := by decide +kernel
theorem dX5_init_165 : decode cX5_init 165 = .ok (.invokevirtual 75, 3) := by decide +kernel
theorem dX5_init_168 : decode cX5_init 168 = .ok (.return_, 1) := by decide +kernel
theorem dX5_in_0 : decode cX5_in 0 = .ok (.iload_n 0, 1) := by decide +kernel
theorem dX5_in_1 : decode cX5_in 1 = .ok (.iload_n 1, 1) := by decide +kernel
theorem dX5_in_2 : decode cX5_in 2 = .ok (.if_icmp .lt 12, 3) := by decide +kernel
theorem dX5_in_5 : decode cX5_in 5 = .ok (.iload_n 0, 1) := by decide +kernel
theorem dX5_in_6 : decode cX5_in 6 = .ok (.iload_n 2, 1) := by decide +kernel
theorem dX5_in_7 : decode cX5_in 7 = .ok (.if_icmp .gt 7, 3) := by decide +kernel
theorem dX5_in_10 : decode cX5_in 10 = .ok (.iconst 1, 1) := by decide +kernel
theorem dX5_in_11 : decode cX5_in 11 = .ok (.goto 4, 3) := by decide +kernel
theorem dX5_in_14 : decode cX5_in 14 = .ok (.iconst 0, 1) := by decide +kernel
theorem dX5_in_15 : decode cX5_in 15 = .ok (.ireturn, 1) := by decide +kernel
theorem dX5_has_0 : decode cX5_has 0 = .ok (.iload_n 0, 1) := by decide +kernel
theorem dX5_has_1 : decode cX5_has 1 = .ok (.iload_n 1, 1) := by decide +kernel
theorem dX5_has_2 : decode cX5_has 2 = .ok (.ishr, 1) := by decide +kernel
theorem dX5_has_3 : decode cX5_has 3 = .ok (.iconst 1, 1) := by decide +kernel
theorem dX5_has_4 : decode cX5_has 4 = .ok (.iand, 1) := by decide +kernel
theorem dX5_has_5 : decode cX5_has 5 = .ok (.iconst 1, 1) := by decide +kernel
theorem dX5_has_6 : decode cX5_has 6 = .ok (.if_icmp .ne 7, 3) := by decide +kernel
theorem dX5_has_9 : decode cX5_has 9 = .ok (.iconst 1, 1) := by decide +kernel
theorem dX5_has_10 : decode cX5_has 10 = .ok (.goto 4, 3) := by decide +kernel
theorem dX5_has_13 : decode cX5_has 13 = .ok (.iconst 0, 1) := by decide +kernel
theorem dX5_has_14 : decode cX5_has 14 = .ok (.ireturn, 1) := by decide +kernel
theorem dX5_isHouse_0 : decode cX5_isHouse 0 = .ok (.iload_n 1, 1) := by decide +kernel
theorem dX5_isHouse_1 : decode cX5_isHouse 1 = .ok (.iconst 0, 1) := by decide +kernel
theorem dX5_isHouse_2 : decode cX5_isHouse 2 = .ok (.aload_n 0, 1) := by decide +kernel
theorem dX5_isHouse_3 : decode cX5_isHouse 3 = .ok (.getfield 78, 3) := by decide +kernel
theorem dX5_isHouse_6 : decode cX5_isHouse 6 = .ok (.iconst 1, 1) := by decide +kernel
theorem dX5_isHouse_7 : decode cX5_isHouse 7 = .ok (.isub, 1) := by decide +kernel
theorem dX5_isHouse_8 : decode cX5_isHouse 8 = .ok (.invokestatic 81, 3) := by decide +kernel
theorem dX5_isHouse_11 : decode cX5_isHouse 11 = .ok (.ireturn, 1) := by decide +kernel
theorem dX5_isPlot_0 : decode cX5_isPlot 0 = .ok (.iload_n 1, 1) := by decide +kernel
theorem dX5_isPlot_1 : decode cX5_isPlot 1 = .ok (.iconst 0, 1) := by decide +kernel
theorem dX5_isPlot_2 : decode cX5_isPlot 2 = .ok (.aload_n 0, 1) := by decide +kernel
theorem dX5_isPlot_3 : decode cX5_isPlot 3 = .ok (.getfield 7, 3) := by decide +kernel
theorem dX5_isPlot_6 : decode cX5_isPlot 6 = .ok (.iconst 1, 1) := by decide +kernel
theorem dX5_isPlot_7 : decode cX5_isPlot 7 = .ok (.isub, 1) := by decide +kernel
theorem dX5_isPlot_8 : decode cX5_isPlot 8 = .ok (.invokestatic 81, 3) := by decide +kernel
theorem dX5_isPlot_11 : decode cX5_isPlot 11 = .ok (.ireturn, 1) := by decide +kernel
theorem dX5_plain_0 : decode cX5_plain 0 = .ok (.iconst 0, 1) := by decide +kernel
theorem dX5_plain_1 : decode cX5_plain 1 = .ok (.istore_n 1, 1) := by decide +kernel
theorem dX5_plain_2 : decode cX5_plain 2 = .ok (.iload_n 1, 1) := by decide +kernel
theorem dX5_plain_3 : decode cX5_plain 3 = .ok (.bipush 12, 2) := by decide +kernel
theorem dX5_plain_5 : decode cX5_plain 5 = .ok (.if_icmp .ge 16, 3) := by decide +kernel
theorem dX5_plain_8 : decode cX5_plain 8 = .ok (.aload_n 0, 1) := by decide +kernel
theorem dX5_plain_9 : decode cX5_plain 9 = .ok (.getfield 13, 3) := by decide +kernel
theorem dX5_plain_12 : decode cX5_plain 12 = .ok (.iload_n 1, 1) := by decide +kernel
theorem dX5_plain_13 : decode cX5_plain 13 = .ok (.iconst 1, 1) := by decide +kernel
theorem dX5_plain_14 : decode cX5_plain 14 = .ok (.iastore, 1) := by decide +kernel
theorem dX5_plain_15 : decode cX5_plain 15 = .ok (.iinc 1 1, 3) := by decide +kernel
theorem dX5_plain_18 : decode cX5_plain 18 = .ok (.goto (-16), 3) := by decide +kernel
theorem dX5_plain_21 : decode cX5_plain 21 = .ok (.aload_n 0, 1) := by decide +kernel
theorem dX5_plain_22 : decode cX5_plain 22 = .ok (.iconst 0, 1) := by decide +kernel
theorem dX5_plain_23 : decode cX5_plain 23 = .ok (.putfield 78, 3) := by decide +kernel
theorem dX5_plain_26 : decode cX5_plain 26 = .ok (.aload_n 0, 1) := by decide +kernel
theorem dX5_plain_27 : decode cX5_plain 27 = .ok (.iconst 0, 1) := by decide +kernel
theorem dX5_plain_28 : decode cX5_plain 28 = .ok (.putfield 85, 3) := by decide +kernel
theorem dX5_plain_31 : decode cX5_plain 31 = .ok (.aload_n 0, 1) := by decide +kernel
theorem dX5_plain_32 : decode cX5_plain 32 = .ok (.iconst 0, 1) := by decide +kernel
theorem dX5_plain_33 : decode cX5_plain 33 = .ok (.putfield 88, 3) := by decide +kernel
theorem dX5_plain_36 : decode cX5_plain 36 = .ok (.aload_n 0, 1) := by decide +kernel
theorem dX5_plain_37 : decode cX5_plain 37 = .ok (.iconst 0, 1) := by decide +kernel
theorem dX5_plain_38 : decode cX5_plain 38 = .ok (.putfield 91, 3) := by decide +kernel
theorem dX5_plain_41 : decode cX5_plain 41 = .ok (.aload_n 0, 1) := by decide +kernel
theorem dX5_plain_42 : decode cX5_plain 42 = .ok (.iconst 1, 1) := by decide +kernel
theorem dX5_plain_43 : decode cX5_plain 43 = .ok (.putfield 29, 3) := by decide +kernel
theorem dX5_plain_46 : decode cX5_plain 46 = .ok (.return_, 1) := by decide +kernel
theorem dX5_begin_0 : decode cX5_begin 0 = .ok (.iconst 0, 1) := by decide +kernel
theorem dX5_begin_1 : decode cX5_begin 1 = .ok (.istore_n 1, 1) := by decide +kernel
theorem dX5_begin_2 : decode cX5_begin 2 = .ok (.iload_n 1, 1) := by decide +kernel
theorem dX5_begin_3 : decode cX5_begin 3 = .ok (.bipush 8, 2) := by decide +kernel
theorem dX5_begin_5 : decode cX5_begin 5 = .ok (.if_icmp .ge 31, 3) := by decide +kernel
theorem dX5_begin_8 : decode cX5_begin 8 = .ok (.aload_n 0, 1) := by decide +kernel
theorem dX5_begin_9 : decode cX5_begin 9 = .ok (.getfield 38, 3) := by decide +kernel
theorem dX5_begin_12 : decode cX5_begin 12 = .ok (.iload_n 1, 1) := by decide +kernel
theorem dX5_begin_13 : decode cX5_begin 13 = .ok (.aload_n 0, 1) := by decide +kernel
theorem dX5_begin_14 : decode cX5_begin 14 = .ok (.getfield 20, 3) := by decide +kernel
theorem dX5_begin_17 : decode cX5_begin 17 = .ok (.iload_n 1, 1) := by decide +kernel
theorem dX5_begin_18 : decode cX5_begin 18 = .ok (.iaload, 1) := by decide +kernel
theorem dX5_begin_19 : decode cX5_begin 19 = .ok (.iastore, 1) := by decide +kernel
theorem dX5_begin_20 : decode cX5_begin 20 = .ok (.aload_n 0, 1) := by decide +kernel
theorem dX5_begin_21 : decode cX5_begin 21 = .ok (.getfield 38, 3) := by decide +kernel
theorem dX5_begin_24 : decode cX5_begin 24 = .ok (.bipush 8, 2) := by decide +kernel
theorem dX5_begin_26 : decode cX5_begin 26 = .ok (.iload_n 1, 1) := by decide +kernel
theorem dX5_begin_27 : decode cX5_begin 27 = .ok (.iadd, 1) := by decide +kernel
theorem dX5_begin_28 : decode cX5_begin 28 = .ok (.iconst (-1), 1) := by decide +kernel
theorem dX5_begin_29 : decode cX5_begin 29 = .ok (.iastore, 1) := by decide +kernel
theorem dX5_begin_30 : decode cX5_begin 30 = .ok (.iinc 1 1, 3) := by decide +kernel
theorem dX5_begin_33 : decode cX5_begin 33 = .ok (.goto (-31), 3) := by decide +kernel
theorem dX5_begin_36 : decode cX5_begin 36 = .ok (.aload_n 0, 1) := by decide +kernel
theorem dX5_begin_37 : decode cX5_begin 37 = .ok (.getfield 38, 3) := by decide +kernel
theorem dX5_begin_40 : decode cX5_begin 40 = .ok (.bipush 16, 2) := by decide +kernel
theorem dX5_begin_42 : decode cX5_begin 42 = .ok (.iconst 0, 1) := by decide +kernel
theorem dX5_begin_43 : decode cX5_begin 43 = .ok (.iastore, 1) := by decide +kernel
theorem dX5_begin_44 : decode cX5_begin 44 = .ok (.aload_n 0, 1) := by decide +kernel
theorem dX5_begin_45 : decode cX5_begin 45 = .ok (.getfield 38, 3) := by decide +kernel
theorem dX5_begin_48 : decode cX5_begin 48 = .ok (.bipush 17, 2) := by decide +kernel
theorem dX5_begin_50 : decode cX5_begin 50 = .ok (.iconst 0, 1) := by decide +kernel
theorem dX5_begin_51 : decode cX5_begin 51 = .ok (.iastore, 1) := by decide +kernel
theorem dX5_begin_52 : decode cX5_begin 52 = .ok (.aload_n 0, 1) := by decide +kernel
theorem dX5_begin_53 : decode cX5_begin 53 = .ok (.getfield 38, 3) := by decide +kernel
theorem dX5_begin_56 : decode cX5_begin 56 = .ok (.bipush 18, 2) := by decide +kernel
theorem dX5_begin_58 : decode cX5_begin 58 = .ok (.aload_n 0, 1) := by decide +kernel
theorem dX5_begin_59 : decode cX5_begin 59 = .ok (.getfield 29, 3) := by decide +kernel
theorem dX5_begin_62 : decode cX5_begin 62 = .ok (.iastore, 1) := by decide +kernel
theorem dX5_begin_63 : decode cX5_begin 63 = .ok (.return_, 1) := by decide +kernel
theorem dX5_write_0 : decode cX5_write 0 = .ok (.iload_n 3, 1) := by decide +kernel
theorem dX5_write_1 : decode cX5_write 1 = .ok (.iconst 1, 1) := by decide +kernel
theorem dX5_write_2 : decode cX5_write 2 = .ok (.bipush 8, 2) := by decide +kernel
theorem dX5_write_4 : decode cX5_write 4 = .ok (.invokestatic 81, 3) := by decide +kernel
theorem dX5_write_7 : decode cX5_write 7 = .ok (.ifCond .ne 6, 3) := by decide +kernel
theorem dX5_write_10 : decode cX5_write 10 = .ok (.bipush (-3), 2) := by decide +kernel
theorem dX5_write_12 : decode cX5_write 12 = .ok (.ireturn, 1) := by decide +kernel
theorem dX5_write_13 : decode cX5_write 13 = .ok (.aload_n 0, 1) := by decide +kernel
theorem dX5_write_14 : decode cX5_write 14 = .ok (.getfield 94, 3) := by decide +kernel
theorem dX5_write_17 : decode cX5_write 17 = .ok (.iload_n 3, 1) := by decide +kernel
theorem dX5_write_18 : decode cX5_write 18 = .ok (.iadd, 1) := by decide +kernel
theorem dX5_write_19 : decode cX5_write 19 = .ok (.sipush 200, 3) := by decide +kernel
theorem dX5_write_22 : decode cX5_write 22 = .ok (.if_icmp .le 6, 3) := by decide +kernel
theorem dX5_write_25 : decode cX5_write 25 = .ok (.bipush (-5), 2) := by decide +kernel
theorem dX5_write_27 : decode cX5_write 27 = .ok (.ireturn, 1) := by decide +kernel
theorem dX5_write_28 : decode cX5_write 28 = .ok (.iconst 0, 1) := by decide +kernel
theorem dX5_write_29 : decode cX5_write 29 = .ok (.istore 4, 2) := by decide +kernel
theorem dX5_write_31 : decode cX5_write 31 = .ok (.iload 4, 2) := by decide +kernel
theorem dX5_write_33 : decode cX5_write 33 = .ok (.iload_n 3, 1) := by decide +kernel
theorem dX5_write_34 : decode cX5_write 34 = .ok (.if_icmp .ge 33, 3) := by decide +kernel
theorem dX5_write_37 : decode cX5_write 37 = .ok (.aload_n 0, 1) := by decide +kernel
theorem dX5_write_38 : decode cX5_write 38 = .ok (.getfield 32, 3) := by decide +kernel
theorem dX5_write_41 : decode cX5_write 41 = .ok (.aload_n 0, 1) := by decide +kernel
theorem dX5_write_42 : decode cX5_write 42 = .ok (.getfield 94, 3) := by decide +kernel
theorem dX5_write_45 : decode cX5_write 45 = .ok (.iload 4, 2) := by decide +kernel
theorem dX5_write_47 : decode cX5_write 47 = .ok (.iadd, 1) := by decide +kernel
theorem dX5_write_48 : decode cX5_write 48 = .ok (.lload_n 1, 1) := by decide +kernel
theorem dX5_write_49 : decode cX5_write 49 = .ok (.bipush 8, 2) := by decide +kernel
theorem dX5_write_51 : decode cX5_write 51 = .ok (.iload 4, 2) := by decide +kernel
theorem dX5_write_53 : decode cX5_write 53 = .ok (.imul, 1) := by decide +kernel
theorem dX5_write_54 : decode cX5_write 54 = .ok (.lshr, 1) := by decide +kernel
theorem dX5_write_55 : decode cX5_write 55 = .ok (.ldc2_w 97, 3) := by decide +kernel
theorem dX5_write_58 : decode cX5_write 58 = .ok (.land, 1) := by decide +kernel
theorem dX5_write_59 : decode cX5_write 59 = .ok (.l2i, 1) := by decide +kernel
theorem dX5_write_60 : decode cX5_write 60 = .ok (.iastore, 1) := by decide +kernel
theorem dX5_write_61 : decode cX5_write 61 = .ok (.iinc 4 1, 3) := by decide +kernel
theorem dX5_write_64 : decode cX5_write 64 = .ok (.goto (-33), 3) := by decide +kernel
theorem dX5_write_67 : decode cX5_write 67 = .ok (.aload_n 0, 1) := by decide +kernel
theorem dX5_write_68 : decode cX5_write 68 = .ok (.dup, 1) := by decide +kernel
theorem dX5_write_69 : decode cX5_write 69 = .ok (.getfield 94, 3) := by decide +kernel
theorem dX5_write_72 : decode cX5_write 72 = .ok (.iload_n 3, 1) := by decide +kernel
theorem dX5_write_73 : decode cX5_write 73 = .ok (.iadd, 1) := by decide +kernel
theorem dX5_write_74 : decode cX5_write 74 = .ok (.putfield 94, 3) := by decide +kernel
theorem dX5_write_77 : decode cX5_write 77 = .ok (.aload_n 0, 1) := by decide +kernel
theorem dX5_write_78 : decode cX5_write 78 = .ok (.getfield 94, 3) := by decide +kernel
theorem dX5_write_81 : decode cX5_write 81 = .ok (.ireturn, 1) := by decide +kernel
theorem dX5_erase_0 : decode cX5_erase 0 = .ok (.aload_n 0, 1) := by decide +kernel
theorem dX5_erase_1 : decode cX5_erase 1 = .ok (.getfield 94, 3) := by decide +kernel
theorem dX5_erase_4 : decode cX5_erase 4 = .ok (.istore_n 1, 1) := by decide +kernel
theorem dX5_erase_5 : decode cX5_erase 5 = .ok (.aload_n 0, 1) := by decide +kernel
theorem dX5_erase_6 : decode cX5_erase 6 = .ok (.iconst 0, 1) := by decide +kernel
theorem dX5_erase_7 : decode cX5_erase 7 = .ok (.putfield 94, 3) := by decide +kernel
theorem dX5_erase_10 : decode cX5_erase 10 = .ok (.iload_n 1, 1) := by decide +kernel
theorem dX5_erase_11 : decode cX5_erase 11 = .ok (.ireturn, 1) := by decide +kernel
theorem dX5_nextToken_0 : decode cX5_nextToken 0 = .ok (.aload_n 0, 1) := by decide +kernel
theorem dX5_nextToken_1 : decode cX5_nextToken 1 = .ok (.getfield 99, 3) := by decide +kernel
theorem dX5_nextToken_4 : decode cX5_nextToken 4 = .ok (.aload_n 0, 1) := by decide +kernel
theorem dX5_nextToken_5 : decode cX5_nextToken 5 = .ok (.getfield 94, 3) := by decide +kernel
theorem dX5_nextToken_8 : decode cX5_nextToken 8 = .ok (.if_icmp .ge 30, 3) := by decide +kernel
theorem dX5_nextToken_11 : decode cX5_nextToken 11 = .ok (.aload_n 0, 1) := by decide +kernel
theorem dX5_nextToken_12 : decode cX5_nextToken 12 = .ok (.getfield 32, 3) := by decide +kernel
theorem dX5_nextToken_15 : decode cX5_nextToken 15 = .ok (.aload_n 0, 1) := by decide +kernel
theorem dX5_nextToken_16 : decode cX5_nextToken 16 = .ok (.getfield 99, 3) := by decide +kernel
theorem dX5_nextToken_19 : decode cX5_nextToken 19 = .ok (.iaload, 1) := by decide +kernel
theorem dX5_nextToken_20 : decode cX5_nextToken 20 = .ok (.bipush 32, 2) := by decide +kernel
theorem dX5_nextToken_22 : decode cX5_nextToken 22 = .ok (.if_icmp .ne 16, 3) := by decide +kernel
theorem dX5_nextToken_25 : decode cX5_nextToken 25 = .ok (.aload_n 0, 1) := by decide +kernel
theorem dX5_nextToken_26 : decode cX5_nextToken 26 = .ok (.dup, 1) := by decide +kernel
theorem dX5_nextToken_27 : decode cX5_nextToken 27 = .ok (.getfield 99, 3) := by decide +kernel
theorem dX5_nextToken_30 : decode cX5_nextToken 30 = .ok (.iconst 1, 1) := by decide +kernel
theorem dX5_nextToken_31 : decode cX5_nextToken 31 = .ok (.iadd, 1) := by decide +kernel
theorem dX5_nextToken_32 : decode cX5_nextToken 32 = .ok (.putfield 99, 3) := by decide +kernel
theorem dX5_nextToken_35 : decode cX5_nextToken 35 = .ok (.goto (-35), 3) := by decide +kernel
theorem dX5_nextToken_38 : decode cX5_nextToken 38 = .ok (.aload_n 0, 1) := by decide +kernel
theorem dX5_nextToken_39 : decode cX5_nextToken 39 = .ok (.aload_n 0, 1) := by decide +kernel
theorem dX5_nextToken_40 : decode cX5_nextToken 40 = .ok (.getfield 99, 3) := by decide +kernel
theorem dX5_nextToken_43 : decode cX5_nextToken 43 = .ok (.putfield 102, 3) := by decide +kernel
theorem dX5_nextToken_46 : decode cX5_nextToken 46 = .ok (.aload_n 0, 1) := by decide +kernel
theorem dX5_nextToken_47 : decode cX5_nextToken 47 = .ok (.iconst 0, 1) := by decide +kernel
theorem dX5_nextToken_48 : decode cX5_nextToken 48 = .ok (.putfield 105, 3) := by decide +kernel
theorem dX5_nextToken_51 : decode cX5_nextToken 51 = .ok (.aload_n 0, 1) := by decide +kernel
theorem dX5_nextToken_52 : decode cX5_nextToken 52 = .ok (.iconst 0, 1) := by decide +kernel
theorem dX5_nextToken_53 : decode cX5_nextToken 53 = .ok (.putfield 108, 3) := by decide +kernel
theorem dX5_nextToken_56 : decode cX5_nextToken 56 = .ok (.aload_n 0, 1) := by decide +kernel
theorem dX5_nextToken_57 : decode cX5_nextToken 57 = .ok (.getfield 99, 3) := by decide +kernel
theorem dX5_nextToken_60 : decode cX5_nextToken 60 = .ok (.aload_n 0, 1) := by decide +kernel
theorem dX5_nextToken_61 : decode cX5_nextToken 61 = .ok (.getfield 94, 3) := by decide +kernel
theorem dX5_nextToken_64 : decode cX5_nextToken 64 = .ok (.if_icmp .ne 13, 3) := by decide +kernel
theorem dX5_nextToken_67 : decode cX5_nextToken 67 = .ok (.aload_n 0, 1) := by decide +kernel
theorem dX5_nextToken_68 : decode cX5_nextToken 68 = .ok (.ldc2_w 111, 3) := by decide +kernel
theorem dX5_nextToken_71 : decode cX5_nextToken 71 = .ok (.putfield 113, 3) := by decide +kernel
theorem dX5_nextToken_74 : decode cX5_nextToken 74 = .ok (.goto 306, 3) := by decide +kernel
theorem dX5_nextToken_77 : decode cX5_nextToken 77 = .ok (.aload_n 0, 1) := by decide +kernel
theorem dX5_nextToken_78 : decode cX5_nextToken 78 = .ok (.getfield 32, 3) := by decide +kernel
theorem dX5_nextToken_81 : decode cX5_nextToken 81 = .ok (.aload_n 0, 1) := by decide +kernel
theorem dX5_nextToken_82 : decode cX5_nextToken 82 = .ok (.getfield 99, 3) := by decide +kernel
theorem dX5_nextToken_85 : decode cX5_nextToken 85 = .ok (.iaload, 1) := by decide +kernel
theorem dX5_nextToken_86 : decode cX5_nextToken 86 = .ok (.bipush 97, 2) := by decide +kernel
theorem dX5_nextToken_88 : decode cX5_nextToken 88 = .ok (.bipush 122, 2) := by decide +kernel
theorem dX5_nextToken_90 : decode cX5_nextToken 90 = .ok (.invokestatic 81, 3) := by decide +kernel
theorem dX5_nextToken_93 : decode cX5_nextToken 93 = .ok (.ifCond .eq 129, 3) := by decide +kernel
theorem dX5_nextToken_96 : decode cX5_nextToken 96 = .ok (.aload_n 0, 1) := by decide +kernel
theorem dX5_nextToken_97 : decode cX5_nextToken 97 = .ok (.lconst 0, 1) := by decide +kernel
theorem dX5_nextToken_98 : decode cX5_nextToken 98 = .ok (.putfield 113, 3) := by decide +kernel
theorem dX5_nextToken_101 : decode cX5_nextToken 101 = .ok (.aload_n 0, 1) := by decide +kernel
theorem dX5_nextToken_102 : decode cX5_nextToken 102 = .ok (.getfield 99, 3) := by decide +kernel
theorem dX5_nextToken_105 : decode cX5_nextToken 105 = .ok (.aload_n 0, 1) := by decide +kernel
theorem dX5_nextToken_106 : decode cX5_nextToken 106 = .ok (.getfield 94, 3) := by decide +kernel
theorem dX5_nextToken_109 : decode cX5_nextToken 109 = .ok (.if_icmp .ge 82, 3) := by decide +kernel
theorem dX5_nextToken_112 : decode cX5_nextToken 112 = .ok (.aload_n 0, 1) := by decide +kernel
theorem dX5_nextToken_113 : decode cX5_nextToken 113 = .ok (.getfield 32, 3) := by decide +kernel
theorem dX5_nextToken_116 : decode cX5_nextToken 116 = .ok (.aload_n 0, 1) := by decide +kernel
theorem dX5_nextToken_117 : decode cX5_nextToken 117 = .ok (.getfield 99, 3) := by decide +kernel
theorem dX5_nextToken_120 : decode cX5_nextToken 120 = .ok (.iaload, 1) := by decide +kernel
theorem dX5_nextToken_121 : decode cX5_nextToken 121 = .ok (.bipush 97, 2) := by decide +kernel
theorem dX5_nextToken_123 : decode cX5_nextToken 123 = .ok (.bipush 122, 2) := by decide +kernel
theorem dX5_nextToken_125 : decode cX5_nextToken 125 = .ok (.invokestatic 81, 3) := by decide +kernel
theorem dX5_nextToken_128 : decode cX5_nextToken 128 = .ok (.ifCond .eq 63, 3) := by decide +kernel
theorem dX5_nextToken_131 : decode cX5_nextToken 131 = .ok (.aload_n 0, 1) := by decide +kernel
theorem dX5_nextToken_132 : decode cX5_nextToken 132 = .ok (.aload_n 0, 1) := by decide +kernel
theorem dX5_nextToken_133 : decode cX5_nextToken 133 = .ok (.getfield 99, 3) := by decide +kernel
theorem dX5_nextToken_136 : decode cX5_nextToken 136 = .ok (.aload_n 0, 1) := by decide +kernel
theorem dX5_nextToken_137 : decode cX5_nextToken 137 = .ok (.getfield 102, 3) := by decide +kernel
theorem dX5_nextToken_140 : decode cX5_nextToken 140 = .ok (.isub, 1) := by decide +kernel
theorem dX5_nextToken_141 : decode cX5_nextToken 141 = .ok (.bipush 9, 2) := by decide +kernel
theorem dX5_nextToken_143 : decode cX5_nextToken 143 = .ok (.if_icmp .ge 29, 3) := by decide +kernel
theorem dX5_nextToken_146 : decode cX5_nextToken 146 = .ok (.ldc2_w 117, 3) := by decide +kernel
theorem dX5_nextToken_149 : decode cX5_nextToken 149 = .ok (.aload_n 0, 1) := by decide +kernel
theorem dX5_nextToken_150 : decode cX5_nextToken 150 = .ok (.getfield 113, 3) := by decide +kernel
theorem dX5_nextToken_153 : decode cX5_nextToken 153 = .ok (.lmul, 1) := by decide +kernel
theorem dX5_nextToken_154 : decode cX5_nextToken 154 = .ok (.aload_n 0, 1) := by decide +kernel
theorem dX5_nextToken_155 : decode cX5_nextToken 155 = .ok (.getfield 32, 3) := by decide +kernel
theorem dX5_nextToken_158 : decode cX5_nextToken 158 = .ok (.aload_n 0, 1) := by decide +kernel
theorem dX5_nextToken_159 : decode cX5_nextToken 159 = .ok (.getfield 99, 3) := by decide +kernel
theorem dX5_nextToken_162 : decode cX5_nextToken 162 = .ok (.iaload, 1) := by decide +kernel
theorem dX5_nextToken_163 : decode cX5_nextToken 163 = .ok (.i2l, 1) := by decide +kernel
theorem dX5_nextToken_164 : decode cX5_nextToken 164 = .ok (.ladd, 1) := by decide +kernel
theorem dX5_nextToken_165 : decode cX5_nextToken 165 = .ok (.ldc2_w 119, 3) := by decide +kernel
theorem dX5_nextToken_168 : decode cX5_nextToken 168 = .ok (.lsub, 1) := by decide +kernel
theorem dX5_nextToken_169 : decode cX5_nextToken 169 = .ok (.goto 6, 3) := by decide +kernel
theorem dX5_nextToken_172 : decode cX5_nextToken 172 = .ok (.ldc2_w 121, 3) := by decide +kernel
theorem dX5_nextToken_175 : decode cX5_nextToken 175 = .ok (.putfield 113, 3) := by decide +kernel
theorem dX5_nextToken_178 : decode cX5_nextToken 178 = .ok (.aload_n 0, 1) := by decide +kernel
theorem dX5_nextToken_179 : decode cX5_nextToken 179 = .ok (.dup, 1) := by decide +kernel
theorem dX5_nextToken_180 : decode cX5_nextToken 180 = .ok (.getfield 99, 3) := by decide +kernel
theorem dX5_nextToken_183 : decode cX5_nextToken 183 = .ok (.iconst 1, 1) := by decide +kernel
theorem dX5_nextToken_184 : decode cX5_nextToken 184 = .ok (.iadd, 1) := by decide +kernel
theorem dX5_nextToken_185 : decode cX5_nextToken 185 = .ok (.putfield 99, 3) := by decide +kernel
theorem dX5_nextToken_188 : decode cX5_nextToken 188 = .ok (.goto (-87), 3) := by decide +kernel
theorem dX5_nextToken_191 : decode cX5_nextToken 191 = .ok (.aload_n 0, 1) := by decide +kernel
theorem dX5_nextToken_192 : decode cX5_nextToken 192 = .ok (.aload_n 0, 1) := by decide +kernel
theorem dX5_nextToken_193 : decode cX5_nextToken 193 = .ok (.getfield 99, 3) := by decide +kernel
theorem dX5_nextToken_196 : decode cX5_nextToken 196 = .ok (.aload_n 0, 1) := by decide +kernel
theorem dX5_nextToken_197 : decode cX5_nextToken 197 = .ok (.getfield 102, 3) := by decide +kernel
theorem dX5_nextToken_200 : decode cX5_nextToken 200 = .ok (.isub, 1) := by decide +kernel
theorem dX5_nextToken_201 : decode cX5_nextToken 201 = .ok (.bipush 9, 2) := by decide +kernel
theorem dX5_nextToken_203 : decode cX5_nextToken 203 = .ok (.if_icmp .le 9, 3) := by decide +kernel
theorem dX5_nextToken_206 : decode cX5_nextToken 206 = .ok (.ldc2_w 121, 3) := by decide +kernel
theorem dX5_nextToken_209 : decode cX5_nextToken 209 = .ok (.goto 7, 3) := by decide +kernel
theorem dX5_nextToken_212 : decode cX5_nextToken 212 = .ok (.aload_n 0, 1) := by decide +kernel
theorem dX5_nextToken_213 : decode cX5_nextToken 213 = .ok (.getfield 113, 3) := by decide +kernel
theorem dX5_nextToken_216 : decode cX5_nextToken 216 = .ok (.putfield 113, 3) := by decide +kernel
theorem dX5_nextToken_219 : decode cX5_nextToken 219 = .ok (.goto 161, 3) := by decide +kernel
theorem dX5_nextToken_222 : decode cX5_nextToken 222 = .ok (.aload_n 0, 1) := by decide +kernel
theorem dX5_nextToken_223 : decode cX5_nextToken 223 = .ok (.getfield 32, 3) := by decide +kernel
theorem dX5_nextToken_226 : decode cX5_nextToken 226 = .ok (.aload_n 0, 1) := by decide +kernel
theorem dX5_nextToken_227 : decode cX5_nextToken 227 = .ok (.getfield 99, 3) := by decide +kernel
theorem dX5_nextToken_230 : decode cX5_nextToken 230 = .ok (.iaload, 1) := by decide +kernel
theorem dX5_nextToken_231 : decode cX5_nextToken 231 = .ok (.bipush 48, 2) := by decide +kernel
theorem dX5_nextToken_233 : decode cX5_nextToken 233 = .ok (.bipush 57, 2) := by decide +kernel
theorem dX5_nextToken_235 : decode cX5_nextToken 235 = .ok (.invokestatic 81, 3) := by decide +kernel
theorem dX5_nextToken_238 : decode cX5_nextToken 238 = .ok (.ifCond .eq 105, 3) := by decide +kernel
theorem dX5_nextToken_241 : decode cX5_nextToken 241 = .ok (.aload_n 0, 1) := by decide +kernel
theorem dX5_nextToken_242 : decode cX5_nextToken 242 = .ok (.getfield 99, 3) := by decide +kernel
theorem dX5_nextToken_245 : decode cX5_nextToken 245 = .ok (.aload_n 0, 1) := by decide +kernel
theorem dX5_nextToken_246 : decode cX5_nextToken 246 = .ok (.getfield 94, 3) := by decide +kernel
theorem dX5_nextToken_249 : decode cX5_nextToken 249 = .ok (.if_icmp .ge 84, 3) := by decide +kernel
theorem dX5_nextToken_252 : decode cX5_nextToken 252 = .ok (.aload_n 0, 1) := by decide +kernel
theorem dX5_nextToken_253 : decode cX5_nextToken 253 = .ok (.getfield 32, 3) := by decide +kernel
theorem dX5_nextToken_256 : decode cX5_nextToken 256 = .ok (.aload_n 0, 1) := by decide +kernel
theorem dX5_nextToken_257 : decode cX5_nextToken 257 = .ok (.getfield 99, 3) := by decide +kernel
theorem dX5_nextToken_260 : decode cX5_nextToken 260 = .ok (.iaload, 1) := by decide +kernel
theorem dX5_nextToken_261 : decode cX5_nextToken 261 = .ok (.bipush 48, 2) := by decide +kernel
theorem dX5_nextToken_263 : decode cX5_nextToken 263 = .ok (.bipush 57, 2) := by decide +kernel
theorem dX5_nextToken_265 : decode cX5_nextToken 265 = .ok (.invokestatic 81, 3) := by decide +kernel
theorem dX5_nextToken_268 : decode cX5_nextToken 268 = .ok (.ifCond .eq 65, 3) := by decide +kernel
theorem dX5_nextToken_271 : decode cX5_nextToken 271 = .ok (.aload_n 0, 1) := by decide +kernel
theorem dX5_nextToken_272 : decode cX5_nextToken 272 = .ok (.aload_n 0, 1) := by decide +kernel
theorem dX5_nextToken_273 : decode cX5_nextToken 273 = .ok (.getfield 105, 3) := by decide +kernel
theorem dX5_nextToken_276 : decode cX5_nextToken 276 = .ok (.iconst 4, 1) := by decide +kernel
theorem dX5_nextToken_277 : decode cX5_nextToken 277 = .ok (.if_icmp .ge 26, 3) := by decide +kernel
theorem dX5_nextToken_280 : decode cX5_nextToken 280 = .ok (.bipush 10, 2) := by decide +kernel
theorem dX5_nextToken_282 : decode cX5_nextToken 282 = .ok (.aload_n 0, 1) := by decide +kernel
theorem dX5_nextToken_283 : decode cX5_nextToken 283 = .ok (.getfield 108, 3) := by decide +kernel
theorem dX5_nextToken_286 : decode cX5_nextToken 286 = .ok (.imul, 1) := by decide +kernel
theorem dX5_nextToken_287 : decode cX5_nextToken 287 = .ok (.aload_n 0, 1) := by decide +kernel
theorem dX5_nextToken_288 : decode cX5_nextToken 288 = .ok (.getfield 32, 3) := by decide +kernel
theorem dX5_nextToken_291 : decode cX5_nextToken 291 = .ok (.aload_n 0, 1) := by decide +kernel
theorem dX5_nextToken_292 : decode cX5_nextToken 292 = .ok (.getfield 99, 3) := by decide +kernel
theorem dX5_nextToken_295 : decode cX5_nextToken 295 = .ok (.iaload, 1) := by decide +kernel
theorem dX5_nextToken_296 : decode cX5_nextToken 296 = .ok (.iadd, 1) := by decide +kernel
theorem dX5_nextToken_297 : decode cX5_nextToken 297 = .ok (.bipush 48, 2) := by decide +kernel
theorem dX5_nextToken_299 : decode cX5_nextToken 299 = .ok (.isub, 1) := by decide +kernel
theorem dX5_nextToken_300 : decode cX5_nextToken 300 = .ok (.goto 7, 3) := by decide +kernel
theorem dX5_nextToken_303 : decode cX5_nextToken 303 = .ok (.aload_n 0, 1) := by decide +kernel
theorem dX5_nextToken_304 : decode cX5_nextToken 304 = .ok (.getfield 108, 3) := by decide +kernel
theorem dX5_nextToken_307 : decode cX5_nextToken 307 = .ok (.putfield 108, 3) := by decide +kernel
theorem dX5_nextToken_310 : decode cX5_nextToken 310 = .ok (.aload_n 0, 1) := by decide +kernel
theorem dX5_nextToken_311 : decode cX5_nextToken 311 = .ok (.dup, 1) := by decide +kernel
theorem dX5_nextToken_312 : decode cX5_nextToken 312 = .ok (.getfield 105, 3) := by decide +kernel
theorem dX5_nextToken_315 : decode cX5_nextToken 315 = .ok (.iconst 1, 1) := by decide +kernel
theorem dX5_nextToken_316 : decode cX5_nextToken 316 = .ok (.iadd, 1) := by decide +kernel
theorem dX5_nextToken_317 : decode cX5_nextToken 317 = .ok (.putfield 105, 3) := by decide +kernel
theorem dX5_nextToken_320 : decode cX5_nextToken 320 = .ok (.aload_n 0, 1) := by decide +kernel
theorem dX5_nextToken_321 : decode cX5_nextToken 321 = .ok (.dup, 1) := by decide +kernel
theorem dX5_nextToken_322 : decode cX5_nextToken 322 = .ok (.getfield 99, 3) := by decide +kernel
theorem dX5_nextToken_325 : decode cX5_nextToken 325 = .ok (.iconst 1, 1) := by decide +kernel
theorem dX5_nextToken_326 : decode cX5_nextToken 326 = .ok (.iadd, 1) := by decide +kernel
theorem dX5_nextToken_327 : decode cX5_nextToken 327 = .ok (.putfield 99, 3) := by decide +kernel
theorem dX5_nextToken_330 : decode cX5_nextToken 330 = .ok (.goto (-89), 3) := by decide +kernel
theorem dX5_nextToken_333 : decode cX5_nextToken 333 = .ok (.aload_n 0, 1) := by decide +kernel
theorem dX5_nextToken_334 : decode cX5_nextToken 334 = .ok (.ldc2_w 123, 3) := by decide +kernel
theorem dX5_nextToken_337 : decode cX5_nextToken 337 = .ok (.putfield 113, 3) := by decide +kernel
theorem dX5_nextToken_340 : decode cX5_nextToken 340 = .ok (.goto 40, 3) := by decide +kernel
theorem dX5_nextToken_343 : decode cX5_nextToken 343 = .ok (.aload_n 0, 1) := by decide +kernel
theorem dX5_nextToken_344 : decode cX5_nextToken 344 = .ok (.aload_n 0, 1) := by decide +kernel
theorem dX5_nextToken_345 : decode cX5_nextToken 345 = .ok (.getfield 32, 3) := by decide +kernel
theorem dX5_nextToken_348 : decode cX5_nextToken 348 = .ok (.aload_n 0, 1) := by decide +kernel
theorem dX5_nextToken_349 : decode cX5_nextToken 349 = .ok (.getfield 99, 3) := by decide +kernel
theorem dX5_nextToken_352 : decode cX5_nextToken 352 = .ok (.iaload, 1) := by decide +kernel
theorem dX5_nextToken_353 : decode cX5_nextToken 353 = .ok (.bipush 59, 2) := by decide +kernel
theorem dX5_nextToken_355 : decode cX5_nextToken 355 = .ok (.if_icmp .ne 9, 3) := by decide +kernel
theorem dX5_nextToken_358 : decode cX5_nextToken 358 = .ok (.ldc2_w 125, 3) := by decide +kernel
theorem dX5_nextToken_361 : decode cX5_nextToken 361 = .ok (.goto 6, 3) := by decide +kernel
theorem dX5_nextToken_364 : decode cX5_nextToken 364 = .ok (.ldc2_w 121, 3) := by decide +kernel
theorem dX5_nextToken_367 : decode cX5_nextToken 367 = .ok (.putfield 113, 3) := by decide +kernel
theorem dX5_nextToken_370 : decode cX5_nextToken 370 = .ok (.aload_n 0, 1) := by decide +kernel
theorem dX5_nextToken_371 : decode cX5_nextToken 371 = .ok (.dup, 1) := by decide +kernel
theorem dX5_nextToken_372 : decode cX5_nextToken 372 = .ok (.getfield 99, 3) := by decide +kernel
theorem dX5_nextToken_375 : decode cX5_nextToken 375 = .ok (.iconst 1, 1) := by decide +kernel
theorem dX5_nextToken_376 : decode cX5_nextToken 376 = .ok (.iadd, 1) := by decide +kernel
theorem dX5_nextToken_377 : decode cX5_nextToken 377 = .ok (.putfield 99, 3) := by decide +kernel
theorem dX5_nextToken_380 : decode cX5_nextToken 380 = .ok (.return_, 1) := by decide +kernel
theorem dX5_fails_0 : decode cX5_fails 0 = .ok (.aload_n 0, 1) := by decide +kernel
theorem dX5_fails_1 : decode cX5_fails 1 = .ok (.aload_n 0, 1) := by decide +kernel
theorem dX5_fails_2 : decode cX5_fails 2 = .ok (.getfield 102, 3) := by decide +kernel
theorem dX5_fails_5 : decode cX5_fails 5 = .ok (.putfield 127, 3) := by decide +kernel
theorem dX5_fails_8 : decode cX5_fails 8 = .ok (.iconst 0, 1) := by decide +kernel
theorem dX5_fails_9 : decode cX5_fails 9 = .ok (.ireturn, 1) := by decide +kernel
theorem dX5_isNumber_0 : decode cX5_isNumber 0 = .ok (.aload_n 0, 1) := by decide +kernel
theorem dX5_isNumber_1 : decode cX5_isNumber 1 = .ok (.invokevirtual 130, 3) := by decide +kernel
theorem dX5_isNumber_4 : decode cX5_isNumber 4 = .ok (.aload_n 0, 1) := by decide +kernel
theorem dX5_isNumber_5 : decode cX5_isNumber 5 = .ok (.getfield 113, 3) := by decide +kernel
theorem dX5_isNumber_8 : decode cX5_isNumber 8 = .ok (.ldc2_w 123, 3) := by decide +kernel
theorem dX5_isNumber_11 : decode cX5_isNumber 11 = .ok (.lcmp, 1) := by decide +kernel
theorem dX5_isNumber_12 : decode cX5_isNumber 12 = .ok (.ifCond .ne 33, 3) := by decide +kernel
theorem dX5_isNumber_15 : decode cX5_isNumber 15 = .ok (.aload_n 0, 1) := by decide +kernel
theorem dX5_isNumber_16 : decode cX5_isNumber 16 = .ok (.getfield 105, 3) := by decide +kernel
theorem dX5_isNumber_19 : decode cX5_isNumber 19 = .ok (.iload_n 3, 1) := by decide +kernel
theorem dX5_isNumber_20 : decode cX5_isNumber 20 = .ok (.bipush 99, 2) := by decide +kernel
theorem dX5_isNumber_22 : decode cX5_isNumber 22 = .ok (.if_icmp .le 7, 3) := by decide +kernel
theorem dX5_isNumber_25 : decode cX5_isNumber 25 = .ok (.iconst 4, 1) := by decide +kernel
theorem dX5_isNumber_26 : decode cX5_isNumber 26 = .ok (.goto 4, 3) := by decide +kernel
theorem dX5_isNumber_29 : decode cX5_isNumber 29 = .ok (.iconst 2, 1) := by decide +kernel
theorem dX5_isNumber_30 : decode cX5_isNumber 30 = .ok (.if_icmp .gt 15, 3) := by decide +kernel
theorem dX5_isNumber_33 : decode cX5_isNumber 33 = .ok (.aload_n 0, 1) := by decide +kernel
theorem dX5_isNumber_34 : decode cX5_isNumber 34 = .ok (.getfield 108, 3) := by decide +kernel
theorem dX5_isNumber_37 : decode cX5_isNumber 37 = .ok (.iload_n 2, 1) := by decide +kernel
theorem dX5_isNumber_38 : decode cX5_isNumber 38 = .ok (.iload_n 3, 1) := by decide +kernel
theorem dX5_isNumber_39 : decode cX5_isNumber 39 = .ok (.invokestatic 81, 3) := by decide +kernel
theorem dX5_isNumber_42 : decode cX5_isNumber 42 = .ok (.ifCond .ne 8, 3) := by decide +kernel
theorem dX5_isNumber_45 : decode cX5_isNumber 45 = .ok (.aload_n 0, 1) := by decide +kernel
theorem dX5_isNumber_46 : decode cX5_isNumber 46 = .ok (.invokevirtual 133, 3) := by decide +kernel
theorem dX5_isNumber_49 : decode cX5_isNumber 49 = .ok (.ireturn, 1) := by decide +kernel
theorem dX5_isNumber_50 : decode cX5_isNumber 50 = .ok (.aload_n 0, 1) := by decide +kernel
theorem dX5_isNumber_51 : decode cX5_isNumber 51 = .ok (.getfield 35, 3) := by decide +kernel
theorem dX5_isNumber_54 : decode cX5_isNumber 54 = .ok (.iload_n 1, 1) := by decide +kernel
theorem dX5_isNumber_55 : decode cX5_isNumber 55 = .ok (.aload_n 0, 1) := by decide +kernel
theorem dX5_isNumber_56 : decode cX5_isNumber 56 = .ok (.getfield 108, 3) := by decide +kernel
theorem dX5_isNumber_59 : decode cX5_isNumber 59 = .ok (.iastore, 1) := by decide +kernel
theorem dX5_isNumber_60 : decode cX5_isNumber 60 = .ok (.iconst 1, 1) := by decide +kernel
theorem dX5_isNumber_61 : decode cX5_isNumber 61 = .ok (.ireturn, 1) := by decide +kernel
theorem dX5_isGreen_0 : decode cX5_isGreen 0 = .ok (.aload_n 0, 1) := by decide +kernel
theorem dX5_isGreen_1 : decode cX5_isGreen 1 = .ok (.iload_n 1, 1) := by decide +kernel
theorem dX5_isGreen_2 : decode cX5_isGreen 2 = .ok (.iconst 1, 1) := by decide +kernel
theorem dX5_isGreen_3 : decode cX5_isGreen 3 = .ok (.iadd, 1) := by decide +kernel
theorem dX5_isGreen_4 : decode cX5_isGreen 4 = .ok (.iconst 3, 1) := by decide +kernel
theorem dX5_isGreen_5 : decode cX5_isGreen 5 = .ok (.bipush 12, 2) := by decide +kernel
theorem dX5_isGreen_7 : decode cX5_isGreen 7 = .ok (.invokevirtual 137, 3) := by decide +kernel
theorem dX5_isGreen_10 : decode cX5_isGreen 10 = .ok (.ifCond .ne 5, 3) := by decide +kernel
theorem dX5_isGreen_13 : decode cX5_isGreen 13 = .ok (.iconst 0, 1) := by decide +kernel
theorem dX5_isGreen_14 : decode cX5_isGreen 14 = .ok (.ireturn, 1) := by decide +kernel
theorem dX5_isGreen_15 : decode cX5_isGreen 15 = .ok (.aload_n 0, 1) := by decide +kernel
theorem dX5_isGreen_16 : decode cX5_isGreen 16 = .ok (.aload_n 0, 1) := by decide +kernel
theorem dX5_isGreen_17 : decode cX5_isGreen 17 = .ok (.getfield 35, 3) := by decide +kernel
theorem dX5_isGreen_20 : decode cX5_isGreen 20 = .ok (.iload_n 1, 1) := by decide +kernel
theorem dX5_isGreen_21 : decode cX5_isGreen 21 = .ok (.iconst 1, 1) := by decide +kernel
theorem dX5_isGreen_22 : decode cX5_isGreen 22 = .ok (.iadd, 1) := by decide +kernel
theorem dX5_isGreen_23 : decode cX5_isGreen 23 = .ok (.iaload, 1) := by decide +kernel
theorem dX5_isGreen_24 : decode cX5_isGreen 24 = .ok (.putfield 140, 3) := by decide +kernel
theorem dX5_isGreen_27 : decode cX5_isGreen 27 = .ok (.aload_n 0, 1) := by decide +kernel
theorem dX5_isGreen_28 : decode cX5_isGreen 28 = .ok (.iconst 0, 1) := by decide +kernel
theorem dX5_isGreen_29 : decode cX5_isGreen 29 = .ok (.putfield 143, 3) := by decide +kernel
theorem dX5_isGreen_32 : decode cX5_isGreen 32 = .ok (.aload_n 0, 1) := by decide +kernel
theorem dX5_isGreen_33 : decode cX5_isGreen 33 = .ok (.iconst 0, 1) := by decide +kernel
theorem dX5_isGreen_34 : decode cX5_isGreen 34 = .ok (.putfield 146, 3) := by decide +kernel
theorem dX5_isGreen_37 : decode cX5_isGreen 37 = .ok (.aload_n 0, 1) := by decide +kernel
theorem dX5_isGreen_38 : decode cX5_isGreen 38 = .ok (.iconst 0, 1) := by decide +kernel
theorem dX5_isGreen_39 : decode cX5_isGreen 39 = .ok (.putfield 149, 3) := by decide +kernel
theorem dX5_isGreen_42 : decode cX5_isGreen 42 = .ok (.aload_n 0, 1) := by decide +kernel
theorem dX5_isGreen_43 : decode cX5_isGreen 43 = .ok (.iconst 0, 1) := by decide +kernel
theorem dX5_isGreen_44 : decode cX5_isGreen 44 = .ok (.putfield 152, 3) := by decide +kernel
theorem dX5_isGreen_47 : decode cX5_isGreen 47 = .ok (.iconst 1, 1) := by decide +kernel
theorem dX5_isGreen_48 : decode cX5_isGreen 48 = .ok (.ireturn, 1) := by decide +kernel
theorem dX5_isHouseLine_0 : decode cX5_isHouseLine 0 = .ok (.aload_n 0, 1) := by decide +kernel
theorem dX5_isHouseLine_1 : decode cX5_isHouseLine 1 = .ok (.getfield 143, 3) := by decide +kernel
theorem dX5_isHouseLine_4 : decode cX5_isHouseLine 4 = .ok (.bipush 8, 2) := by decide +kernel
theorem dX5_isHouseLine_6 : decode cX5_isHouseLine 6 = .ok (.if_icmp .ne 8, 3) := by decide +kernel
theorem dX5_isHouseLine_9 : decode cX5_isHouseLine 9 = .ok (.aload_n 0, 1) := by decide +kernel
theorem dX5_isHouseLine_10 : decode cX5_isHouseLine 10 = .ok (.invokevirtual 133, 3) := by decide +kernel
theorem dX5_isHouseLine_13 : decode cX5_isHouseLine 13 = .ok (.ireturn, 1) := by decide +kernel
theorem dX5_isHouseLine_14 : decode cX5_isHouseLine 14 = .ok (.aload_n 0, 1) := by decide +kernel
theorem dX5_isHouseLine_15 : decode cX5_isHouseLine 15 = .ok (.dup, 1) := by decide +kernel
theorem dX5_isHouseLine_16 : decode cX5_isHouseLine 16 = .ok (.getfield 143, 3) := by decide +kernel
theorem dX5_isHouseLine_19 : decode cX5_isHouseLine 19 = .ok (.iconst 1, 1) := by decide +kernel
theorem dX5_isHouseLine_20 : decode cX5_isHouseLine 20 = .ok (.iadd, 1) := by decide +kernel
theorem dX5_isHouseLine_21 : decode cX5_isHouseLine 21 = .ok (.putfield 143, 3) := by decide +kernel
theorem dX5_isHouseLine_24 : decode cX5_isHouseLine 24 = .ok (.aload_n 0, 1) := by decide +kernel
theorem dX5_isHouseLine_25 : decode cX5_isHouseLine 25 = .ok (.iload_n 1, 1) := by decide +kernel
theorem dX5_isHouseLine_26 : decode cX5_isHouseLine 26 = .ok (.iconst 1, 1) := by decide +kernel
theorem dX5_isHouseLine_27 : decode cX5_isHouseLine 27 = .ok (.iadd, 1) := by decide +kernel
theorem dX5_isHouseLine_28 : decode cX5_isHouseLine 28 = .ok (.iconst 0, 1) := by decide +kernel
theorem dX5_isHouseLine_29 : decode cX5_isHouseLine 29 = .ok (.aload_n 0, 1) := by decide +kernel
theorem dX5_isHouseLine_30 : decode cX5_isHouseLine 30 = .ok (.getfield 140, 3) := by decide +kernel
theorem dX5_isHouseLine_33 : decode cX5_isHouseLine 33 = .ok (.iconst 1, 1) := by decide +kernel
theorem dX5_isHouseLine_34 : decode cX5_isHouseLine 34 = .ok (.isub, 1) := by decide +kernel
theorem dX5_isHouseLine_35 : decode cX5_isHouseLine 35 = .ok (.invokevirtual 137, 3) := by decide +kernel
theorem dX5_isHouseLine_38 : decode cX5_isHouseLine 38 = .ok (.ifCond .ne 5, 3) := by decide +kernel
theorem dX5_isHouseLine_41 : decode cX5_isHouseLine 41 = .ok (.iconst 0, 1) := by decide +kernel
theorem dX5_isHouseLine_42 : decode cX5_isHouseLine 42 = .ok (.ireturn, 1) := by decide +kernel
theorem dX5_isHouseLine_43 : decode cX5_isHouseLine 43 = .ok (.iconst 1, 1) := by decide +kernel
theorem dX5_isHouseLine_44 : decode cX5_isHouseLine 44 = .ok (.aload_n 0, 1) := by decide +kernel
theorem dX5_isHouseLine_45 : decode cX5_isHouseLine 45 = .ok (.getfield 35, 3) := by decide +kernel
theorem dX5_isHouseLine_48 : decode cX5_isHouseLine 48 = .ok (.iload_n 1, 1) := by decide +kernel
theorem dX5_isHouseLine_49 : decode cX5_isHouseLine 49 = .ok (.iconst 1, 1) := by decide +kernel
theorem dX5_isHouseLine_50 : decode cX5_isHouseLine 50 = .ok (.iadd, 1) := by decide +kernel
theorem dX5_isHouseLine_51 : decode cX5_isHouseLine 51 = .ok (.iaload, 1) := by decide +kernel
theorem dX5_isHouseLine_52 : decode cX5_isHouseLine 52 = .ok (.ishl, 1) := by decide +kernel
theorem dX5_isHouseLine_53 : decode cX5_isHouseLine 53 = .ok (.iload_n 2, 1) := by decide +kernel
theorem dX5_isHouseLine_54 : decode cX5_isHouseLine 54 = .ok (.ifCond .eq 23, 3) := by decide +kernel
theorem dX5_isHouseLine_57 : decode cX5_isHouseLine 57 = .ok (.iconst 1, 1) := by decide +kernel
theorem dX5_isHouseLine_58 : decode cX5_isHouseLine 58 = .ok (.aload_n 0, 1) := by decide +kernel
theorem dX5_isHouseLine_59 : decode cX5_isHouseLine 59 = .ok (.getfield 35, 3) := by decide +kernel
theorem dX5_isHouseLine_62 : decode cX5_isHouseLine 62 = .ok (.iload_n 1, 1) := by decide +kernel
theorem dX5_isHouseLine_63 : decode cX5_isHouseLine 63 = .ok (.iconst 1, 1) := by decide +kernel
theorem dX5_isHouseLine_64 : decode cX5_isHouseLine 64 = .ok (.iadd, 1) := by decide +kernel
theorem dX5_isHouseLine_65 : decode cX5_isHouseLine 65 = .ok (.iaload, 1) := by decide +kernel
theorem dX5_isHouseLine_66 : decode cX5_isHouseLine 66 = .ok (.iconst 1, 1) := by decide +kernel
theorem dX5_isHouseLine_67 : decode cX5_isHouseLine 67 = .ok (.iadd, 1) := by decide +kernel
theorem dX5_isHouseLine_68 : decode cX5_isHouseLine 68 = .ok (.aload_n 0, 1) := by decide +kernel
theorem dX5_isHouseLine_69 : decode cX5_isHouseLine 69 = .ok (.getfield 140, 3) := by decide +kernel
theorem dX5_isHouseLine_72 : decode cX5_isHouseLine 72 = .ok (.irem, 1) := by decide +kernel
theorem dX5_isHouseLine_73 : decode cX5_isHouseLine 73 = .ok (.ishl, 1) := by decide +kernel
theorem dX5_isHouseLine_74 : decode cX5_isHouseLine 74 = .ok (.goto 4, 3) := by decide +kernel
theorem dX5_isHouseLine_77 : decode cX5_isHouseLine 77 = .ok (.iconst 0, 1) := by decide +kernel
theorem dX5_isHouseLine_78 : decode cX5_isHouseLine 78 = .ok (.ior, 1) := by decide +kernel
theorem dX5_isHouseLine_79 : decode cX5_isHouseLine 79 = .ok (.istore_n 3, 1) := by decide +kernel
theorem dX5_isHouseLine_80 : decode cX5_isHouseLine 80 = .ok (.aload_n 0, 1) := by decide +kernel
theorem dX5_isHouseLine_81 : decode cX5_isHouseLine 81 = .ok (.getfield 146, 3) := by decide +kernel
theorem dX5_isHouseLine_84 : decode cX5_isHouseLine 84 = .ok (.iload_n 3, 1) := by decide +kernel
theorem dX5_isHouseLine_85 : decode cX5_isHouseLine 85 = .ok (.iand, 1) := by decide +kernel
theorem dX5_isHouseLine_86 : decode cX5_isHouseLine 86 = .ok (.ifCond .ne 20, 3) := by decide +kernel
theorem dX5_isHouseLine_89 : decode cX5_isHouseLine 89 = .ok (.aload_n 0, 1) := by decide +kernel
theorem dX5_isHouseLine_90 : decode cX5_isHouseLine 90 = .ok (.getfield 146, 3) := by decide +kernel
theorem dX5_isHouseLine_93 : decode cX5_isHouseLine 93 = .ok (.iload_n 3, 1) := by decide +kernel
theorem dX5_isHouseLine_94 : decode cX5_isHouseLine 94 = .ok (.ior, 1) := by decide +kernel
theorem dX5_isHouseLine_95 : decode cX5_isHouseLine 95 = .ok (.iconst 1, 1) := by decide +kernel
theorem dX5_isHouseLine_96 : decode cX5_isHouseLine 96 = .ok (.aload_n 0, 1) := by decide +kernel
theorem dX5_isHouseLine_97 : decode cX5_isHouseLine 97 = .ok (.getfield 140, 3) := by decide +kernel
theorem dX5_isHouseLine_100 : decode cX5_isHouseLine 100 = .ok (.ishl, 1) := by decide +kernel
theorem dX5_isHouseLine_101 : decode cX5_isHouseLine 101 = .ok (.iconst 1, 1) := by decide +kernel
theorem dX5_isHouseLine_102 : decode cX5_isHouseLine 102 = .ok (.isub, 1) := by decide +kernel
theorem dX5_isHouseLine_103 : decode cX5_isHouseLine 103 = .ok (.if_icmp .ne 8, 3) := by decide +kernel
theorem dX5_isHouseLine_106 : decode cX5_isHouseLine 106 = .ok (.aload_n 0, 1) := by decide +kernel
theorem dX5_isHouseLine_107 : decode cX5_isHouseLine 107 = .ok (.invokevirtual 133, 3) := by decide +kernel
theorem dX5_isHouseLine_110 : decode cX5_isHouseLine 110 = .ok (.ireturn, 1) := by decide +kernel
theorem dX5_isHouseLine_111 : decode cX5_isHouseLine 111 = .ok (.aload_n 0, 1) := by decide +kernel
theorem dX5_isHouseLine_112 : decode cX5_isHouseLine 112 = .ok (.aload_n 0, 1) := by decide +kernel
theorem dX5_isHouseLine_113 : decode cX5_isHouseLine 113 = .ok (.getfield 146, 3) := by decide +kernel
theorem dX5_isHouseLine_116 : decode cX5_isHouseLine 116 = .ok (.iload_n 3, 1) := by decide +kernel
theorem dX5_isHouseLine_117 : decode cX5_isHouseLine 117 = .ok (.ior, 1) := by decide +kernel
theorem dX5_isHouseLine_118 : decode cX5_isHouseLine 118 = .ok (.putfield 146, 3) := by decide +kernel
theorem dX5_isHouseLine_121 : decode cX5_isHouseLine 121 = .ok (.iconst 1, 1) := by decide +kernel
theorem dX5_isHouseLine_122 : decode cX5_isHouseLine 122 = .ok (.ireturn, 1) := by decide +kernel
theorem dX5_areUnlike_0 : decode cX5_areUnlike 0 = .ok (.aload_n 0, 1) := by decide +kernel
theorem dX5_areUnlike_1 : decode cX5_areUnlike 1 = .ok (.iload_n 1, 1) := by decide +kernel
theorem dX5_areUnlike_2 : decode cX5_areUnlike 2 = .ok (.iconst 1, 1) := by decide +kernel
theorem dX5_areUnlike_3 : decode cX5_areUnlike 3 = .ok (.iadd, 1) := by decide +kernel
theorem dX5_areUnlike_4 : decode cX5_areUnlike 4 = .ok (.iconst 0, 1) := by decide +kernel
theorem dX5_areUnlike_5 : decode cX5_areUnlike 5 = .ok (.iload_n 2, 1) := by decide +kernel
theorem dX5_areUnlike_6 : decode cX5_areUnlike 6 = .ok (.invokevirtual 137, 3) := by decide +kernel
theorem dX5_areUnlike_9 : decode cX5_areUnlike 9 = .ok (.ifCond .eq 15, 3) := by decide +kernel
theorem dX5_areUnlike_12 : decode cX5_areUnlike 12 = .ok (.aload_n 0, 1) := by decide +kernel
theorem dX5_areUnlike_13 : decode cX5_areUnlike 13 = .ok (.iload_n 1, 1) := by decide +kernel
theorem dX5_areUnlike_14 : decode cX5_areUnlike 14 = .ok (.iconst 2, 1) := by decide +kernel
theorem dX5_areUnlike_15 : decode cX5_areUnlike 15 = .ok (.iadd, 1) := by decide +kernel
theorem dX5_areUnlike_16 : decode cX5_areUnlike 16 = .ok (.iconst 0, 1) := by decide +kernel
theorem dX5_areUnlike_17 : decode cX5_areUnlike 17 = .ok (.iload_n 2, 1) := by decide +kernel
theorem dX5_areUnlike_18 : decode cX5_areUnlike 18 = .ok (.invokevirtual 137, 3) := by decide +kernel
theorem dX5_areUnlike_21 : decode cX5_areUnlike 21 = .ok (.ifCond .ne 5, 3) := by decide +kernel
theorem dX5_areUnlike_24 : decode cX5_areUnlike 24 = .ok (.iconst 0, 1) := by decide +kernel
theorem dX5_areUnlike_25 : decode cX5_areUnlike 25 = .ok (.ireturn, 1) := by decide +kernel
theorem dX5_areUnlike_26 : decode cX5_areUnlike 26 = .ok (.aload_n 0, 1) := by decide +kernel
theorem dX5_areUnlike_27 : decode cX5_areUnlike 27 = .ok (.getfield 35, 3) := by decide +kernel
theorem dX5_areUnlike_30 : decode cX5_areUnlike 30 = .ok (.iload_n 1, 1) := by decide +kernel
theorem dX5_areUnlike_31 : decode cX5_areUnlike 31 = .ok (.iconst 1, 1) := by decide +kernel
theorem dX5_areUnlike_32 : decode cX5_areUnlike 32 = .ok (.iadd, 1) := by decide +kernel
theorem dX5_areUnlike_33 : decode cX5_areUnlike 33 = .ok (.iaload, 1) := by decide +kernel
theorem dX5_areUnlike_34 : decode cX5_areUnlike 34 = .ok (.aload_n 0, 1) := by decide +kernel
theorem dX5_areUnlike_35 : decode cX5_areUnlike 35 = .ok (.getfield 35, 3) := by decide +kernel
theorem dX5_areUnlike_38 : decode cX5_areUnlike 38 = .ok (.iload_n 1, 1) := by decide +kernel
theorem dX5_areUnlike_39 : decode cX5_areUnlike 39 = .ok (.iconst 2, 1) := by decide +kernel
theorem dX5_areUnlike_40 : decode cX5_areUnlike 40 = .ok (.iadd, 1) := by decide +kernel
theorem dX5_areUnlike_41 : decode cX5_areUnlike 41 = .ok (.iaload, 1) := by decide +kernel
theorem dX5_areUnlike_42 : decode cX5_areUnlike 42 = .ok (.if_icmp .ne 10, 3) := by decide +kernel
theorem dX5_areUnlike_45 : decode cX5_areUnlike 45 = .ok (.aload_n 0, 1) := by decide +kernel
theorem dX5_areUnlike_46 : decode cX5_areUnlike 46 = .ok (.invokevirtual 133, 3) := by decide +kernel
theorem dX5_areUnlike_49 : decode cX5_areUnlike 49 = .ok (.ifCond .eq 7, 3) := by decide +kernel
theorem dX5_areUnlike_52 : decode cX5_areUnlike 52 = .ok (.iconst 1, 1) := by decide +kernel
theorem dX5_areUnlike_53 : decode cX5_areUnlike 53 = .ok (.goto 4, 3) := by decide +kernel
theorem dX5_areUnlike_56 : decode cX5_areUnlike 56 = .ok (.iconst 0, 1) := by decide +kernel
theorem dX5_areUnlike_57 : decode cX5_areUnlike 57 = .ok (.ireturn, 1) := by decide +kernel
theorem dX5_isPath_0 : decode cX5_isPath 0 = .ok (.aload_n 0, 1) := by decide +kernel
theorem dX5_isPath_1 : decode cX5_isPath 1 = .ok (.getfield 149, 3) := by decide +kernel
theorem dX5_isPath_4 : decode cX5_isPath 4 = .ok (.bipush 6, 2) := by decide +kernel
theorem dX5_isPath_6 : decode cX5_isPath 6 = .ok (.if_icmp .ne 8, 3) := by decide +kernel
theorem dX5_isPath_9 : decode cX5_isPath 9 = .ok (.aload_n 0, 1) := by decide +kernel
theorem dX5_isPath_10 : decode cX5_isPath 10 = .ok (.invokevirtual 133, 3) := by decide +kernel
theorem dX5_isPath_13 : decode cX5_isPath 13 = .ok (.ireturn, 1) := by decide +kernel
theorem dX5_isPath_14 : decode cX5_isPath 14 = .ok (.aload_n 0, 1) := by decide +kernel
theorem dX5_isPath_15 : decode cX5_isPath 15 = .ok (.dup, 1) := by decide +kernel
theorem dX5_isPath_16 : decode cX5_isPath 16 = .ok (.getfield 149, 3) := by decide +kernel
theorem dX5_isPath_19 : decode cX5_isPath 19 = .ok (.iconst 1, 1) := by decide +kernel
theorem dX5_isPath_20 : decode cX5_isPath 20 = .ok (.iadd, 1) := by decide +kernel
theorem dX5_isPath_21 : decode cX5_isPath 21 = .ok (.putfield 149, 3) := by decide +kernel
theorem dX5_isPath_24 : decode cX5_isPath 24 = .ok (.aload_n 0, 1) := by decide +kernel
theorem dX5_isPath_25 : decode cX5_isPath 25 = .ok (.iload_n 1, 1) := by decide +kernel
theorem dX5_isPath_26 : decode cX5_isPath 26 = .ok (.aload_n 0, 1) := by decide +kernel
theorem dX5_isPath_27 : decode cX5_isPath 27 = .ok (.getfield 140, 3) := by decide +kernel
theorem dX5_isPath_30 : decode cX5_isPath 30 = .ok (.iconst 1, 1) := by decide +kernel
theorem dX5_isPath_31 : decode cX5_isPath 31 = .ok (.isub, 1) := by decide +kernel
theorem dX5_isPath_32 : decode cX5_isPath 32 = .ok (.invokevirtual 155, 3) := by decide +kernel
theorem dX5_isPath_35 : decode cX5_isPath 35 = .ok (.ireturn, 1) := by decide +kernel
theorem dX5_isFeud_0 : decode cX5_isFeud 0 = .ok (.aload_n 0, 1) := by decide +kernel
theorem dX5_isFeud_1 : decode cX5_isFeud 1 = .ok (.getfield 152, 3) := by decide +kernel
theorem dX5_isFeud_4 : decode cX5_isFeud 4 = .ok (.bipush 6, 2) := by decide +kernel
theorem dX5_isFeud_6 : decode cX5_isFeud 6 = .ok (.if_icmp .ne 8, 3) := by decide +kernel
theorem dX5_isFeud_9 : decode cX5_isFeud 9 = .ok (.aload_n 0, 1) := by decide +kernel
theorem dX5_isFeud_10 : decode cX5_isFeud 10 = .ok (.invokevirtual 133, 3) := by decide +kernel
theorem dX5_isFeud_13 : decode cX5_isFeud 13 = .ok (.ireturn, 1) := by decide +kernel
theorem dX5_isFeud_14 : decode cX5_isFeud 14 = .ok (.aload_n 0, 1) := by decide +kernel
theorem dX5_isFeud_15 : decode cX5_isFeud 15 = .ok (.dup, 1) := by decide +kernel
theorem dX5_isFeud_16 : decode cX5_isFeud 16 = .ok (.getfield 152, 3) := by decide +kernel
theorem dX5_isFeud_19 : decode cX5_isFeud 19 = .ok (.iconst 1, 1) := by decide +kernel
theorem dX5_isFeud_20 : decode cX5_isFeud 20 = .ok (.iadd, 1) := by decide +kernel
theorem dX5_isFeud_21 : decode cX5_isFeud 21 = .ok (.putfield 152, 3) := by decide +kernel
theorem dX5_isFeud_24 : decode cX5_isFeud 24 = .ok (.aload_n 0, 1) := by decide +kernel
theorem dX5_isFeud_25 : decode cX5_isFeud 25 = .ok (.iload_n 1, 1) := by decide +kernel
theorem dX5_isFeud_26 : decode cX5_isFeud 26 = .ok (.aload_n 0, 1) := by decide +kernel
theorem dX5_isFeud_27 : decode cX5_isFeud 27 = .ok (.getfield 143, 3) := by decide +kernel
theorem dX5_isFeud_30 : decode cX5_isFeud 30 = .ok (.iconst 1, 1) := by decide +kernel
theorem dX5_isFeud_31 : decode cX5_isFeud 31 = .ok (.isub, 1) := by decide +kernel
theorem dX5_isFeud_32 : decode cX5_isFeud 32 = .ok (.invokevirtual 155, 3) := by decide +kernel
theorem dX5_isFeud_35 : decode cX5_isFeud 35 = .ok (.ireturn, 1) := by decide +kernel
theorem dX5_isLine_0 : decode cX5_isLine 0 = .ok (.aload_n 0, 1) := by decide +kernel
theorem dX5_isLine_1 : decode cX5_isLine 1 = .ok (.invokevirtual 130, 3) := by decide +kernel
theorem dX5_isLine_4 : decode cX5_isLine 4 = .ok (.aload_n 0, 1) := by decide +kernel
theorem dX5_isLine_5 : decode cX5_isLine 5 = .ok (.getfield 113, 3) := by decide +kernel
theorem dX5_isLine_8 : decode cX5_isLine 8 = .ok (.ldc2_w 159, 3) := by decide +kernel
theorem dX5_isLine_11 : decode cX5_isLine 11 = .ok (.lcmp, 1) := by decide +kernel
theorem dX5_isLine_12 : decode cX5_isLine 12 = .ok (.ifCond .ne 7, 3) := by decide +kernel
theorem dX5_isLine_15 : decode cX5_isLine 15 = .ok (.iconst 0, 1) := by decide +kernel
theorem dX5_isLine_16 : decode cX5_isLine 16 = .ok (.goto 95, 3) := by decide +kernel
theorem dX5_isLine_19 : decode cX5_isLine 19 = .ok (.aload_n 0, 1) := by decide +kernel
theorem dX5_isLine_20 : decode cX5_isLine 20 = .ok (.getfield 113, 3) := by decide +kernel
theorem dX5_isLine_23 : decode cX5_isLine 23 = .ok (.ldc2_w 161, 3) := by decide +kernel
theorem dX5_isLine_26 : decode cX5_isLine 26 = .ok (.lcmp, 1) := by decide +kernel
theorem dX5_isLine_27 : decode cX5_isLine 27 = .ok (.ifCond .ne 7, 3) := by decide +kernel
theorem dX5_isLine_30 : decode cX5_isLine 30 = .ok (.iconst 1, 1) := by decide +kernel
theorem dX5_isLine_31 : decode cX5_isLine 31 = .ok (.goto 80, 3) := by decide +kernel
theorem dX5_isLine_34 : decode cX5_isLine 34 = .ok (.aload_n 0, 1) := by decide +kernel
theorem dX5_isLine_35 : decode cX5_isLine 35 = .ok (.getfield 113, 3) := by decide +kernel
theorem dX5_isLine_38 : decode cX5_isLine 38 = .ok (.ldc2_w 163, 3) := by decide +kernel
theorem dX5_isLine_41 : decode cX5_isLine 41 = .ok (.lcmp, 1) := by decide +kernel
theorem dX5_isLine_42 : decode cX5_isLine 42 = .ok (.ifCond .ne 7, 3) := by decide +kernel
theorem dX5_isLine_45 : decode cX5_isLine 45 = .ok (.iconst 2, 1) := by decide +kernel
theorem dX5_isLine_46 : decode cX5_isLine 46 = .ok (.goto 65, 3) := by decide +kernel
theorem dX5_isLine_49 : decode cX5_isLine 49 = .ok (.aload_n 0, 1) := by decide +kernel
theorem dX5_isLine_50 : decode cX5_isLine 50 = .ok (.getfield 113, 3) := by decide +kernel
theorem dX5_isLine_53 : decode cX5_isLine 53 = .ok (.ldc2_w 165, 3) := by decide +kernel
theorem dX5_isLine_56 : decode cX5_isLine 56 = .ok (.lcmp, 1) := by decide +kernel
theorem dX5_isLine_57 : decode cX5_isLine 57 = .ok (.ifCond .ne 7, 3) := by decide +kernel
theorem dX5_isLine_60 : decode cX5_isLine 60 = .ok (.iconst 3, 1) := by decide +kernel
theorem dX5_isLine_61 : decode cX5_isLine 61 = .ok (.goto 50, 3) := by decide +kernel
theorem dX5_isLine_64 : decode cX5_isLine 64 = .ok (.aload_n 0, 1) := by decide +kernel
theorem dX5_isLine_65 : decode cX5_isLine 65 = .ok (.getfield 113, 3) := by decide +kernel
theorem dX5_isLine_68 : decode cX5_isLine 68 = .ok (.ldc2_w 167, 3) := by decide +kernel
theorem dX5_isLine_71 : decode cX5_isLine 71 = .ok (.lcmp, 1) := by decide +kernel
theorem dX5_isLine_72 : decode cX5_isLine 72 = .ok (.ifCond .ne 7, 3) := by decide +kernel
theorem dX5_isLine_75 : decode cX5_isLine 75 = .ok (.iconst 4, 1) := by decide +kernel
theorem dX5_isLine_76 : decode cX5_isLine 76 = .ok (.goto 35, 3) := by decide +kernel
theorem dX5_isLine_79 : decode cX5_isLine 79 = .ok (.aload_n 0, 1) := by decide +kernel
theorem dX5_isLine_80 : decode cX5_isLine 80 = .ok (.getfield 113, 3) := by decide +kernel
theorem dX5_isLine_83 : decode cX5_isLine 83 = .ok (.ldc2_w 169, 3) := by decide +kernel
theorem dX5_isLine_86 : decode cX5_isLine 86 = .ok (.lcmp, 1) := by decide +kernel
theorem dX5_isLine_87 : decode cX5_isLine 87 = .ok (.ifCond .ne 7, 3) := by decide +kernel
theorem dX5_isLine_90 : decode cX5_isLine 90 = .ok (.iconst 5, 1) := by decide +kernel
theorem dX5_isLine_91 : decode cX5_isLine 91 = .ok (.goto 20, 3) := by decide +kernel
theorem dX5_isLine_94 : decode cX5_isLine 94 = .ok (.aload_n 0, 1) := by decide +kernel
theorem dX5_isLine_95 : decode cX5_isLine 95 = .ok (.getfield 113, 3) := by decide +kernel
theorem dX5_isLine_98 : decode cX5_isLine 98 = .ok (.ldc2_w 171, 3) := by decide +kernel
theorem dX5_isLine_101 : decode cX5_isLine 101 = .ok (.lcmp, 1) := by decide +kernel
theorem dX5_isLine_102 : decode cX5_isLine 102 = .ok (.ifCond .ne 8, 3) := by decide +kernel
theorem dX5_isLine_105 : decode cX5_isLine 105 = .ok (.bipush 6, 2) := by decide +kernel
theorem dX5_isLine_107 : decode cX5_isLine 107 = .ok (.goto 4, 3) := by decide +kernel
theorem dX5_isLine_110 : decode cX5_isLine 110 = .ok (.iconst (-1), 1) := by decide +kernel
theorem dX5_isLine_111 : decode cX5_isLine 111 = .ok (.istore_n 2, 1) := by decide +kernel
theorem dX5_isLine_112 : decode cX5_isLine 112 = .ok (.aload_n 0, 1) := by decide +kernel
theorem dX5_isLine_113 : decode cX5_isLine 113 = .ok (.getfield 113, 3) := by decide +kernel
theorem dX5_isLine_116 : decode cX5_isLine 116 = .ok (.ldc2_w 173, 3) := by decide +kernel
theorem dX5_isLine_119 : decode cX5_isLine 119 = .ok (.lcmp, 1) := by decide +kernel
theorem dX5_isLine_120 : decode cX5_isLine 120 = .ok (.ifCond .ne 8, 3) := by decide +kernel
theorem dX5_isLine_123 : decode cX5_isLine 123 = .ok (.bipush 7, 2) := by decide +kernel
theorem dX5_isLine_125 : decode cX5_isLine 125 = .ok (.goto 84, 3) := by decide +kernel
theorem dX5_isLine_128 : decode cX5_isLine 128 = .ok (.aload_n 0, 1) := by decide +kernel
theorem dX5_isLine_129 : decode cX5_isLine 129 = .ok (.getfield 113, 3) := by decide +kernel
theorem dX5_isLine_132 : decode cX5_isLine 132 = .ok (.ldc2_w 175, 3) := by decide +kernel
theorem dX5_isLine_135 : decode cX5_isLine 135 = .ok (.lcmp, 1) := by decide +kernel
theorem dX5_isLine_136 : decode cX5_isLine 136 = .ok (.ifCond .ne 8, 3) := by decide +kernel
theorem dX5_isLine_139 : decode cX5_isLine 139 = .ok (.bipush 8, 2) := by decide +kernel
theorem dX5_isLine_141 : decode cX5_isLine 141 = .ok (.goto 68, 3) := by decide +kernel
theorem dX5_isLine_144 : decode cX5_isLine 144 = .ok (.aload_n 0, 1) := by decide +kernel
theorem dX5_isLine_145 : decode cX5_isLine 145 = .ok (.getfield 113, 3) := by decide +kernel
theorem dX5_isLine_148 : decode cX5_isLine 148 = .ok (.ldc2_w 177, 3) := by decide +kernel
theorem dX5_isLine_151 : decode cX5_isLine 151 = .ok (.lcmp, 1) := by decide +kernel
theorem dX5_isLine_152 : decode cX5_isLine 152 = .ok (.ifCond .ne 8, 3) := by decide +kernel
theorem dX5_isLine_155 : decode cX5_isLine 155 = .ok (.bipush 9, 2) := by decide +kernel
theorem dX5_isLine_157 : decode cX5_isLine 157 = .ok (.goto 52, 3) := by decide +kernel
theorem dX5_isLine_160 : decode cX5_isLine 160 = .ok (.aload_n 0, 1) := by decide +kernel
theorem dX5_isLine_161 : decode cX5_isLine 161 = .ok (.getfield 113, 3) := by decide +kernel
theorem dX5_isLine_164 : decode cX5_isLine 164 = .ok (.ldc2_w 179, 3) := by decide +kernel
theorem dX5_isLine_167 : decode cX5_isLine 167 = .ok (.lcmp, 1) := by decide +kernel
theorem dX5_isLine_168 : decode cX5_isLine 168 = .ok (.ifCond .ne 8, 3) := by decide +kernel
theorem dX5_isLine_171 : decode cX5_isLine 171 = .ok (.bipush 10, 2) := by decide +kernel
theorem dX5_isLine_173 : decode cX5_isLine 173 = .ok (.goto 36, 3) := by decide +kernel
theorem dX5_isLine_176 : decode cX5_isLine 176 = .ok (.aload_n 0, 1) := by decide +kernel
theorem dX5_isLine_177 : decode cX5_isLine 177 = .ok (.getfield 113, 3) := by decide +kernel
theorem dX5_isLine_180 : decode cX5_isLine 180 = .ok (.ldc2_w 181, 3) := by decide +kernel
theorem dX5_isLine_183 : decode cX5_isLine 183 = .ok (.lcmp, 1) := by decide +kernel
theorem dX5_isLine_184 : decode cX5_isLine 184 = .ok (.ifCond .ne 8, 3) := by decide +kernel
theorem dX5_isLine_187 : decode cX5_isLine 187 = .ok (.bipush 11, 2) := by decide +kernel
theorem dX5_isLine_189 : decode cX5_isLine 189 = .ok (.goto 20, 3) := by decide +kernel
theorem dX5_isLine_192 : decode cX5_isLine 192 = .ok (.aload_n 0, 1) := by decide +kernel
theorem dX5_isLine_193 : decode cX5_isLine 193 = .ok (.getfield 113, 3) := by decide +kernel
theorem dX5_isLine_196 : decode cX5_isLine 196 = .ok (.ldc2_w 183, 3) := by decide +kernel
theorem dX5_isLine_199 : decode cX5_isLine 199 = .ok (.lcmp, 1) := by decide +kernel
theorem dX5_isLine_200 : decode cX5_isLine 200 = .ok (.ifCond .ne 8, 3) := by decide +kernel
theorem dX5_isLine_203 : decode cX5_isLine 203 = .ok (.bipush 12, 2) := by decide +kernel
theorem dX5_isLine_205 : decode cX5_isLine 205 = .ok (.goto 4, 3) := by decide +kernel
theorem dX5_isLine_208 : decode cX5_isLine 208 = .ok (.iconst (-1), 1) := by decide +kernel
theorem dX5_isLine_209 : decode cX5_isLine 209 = .ok (.istore_n 3, 1) := by decide +kernel
theorem dX5_isLine_210 : decode cX5_isLine 210 = .ok (.aload_n 0, 1) := by decide +kernel
theorem dX5_isLine_211 : decode cX5_isLine 211 = .ok (.getfield 35, 3) := by decide +kernel
theorem dX5_isLine_214 : decode cX5_isLine 214 = .ok (.iload_n 1, 1) := by decide +kernel
theorem dX5_isLine_215 : decode cX5_isLine 215 = .ok (.iload_n 2, 1) := by decide +kernel
theorem dX5_isLine_216 : decode cX5_isLine 216 = .ok (.iconst (-1), 1) := by decide +kernel
theorem dX5_isLine_217 : decode cX5_isLine 217 = .ok (.if_icmp .ne 7, 3) := by decide +kernel
theorem dX5_isLine_220 : decode cX5_isLine 220 = .ok (.iload_n 3, 1) := by decide +kernel
theorem dX5_isLine_221 : decode cX5_isLine 221 = .ok (.goto 4, 3) := by decide +kernel
theorem dX5_isLine_224 : decode cX5_isLine 224 = .ok (.iload_n 2, 1) := by decide +kernel
theorem dX5_isLine_225 : decode cX5_isLine 225 = .ok (.iastore, 1) := by decide +kernel
theorem dX5_isLine_226 : decode cX5_isLine 226 = .ok (.aload_n 0, 1) := by decide +kernel
theorem dX5_isLine_227 : decode cX5_isLine 227 = .ok (.getfield 35, 3) := by decide +kernel
theorem dX5_isLine_230 : decode cX5_isLine 230 = .ok (.iload_n 1, 1) := by decide +kernel
theorem dX5_isLine_231 : decode cX5_isLine 231 = .ok (.iaload, 1) := by decide +kernel
theorem dX5_isLine_232 : decode cX5_isLine 232 = .ok (.tableswitch 174 0 12 #[68, 74, 110, 110, 110, 110, 131, 137, 143, 143, 143, 145, 157], 68) := by decide +kernel
theorem dX5_isLine_300 : decode cX5_isLine 300 = .ok (.aload_n 0, 1) := by decide +kernel
theorem dX5_isLine_301 : decode cX5_isLine 301 = .ok (.iload_n 1, 1) := by decide +kernel
theorem dX5_isLine_302 : decode cX5_isLine 302 = .ok (.invokevirtual 185, 3) := by decide +kernel
theorem dX5_isLine_305 : decode cX5_isLine 305 = .ok (.ireturn, 1) := by decide +kernel
theorem dX5_isLine_306 : decode cX5_isLine 306 = .ok (.aload_n 0, 1) := by decide +kernel
theorem dX5_isLine_307 : decode cX5_isLine 307 = .ok (.iload_n 1, 1) := by decide +kernel
theorem dX5_isLine_308 : decode cX5_isLine 308 = .ok (.iconst 1, 1) := by decide +kernel
theorem dX5_isLine_309 : decode cX5_isLine 309 = .ok (.iadd, 1) := by decide +kernel
theorem dX5_isLine_310 : decode cX5_isLine 310 = .ok (.iconst 0, 1) := by decide +kernel
theorem dX5_isLine_311 : decode cX5_isLine 311 = .ok (.aload_n 0, 1) := by decide +kernel
theorem dX5_isLine_312 : decode cX5_isLine 312 = .ok (.getfield 140, 3) := by decide +kernel
theorem dX5_isLine_315 : decode cX5_isLine 315 = .ok (.iconst 1, 1) := by decide +kernel
theorem dX5_isLine_316 : decode cX5_isLine 316 = .ok (.isub, 1) := by decide +kernel
theorem dX5_isLine_317 : decode cX5_isLine 317 = .ok (.invokevirtual 137, 3) := by decide +kernel
theorem dX5_isLine_320 : decode cX5_isLine 320 = .ok (.ifCond .eq 20, 3) := by decide +kernel
theorem dX5_isLine_323 : decode cX5_isLine 323 = .ok (.aload_n 0, 1) := by decide +kernel
theorem dX5_isLine_324 : decode cX5_isLine 324 = .ok (.iload_n 1, 1) := by decide +kernel
theorem dX5_isLine_325 : decode cX5_isLine 325 = .ok (.iconst 2, 1) := by decide +kernel
theorem dX5_isLine_326 : decode cX5_isLine 326 = .ok (.iadd, 1) := by decide +kernel
theorem dX5_isLine_327 : decode cX5_isLine 327 = .ok (.iconst 0, 1) := by decide +kernel
theorem dX5_isLine_328 : decode cX5_isLine 328 = .ok (.bipush 9, 2) := by decide +kernel
theorem dX5_isLine_330 : decode cX5_isLine 330 = .ok (.invokevirtual 137, 3) := by decide +kernel
theorem dX5_isLine_333 : decode cX5_isLine 333 = .ok (.ifCond .eq 7, 3) := by decide +kernel
theorem dX5_isLine_336 : decode cX5_isLine 336 = .ok (.iconst 1, 1) := by decide +kernel
theorem dX5_isLine_337 : decode cX5_isLine 337 = .ok (.goto 4, 3) := by decide +kernel
theorem dX5_isLine_340 : decode cX5_isLine 340 = .ok (.iconst 0, 1) := by decide +kernel
theorem dX5_isLine_341 : decode cX5_isLine 341 = .ok (.ireturn, 1) := by decide +kernel
theorem dX5_isLine_342 : decode cX5_isLine 342 = .ok (.aload_n 0, 1) := by decide +kernel
theorem dX5_isLine_343 : decode cX5_isLine 343 = .ok (.iload_n 1, 1) := by decide +kernel
theorem dX5_isLine_344 : decode cX5_isLine 344 = .ok (.aload_n 0, 1) := by decide +kernel
theorem dX5_isLine_345 : decode cX5_isLine 345 = .ok (.getfield 35, 3) := by decide +kernel
theorem dX5_isLine_348 : decode cX5_isLine 348 = .ok (.iload_n 1, 1) := by decide +kernel
theorem dX5_isLine_349 : decode cX5_isLine 349 = .ok (.iaload, 1) := by decide +kernel
theorem dX5_isLine_350 : decode cX5_isLine 350 = .ok (.iconst 5, 1) := by decide +kernel
theorem dX5_isLine_351 : decode cX5_isLine 351 = .ok (.if_icmp .ne 7, 3) := by decide +kernel
theorem dX5_isLine_354 : decode cX5_isLine 354 = .ok (.iconst 1, 1) := by decide +kernel
theorem dX5_isLine_355 : decode cX5_isLine 355 = .ok (.goto 4, 3) := by decide +kernel
theorem dX5_isLine_358 : decode cX5_isLine 358 = .ok (.iconst 0, 1) := by decide +kernel
theorem dX5_isLine_359 : decode cX5_isLine 359 = .ok (.invokevirtual 189, 3) := by decide +kernel
theorem dX5_isLine_362 : decode cX5_isLine 362 = .ok (.ireturn, 1) := by decide +kernel
theorem dX5_isLine_363 : decode cX5_isLine 363 = .ok (.aload_n 0, 1) := by decide +kernel
theorem dX5_isLine_364 : decode cX5_isLine 364 = .ok (.iload_n 1, 1) := by decide +kernel
theorem dX5_isLine_365 : decode cX5_isLine 365 = .ok (.invokevirtual 193, 3) := by decide +kernel
theorem dX5_isLine_368 : decode cX5_isLine 368 = .ok (.ireturn, 1) := by decide +kernel
theorem dX5_isLine_369 : decode cX5_isLine 369 = .ok (.aload_n 0, 1) := by decide +kernel
theorem dX5_isLine_370 : decode cX5_isLine 370 = .ok (.iload_n 1, 1) := by decide +kernel
theorem dX5_isLine_371 : decode cX5_isLine 371 = .ok (.invokevirtual 196, 3) := by decide +kernel
theorem dX5_isLine_374 : decode cX5_isLine 374 = .ok (.ireturn, 1) := by decide +kernel
theorem dX5_isLine_375 : decode cX5_isLine 375 = .ok (.iconst 1, 1) := by decide +kernel
theorem dX5_isLine_376 : decode cX5_isLine 376 = .ok (.ireturn, 1) := by decide +kernel
theorem dX5_isLine_377 : decode cX5_isLine 377 = .ok (.aload_n 0, 1) := by decide +kernel
theorem dX5_isLine_378 : decode cX5_isLine 378 = .ok (.iload_n 1, 1) := by decide +kernel
theorem dX5_isLine_379 : decode cX5_isLine 379 = .ok (.iconst 1, 1) := by decide +kernel
theorem dX5_isLine_380 : decode cX5_isLine 380 = .ok (.iadd, 1) := by decide +kernel
theorem dX5_isLine_381 : decode cX5_isLine 381 = .ok (.iconst 1, 1) := by decide +kernel
theorem dX5_isLine_382 : decode cX5_isLine 382 = .ok (.sipush 9999, 3) := by decide +kernel
theorem dX5_isLine_385 : decode cX5_isLine 385 = .ok (.invokevirtual 137, 3) := by decide +kernel
theorem dX5_isLine_388 : decode cX5_isLine 388 = .ok (.ireturn, 1) := by decide +kernel
theorem dX5_isLine_389 : decode cX5_isLine 389 = .ok (.aload_n 0, 1) := by decide +kernel
theorem dX5_isLine_390 : decode cX5_isLine 390 = .ok (.iconst 0, 1) := by decide +kernel
theorem dX5_isLine_391 : decode cX5_isLine 391 = .ok (.putfield 143, 3) := by decide +kernel
theorem dX5_isLine_394 : decode cX5_isLine 394 = .ok (.aload_n 0, 1) := by decide +kernel
theorem dX5_isLine_395 : decode cX5_isLine 395 = .ok (.iconst 0, 1) := by decide +kernel
theorem dX5_isLine_396 : decode cX5_isLine 396 = .ok (.putfield 146, 3) := by decide +kernel
theorem dX5_isLine_399 : decode cX5_isLine 399 = .ok (.aload_n 0, 1) := by decide +kernel
theorem dX5_isLine_400 : decode cX5_isLine 400 = .ok (.iconst 0, 1) := by decide +kernel
theorem dX5_isLine_401 : decode cX5_isLine 401 = .ok (.putfield 152, 3) := by decide +kernel
theorem dX5_isLine_404 : decode cX5_isLine 404 = .ok (.iconst 1, 1) := by decide +kernel
theorem dX5_isLine_405 : decode cX5_isLine 405 = .ok (.ireturn, 1) := by decide +kernel
theorem dX5_isLine_406 : decode cX5_isLine 406 = .ok (.aload_n 0, 1) := by decide +kernel
theorem dX5_isLine_407 : decode cX5_isLine 407 = .ok (.invokevirtual 133, 3) := by decide +kernel
theorem dX5_isLine_410 : decode cX5_isLine 410 = .ok (.ireturn, 1) := by decide +kernel
theorem dX5_isRead_0 : decode cX5_isRead 0 = .ok (.aload_n 0, 1) := by decide +kernel
theorem dX5_isRead_1 : decode cX5_isRead 1 = .ok (.iconst 0, 1) := by decide +kernel
theorem dX5_isRead_2 : decode cX5_isRead 2 = .ok (.putfield 99, 3) := by decide +kernel
theorem dX5_isRead_5 : decode cX5_isRead 5 = .ok (.aload_n 0, 1) := by decide +kernel
theorem dX5_isRead_6 : decode cX5_isRead 6 = .ok (.iconst 0, 1) := by decide +kernel
theorem dX5_isRead_7 : decode cX5_isRead 7 = .ok (.putfield 199, 3) := by decide +kernel
theorem dX5_isRead_10 : decode cX5_isRead 10 = .ok (.aload_n 0, 1) := by decide +kernel
theorem dX5_isRead_11 : decode cX5_isRead 11 = .ok (.aload_n 0, 1) := by decide +kernel
theorem dX5_isRead_12 : decode cX5_isRead 12 = .ok (.getfield 7, 3) := by decide +kernel
theorem dX5_isRead_15 : decode cX5_isRead 15 = .ok (.putfield 140, 3) := by decide +kernel
theorem dX5_isRead_18 : decode cX5_isRead 18 = .ok (.aload_n 0, 1) := by decide +kernel
theorem dX5_isRead_19 : decode cX5_isRead 19 = .ok (.aload_n 0, 1) := by decide +kernel
theorem dX5_isRead_20 : decode cX5_isRead 20 = .ok (.getfield 78, 3) := by decide +kernel
theorem dX5_isRead_23 : decode cX5_isRead 23 = .ok (.putfield 143, 3) := by decide +kernel
theorem dX5_isRead_26 : decode cX5_isRead 26 = .ok (.aload_n 0, 1) := by decide +kernel
theorem dX5_isRead_27 : decode cX5_isRead 27 = .ok (.aload_n 0, 1) := by decide +kernel
theorem dX5_isRead_28 : decode cX5_isRead 28 = .ok (.getfield 85, 3) := by decide +kernel
theorem dX5_isRead_31 : decode cX5_isRead 31 = .ok (.putfield 149, 3) := by decide +kernel
theorem dX5_isRead_34 : decode cX5_isRead 34 = .ok (.aload_n 0, 1) := by decide +kernel
theorem dX5_isRead_35 : decode cX5_isRead 35 = .ok (.aload_n 0, 1) := by decide +kernel
theorem dX5_isRead_36 : decode cX5_isRead 36 = .ok (.getfield 88, 3) := by decide +kernel
theorem dX5_isRead_39 : decode cX5_isRead 39 = .ok (.putfield 152, 3) := by decide +kernel
theorem dX5_isRead_42 : decode cX5_isRead 42 = .ok (.aload_n 0, 1) := by decide +kernel
theorem dX5_isRead_43 : decode cX5_isRead 43 = .ok (.iconst 0, 1) := by decide +kernel
theorem dX5_isRead_44 : decode cX5_isRead 44 = .ok (.putfield 146, 3) := by decide +kernel
theorem dX5_isRead_47 : decode cX5_isRead 47 = .ok (.iconst 0, 1) := by decide +kernel
theorem dX5_isRead_48 : decode cX5_isRead 48 = .ok (.istore_n 1, 1) := by decide +kernel
theorem dX5_isRead_49 : decode cX5_isRead 49 = .ok (.iload_n 1, 1) := by decide +kernel
theorem dX5_isRead_50 : decode cX5_isRead 50 = .ok (.aload_n 0, 1) := by decide +kernel
theorem dX5_isRead_51 : decode cX5_isRead 51 = .ok (.getfield 78, 3) := by decide +kernel
theorem dX5_isRead_54 : decode cX5_isRead 54 = .ok (.if_icmp .ge 56, 3) := by decide +kernel
theorem dX5_isRead_57 : decode cX5_isRead 57 = .ok (.aload_n 0, 1) := by decide +kernel
theorem dX5_isRead_58 : decode cX5_isRead 58 = .ok (.aload_n 0, 1) := by decide +kernel
theorem dX5_isRead_59 : decode cX5_isRead 59 = .ok (.getfield 146, 3) := by decide +kernel
theorem dX5_isRead_62 : decode cX5_isRead 62 = .ok (.iconst 1, 1) := by decide +kernel
theorem dX5_isRead_63 : decode cX5_isRead 63 = .ok (.aload_n 0, 1) := by decide +kernel
theorem dX5_isRead_64 : decode cX5_isRead 64 = .ok (.getfield 20, 3) := by decide +kernel
theorem dX5_isRead_67 : decode cX5_isRead 67 = .ok (.iload_n 1, 1) := by decide +kernel
theorem dX5_isRead_68 : decode cX5_isRead 68 = .ok (.iaload, 1) := by decide +kernel
theorem dX5_isRead_69 : decode cX5_isRead 69 = .ok (.ishl, 1) := by decide +kernel
theorem dX5_isRead_70 : decode cX5_isRead 70 = .ok (.ior, 1) := by decide +kernel
theorem dX5_isRead_71 : decode cX5_isRead 71 = .ok (.aload_n 0, 1) := by decide +kernel
theorem dX5_isRead_72 : decode cX5_isRead 72 = .ok (.getfield 17, 3) := by decide +kernel
theorem dX5_isRead_75 : decode cX5_isRead 75 = .ok (.iload_n 1, 1) := by decide +kernel
theorem dX5_isRead_76 : decode cX5_isRead 76 = .ok (.iaload, 1) := by decide +kernel
theorem dX5_isRead_77 : decode cX5_isRead 77 = .ok (.iconst 3, 1) := by decide +kernel
theorem dX5_isRead_78 : decode cX5_isRead 78 = .ok (.if_icmp .ne 21, 3) := by decide +kernel
theorem dX5_isRead_81 : decode cX5_isRead 81 = .ok (.iconst 1, 1) := by decide +kernel
theorem dX5_isRead_82 : decode cX5_isRead 82 = .ok (.aload_n 0, 1) := by decide +kernel
theorem dX5_isRead_83 : decode cX5_isRead 83 = .ok (.getfield 20, 3) := by decide +kernel
theorem dX5_isRead_86 : decode cX5_isRead 86 = .ok (.iload_n 1, 1) := by decide +kernel
theorem dX5_isRead_87 : decode cX5_isRead 87 = .ok (.iaload, 1) := by decide +kernel
theorem dX5_isRead_88 : decode cX5_isRead 88 = .ok (.iconst 1, 1) := by decide +kernel
theorem dX5_isRead_89 : decode cX5_isRead 89 = .ok (.iadd, 1) := by decide +kernel
theorem dX5_isRead_90 : decode cX5_isRead 90 = .ok (.aload_n 0, 1) := by decide +kernel
theorem dX5_isRead_91 : decode cX5_isRead 91 = .ok (.getfield 7, 3) := by decide +kernel
theorem dX5_isRead_94 : decode cX5_isRead 94 = .ok (.irem, 1) := by decide +kernel
theorem dX5_isRead_95 : decode cX5_isRead 95 = .ok (.ishl, 1) := by decide +kernel
theorem dX5_isRead_96 : decode cX5_isRead 96 = .ok (.goto 4, 3) := by decide +kernel
theorem dX5_isRead_99 : decode cX5_isRead 99 = .ok (.iconst 0, 1) := by decide +kernel
theorem dX5_isRead_100 : decode cX5_isRead 100 = .ok (.ior, 1) := by decide +kernel
theorem dX5_isRead_101 : decode cX5_isRead 101 = .ok (.putfield 146, 3) := by decide +kernel
theorem dX5_isRead_104 : decode cX5_isRead 104 = .ok (.iinc 1 1, 3) := by decide +kernel
theorem dX5_isRead_107 : decode cX5_isRead 107 = .ok (.goto (-58), 3) := by decide +kernel
theorem dX5_isRead_110 : decode cX5_isRead 110 = .ok (.iconst 1, 1) := by decide +kernel
theorem dX5_isRead_111 : decode cX5_isRead 111 = .ok (.istore_n 1, 1) := by decide +kernel
theorem dX5_isRead_112 : decode cX5_isRead 112 = .ok (.iload_n 1, 1) := by decide +kernel
theorem dX5_isRead_113 : decode cX5_isRead 113 = .ok (.ifCond .eq 61, 3) := by decide +kernel
theorem dX5_isRead_116 : decode cX5_isRead 116 = .ok (.aload_n 0, 1) := by decide +kernel
theorem dX5_isRead_117 : decode cX5_isRead 117 = .ok (.iconst 3, 1) := by decide +kernel
theorem dX5_isRead_118 : decode cX5_isRead 118 = .ok (.aload_n 0, 1) := by decide +kernel
theorem dX5_isRead_119 : decode cX5_isRead 119 = .ok (.getfield 199, 3) := by decide +kernel
theorem dX5_isRead_122 : decode cX5_isRead 122 = .ok (.imul, 1) := by decide +kernel
theorem dX5_isRead_123 : decode cX5_isRead 123 = .ok (.invokevirtual 202, 3) := by decide +kernel
theorem dX5_isRead_126 : decode cX5_isRead 126 = .ok (.ifCond .ne 5, 3) := by decide +kernel
theorem dX5_isRead_129 : decode cX5_isRead 129 = .ok (.iconst 0, 1) := by decide +kernel
theorem dX5_isRead_130 : decode cX5_isRead 130 = .ok (.ireturn, 1) := by decide +kernel
theorem dX5_isRead_131 : decode cX5_isRead 131 = .ok (.aload_n 0, 1) := by decide +kernel
theorem dX5_isRead_132 : decode cX5_isRead 132 = .ok (.dup, 1) := by decide +kernel
theorem dX5_isRead_133 : decode cX5_isRead 133 = .ok (.getfield 199, 3) := by decide +kernel
theorem dX5_isRead_136 : decode cX5_isRead 136 = .ok (.iconst 1, 1) := by decide +kernel
theorem dX5_isRead_137 : decode cX5_isRead 137 = .ok (.iadd, 1) := by decide +kernel
theorem dX5_isRead_138 : decode cX5_isRead 138 = .ok (.putfield 199, 3) := by decide +kernel
theorem dX5_isRead_141 : decode cX5_isRead 141 = .ok (.aload_n 0, 1) := by decide +kernel
theorem dX5_isRead_142 : decode cX5_isRead 142 = .ok (.invokevirtual 130, 3) := by decide +kernel
theorem dX5_isRead_145 : decode cX5_isRead 145 = .ok (.aload_n 0, 1) := by decide +kernel
theorem dX5_isRead_146 : decode cX5_isRead 146 = .ok (.getfield 113, 3) := by decide +kernel
theorem dX5_isRead_149 : decode cX5_isRead 149 = .ok (.ldc2_w 125, 3) := by decide +kernel
theorem dX5_isRead_152 : decode cX5_isRead 152 = .ok (.lcmp, 1) := by decide +kernel
theorem dX5_isRead_153 : decode cX5_isRead 153 = .ok (.ifCond .ne 16, 3) := by decide +kernel
theorem dX5_isRead_156 : decode cX5_isRead 156 = .ok (.aload_n 0, 1) := by decide +kernel
theorem dX5_isRead_157 : decode cX5_isRead 157 = .ok (.getfield 199, 3) := by decide +kernel
theorem dX5_isRead_160 : decode cX5_isRead 160 = .ok (.bipush 12, 2) := by decide +kernel
theorem dX5_isRead_162 : decode cX5_isRead 162 = .ok (.if_icmp .ge 7, 3) := by decide +kernel
theorem dX5_isRead_165 : decode cX5_isRead 165 = .ok (.iconst 1, 1) := by decide +kernel
theorem dX5_isRead_166 : decode cX5_isRead 166 = .ok (.goto 4, 3) := by decide +kernel
theorem dX5_isRead_169 : decode cX5_isRead 169 = .ok (.iconst 0, 1) := by decide +kernel
theorem dX5_isRead_170 : decode cX5_isRead 170 = .ok (.istore_n 1, 1) := by decide +kernel
theorem dX5_isRead_171 : decode cX5_isRead 171 = .ok (.goto (-59), 3) := by decide +kernel
theorem dX5_isRead_174 : decode cX5_isRead 174 = .ok (.aload_n 0, 1) := by decide +kernel
theorem dX5_isRead_175 : decode cX5_isRead 175 = .ok (.getfield 113, 3) := by decide +kernel
theorem dX5_isRead_178 : decode cX5_isRead 178 = .ok (.ldc2_w 111, 3) := by decide +kernel
theorem dX5_isRead_181 : decode cX5_isRead 181 = .ok (.lcmp, 1) := by decide +kernel
theorem dX5_isRead_182 : decode cX5_isRead 182 = .ok (.ifCond .eq 10, 3) := by decide +kernel
theorem dX5_isRead_185 : decode cX5_isRead 185 = .ok (.aload_n 0, 1) := by decide +kernel
theorem dX5_isRead_186 : decode cX5_isRead 186 = .ok (.invokevirtual 133, 3) := by decide +kernel
theorem dX5_isRead_189 : decode cX5_isRead 189 = .ok (.ifCond .eq 7, 3) := by decide +kernel
theorem dX5_isRead_192 : decode cX5_isRead 192 = .ok (.iconst 1, 1) := by decide +kernel
theorem dX5_isRead_193 : decode cX5_isRead 193 = .ok (.goto 4, 3) := by decide +kernel
theorem dX5_isRead_196 : decode cX5_isRead 196 = .ok (.iconst 0, 1) := by decide +kernel
theorem dX5_isRead_197 : decode cX5_isRead 197 = .ok (.ireturn, 1) := by decide +kernel
theorem dX5_fault_0 : decode cX5_fault 0 = .ok (.aload_n 0, 1) := by decide +kernel
theorem dX5_fault_1 : decode cX5_fault 1 = .ok (.invokevirtual 205, 3) := by decide +kernel
theorem dX5_fault_4 : decode cX5_fault 4 = .ok (.ifCond .eq 7, 3) := by decide +kernel
theorem dX5_fault_7 : decode cX5_fault 7 = .ok (.iconst (-1), 1) := by decide +kernel
theorem dX5_fault_8 : decode cX5_fault 8 = .ok (.goto 7, 3) := by decide +kernel
theorem dX5_fault_11 : decode cX5_fault 11 = .ok (.aload_n 0, 1) := by decide +kernel
theorem dX5_fault_12 : decode cX5_fault 12 = .ok (.getfield 127, 3) := by decide +kernel
theorem dX5_fault_15 : decode cX5_fault 15 = .ok (.ireturn, 1) := by decide +kernel
theorem dX5_doLine_0 : decode cX5_doLine 0 = .ok (.aload_n 0, 1) := by decide +kernel
theorem dX5_doLine_1 : decode cX5_doLine 1 = .ok (.getfield 35, 3) := by decide +kernel
theorem dX5_doLine_4 : decode cX5_doLine 4 = .ok (.iload_n 1, 1) := by decide +kernel
theorem dX5_doLine_5 : decode cX5_doLine 5 = .ok (.iconst 1, 1) := by decide +kernel
theorem dX5_doLine_6 : decode cX5_doLine 6 = .ok (.iadd, 1) := by decide +kernel
theorem dX5_doLine_7 : decode cX5_doLine 7 = .ok (.iaload, 1) := by decide +kernel
theorem dX5_doLine_8 : decode cX5_doLine 8 = .ok (.istore_n 2, 1) := by decide +kernel
theorem dX5_doLine_9 : decode cX5_doLine 9 = .ok (.aload_n 0, 1) := by decide +kernel
theorem dX5_doLine_10 : decode cX5_doLine 10 = .ok (.getfield 35, 3) := by decide +kernel
theorem dX5_doLine_13 : decode cX5_doLine 13 = .ok (.iload_n 1, 1) := by decide +kernel
theorem dX5_doLine_14 : decode cX5_doLine 14 = .ok (.iconst 2, 1) := by decide +kernel
theorem dX5_doLine_15 : decode cX5_doLine 15 = .ok (.iadd, 1) := by decide +kernel
theorem dX5_doLine_16 : decode cX5_doLine 16 = .ok (.iaload, 1) := by decide +kernel
theorem dX5_doLine_17 : decode cX5_doLine 17 = .ok (.istore_n 3, 1) := by decide +kernel
theorem dX5_doLine_18 : decode cX5_doLine 18 = .ok (.aload_n 0, 1) := by decide +kernel
theorem dX5_doLine_19 : decode cX5_doLine 19 = .ok (.getfield 35, 3) := by decide +kernel
theorem dX5_doLine_22 : decode cX5_doLine 22 = .ok (.iload_n 1, 1) := by decide +kernel
theorem dX5_doLine_23 : decode cX5_doLine 23 = .ok (.iaload, 1) := by decide +kernel
theorem dX5_doLine_24 : decode cX5_doLine 24 = .ok (.tableswitch 221 0 12 #[68, 80, 90, 90, 90, 90, 130, 169, 221, 221, 221, 221, 208], 68) := by decide +kernel
theorem dX5_doLine_92 : decode cX5_doLine 92 = .ok (.aload_n 0, 1) := by decide +kernel
theorem dX5_doLine_93 : decode cX5_doLine 93 = .ok (.invokevirtual 72, 3) := by decide +kernel
theorem dX5_doLine_96 : decode cX5_doLine 96 = .ok (.aload_n 0, 1) := by decide +kernel
theorem dX5_doLine_97 : decode cX5_doLine 97 = .ok (.iload_n 2, 1) := by decide +kernel
theorem dX5_doLine_98 : decode cX5_doLine 98 = .ok (.putfield 7, 3) := by decide +kernel
theorem dX5_doLine_101 : decode cX5_doLine 101 = .ok (.goto 180, 3) := by decide +kernel
theorem dX5_doLine_104 : decode cX5_doLine 104 = .ok (.aload_n 0, 1) := by decide +kernel
theorem dX5_doLine_105 : decode cX5_doLine 105 = .ok (.getfield 13, 3) := by decide +kernel
theorem dX5_doLine_108 : decode cX5_doLine 108 = .ok (.iload_n 2, 1) := by decide +kernel
theorem dX5_doLine_109 : decode cX5_doLine 109 = .ok (.iload_n 3, 1) := by decide +kernel
theorem dX5_doLine_110 : decode cX5_doLine 110 = .ok (.iastore, 1) := by decide +kernel
theorem dX5_doLine_111 : decode cX5_doLine 111 = .ok (.goto 170, 3) := by decide +kernel
theorem dX5_doLine_114 : decode cX5_doLine 114 = .ok (.aload_n 0, 1) := by decide +kernel
theorem dX5_doLine_115 : decode cX5_doLine 115 = .ok (.getfield 17, 3) := by decide +kernel
theorem dX5_doLine_118 : decode cX5_doLine 118 = .ok (.aload_n 0, 1) := by decide +kernel
theorem dX5_doLine_119 : decode cX5_doLine 119 = .ok (.getfield 78, 3) := by decide +kernel
theorem dX5_doLine_122 : decode cX5_doLine 122 = .ok (.aload_n 0, 1) := by decide +kernel
theorem dX5_doLine_123 : decode cX5_doLine 123 = .ok (.getfield 35, 3) := by decide +kernel
theorem dX5_doLine_126 : decode cX5_doLine 126 = .ok (.iload_n 1, 1) := by decide +kernel
theorem dX5_doLine_127 : decode cX5_doLine 127 = .ok (.iaload, 1) := by decide +kernel
theorem dX5_doLine_128 : decode cX5_doLine 128 = .ok (.iconst 2, 1) := by decide +kernel
theorem dX5_doLine_129 : decode cX5_doLine 129 = .ok (.isub, 1) := by decide +kernel
theorem dX5_doLine_130 : decode cX5_doLine 130 = .ok (.iastore, 1) := by decide +kernel
theorem dX5_doLine_131 : decode cX5_doLine 131 = .ok (.aload_n 0, 1) := by decide +kernel
theorem dX5_doLine_132 : decode cX5_doLine 132 = .ok (.getfield 20, 3) := by decide +kernel
theorem dX5_doLine_135 : decode cX5_doLine 135 = .ok (.aload_n 0, 1) := by decide +kernel
theorem dX5_doLine_136 : decode cX5_doLine 136 = .ok (.getfield 78, 3) := by decide +kernel
theorem dX5_doLine_139 : decode cX5_doLine 139 = .ok (.iload_n 2, 1) := by decide +kernel
theorem dX5_doLine_140 : decode cX5_doLine 140 = .ok (.iastore, 1) := by decide +kernel
theorem dX5_doLine_141 : decode cX5_doLine 141 = .ok (.aload_n 0, 1) := by decide +kernel
theorem dX5_doLine_142 : decode cX5_doLine 142 = .ok (.dup, 1) := by decide +kernel
theorem dX5_doLine_143 : decode cX5_doLine 143 = .ok (.getfield 78, 3) := by decide +kernel
theorem dX5_doLine_146 : decode cX5_doLine 146 = .ok (.iconst 1, 1) := by decide +kernel
theorem dX5_doLine_147 : decode cX5_doLine 147 = .ok (.iadd, 1) := by decide +kernel
theorem dX5_doLine_148 : decode cX5_doLine 148 = .ok (.putfield 78, 3) := by decide +kernel
theorem dX5_doLine_151 : decode cX5_doLine 151 = .ok (.goto 130, 3) := by decide +kernel
theorem dX5_doLine_154 : decode cX5_doLine 154 = .ok (.aload_n 0, 1) := by decide +kernel
theorem dX5_doLine_155 : decode cX5_doLine 155 = .ok (.getfield 23, 3) := by decide +kernel
theorem dX5_doLine_158 : decode cX5_doLine 158 = .ok (.iconst 2, 1) := by decide +kernel
theorem dX5_doLine_159 : decode cX5_doLine 159 = .ok (.aload_n 0, 1) := by decide +kernel
theorem dX5_doLine_160 : decode cX5_doLine 160 = .ok (.getfield 85, 3) := by decide +kernel
theorem dX5_doLine_163 : decode cX5_doLine 163 = .ok (.imul, 1) := by decide +kernel
theorem dX5_doLine_164 : decode cX5_doLine 164 = .ok (.iload_n 2, 1) := by decide +kernel
theorem dX5_doLine_165 : decode cX5_doLine 165 = .ok (.iastore, 1) := by decide +kernel
theorem dX5_doLine_166 : decode cX5_doLine 166 = .ok (.aload_n 0, 1) := by decide +kernel
theorem dX5_doLine_167 : decode cX5_doLine 167 = .ok (.getfield 23, 3) := by decide +kernel
theorem dX5_doLine_170 : decode cX5_doLine 170 = .ok (.iconst 2, 1) := by decide +kernel
theorem dX5_doLine_171 : decode cX5_doLine 171 = .ok (.aload_n 0, 1) := by decide +kernel
theorem dX5_doLine_172 : decode cX5_doLine 172 = .ok (.getfield 85, 3) := by decide +kernel
theorem dX5_doLine_175 : decode cX5_doLine 175 = .ok (.imul, 1) := by decide +kernel
theorem dX5_doLine_176 : decode cX5_doLine 176 = .ok (.iconst 1, 1) := by decide +kernel
theorem dX5_doLine_177 : decode cX5_doLine 177 = .ok (.iadd, 1) := by decide +kernel
theorem dX5_doLine_178 : decode cX5_doLine 178 = .ok (.iload_n 3, 1) := by decide +kernel
theorem dX5_doLine_179 : decode cX5_doLine 179 = .ok (.iastore, 1) := by decide +kernel
theorem dX5_doLine_180 : decode cX5_doLine 180 = .ok (.aload_n 0, 1) := by decide +kernel
theorem dX5_doLine_181 : decode cX5_doLine 181 = .ok (.dup, 1) := by decide +kernel
theorem dX5_doLine_182 : decode cX5_doLine 182 = .ok (.getfield 85, 3) := by decide +kernel
theorem dX5_doLine_185 : decode cX5_doLine 185 = .ok (.iconst 1, 1) := by decide +kernel
theorem dX5_doLine_186 : decode cX5_doLine 186 = .ok (.iadd, 1) := by decide +kernel
theorem dX5_doLine_187 : decode cX5_doLine 187 = .ok (.putfield 85, 3) := by decide +kernel
theorem dX5_doLine_190 : decode cX5_doLine 190 = .ok (.goto 91, 3) := by decide +kernel
theorem dX5_doLine_193 : decode cX5_doLine 193 = .ok (.aload_n 0, 1) := by decide +kernel
theorem dX5_doLine_194 : decode cX5_doLine 194 = .ok (.getfield 26, 3) := by decide +kernel
theorem dX5_doLine_197 : decode cX5_doLine 197 = .ok (.iconst 2, 1) := by decide +kernel
theorem dX5_doLine_198 : decode cX5_doLine 198 = .ok (.aload_n 0, 1) := by decide +kernel
theorem dX5_doLine_199 : decode cX5_doLine 199 = .ok (.getfield 88, 3) := by decide +kernel
theorem dX5_doLine_202 : decode cX5_doLine 202 = .ok (.imul, 1) := by decide +kernel
theorem dX5_doLine_203 : decode cX5_doLine 203 = .ok (.iload_n 2, 1) := by decide +kernel
theorem dX5_doLine_204 : decode cX5_doLine 204 = .ok (.iastore, 1) := by decide +kernel
theorem dX5_doLine_205 : decode cX5_doLine 205 = .ok (.aload_n 0, 1) := by decide +kernel
theorem dX5_doLine_206 : decode cX5_doLine 206 = .ok (.getfield 26, 3) := by decide +kernel
theorem dX5_doLine_209 : decode cX5_doLine 209 = .ok (.iconst 2, 1) := by decide +kernel
theorem dX5_doLine_210 : decode cX5_doLine 210 = .ok (.aload_n 0, 1) := by decide +kernel
theorem dX5_doLine_211 : decode cX5_doLine 211 = .ok (.getfield 88, 3) := by decide +kernel
theorem dX5_doLine_214 : decode cX5_doLine 214 = .ok (.imul, 1) := by decide +kernel
theorem dX5_doLine_215 : decode cX5_doLine 215 = .ok (.iconst 1, 1) := by decide +kernel
theorem dX5_doLine_216 : decode cX5_doLine 216 = .ok (.iadd, 1) := by decide +kernel
theorem dX5_doLine_217 : decode cX5_doLine 217 = .ok (.iload_n 3, 1) := by decide +kernel
theorem dX5_doLine_218 : decode cX5_doLine 218 = .ok (.iastore, 1) := by decide +kernel
theorem dX5_doLine_219 : decode cX5_doLine 219 = .ok (.aload_n 0, 1) := by decide +kernel
theorem dX5_doLine_220 : decode cX5_doLine 220 = .ok (.dup, 1) := by decide +kernel
theorem dX5_doLine_221 : decode cX5_doLine 221 = .ok (.getfield 88, 3) := by decide +kernel
theorem dX5_doLine_224 : decode cX5_doLine 224 = .ok (.iconst 1, 1) := by decide +kernel
theorem dX5_doLine_225 : decode cX5_doLine 225 = .ok (.iadd, 1) := by decide +kernel
theorem dX5_doLine_226 : decode cX5_doLine 226 = .ok (.putfield 88, 3) := by decide +kernel
theorem dX5_doLine_229 : decode cX5_doLine 229 = .ok (.goto 52, 3) := by decide +kernel
theorem dX5_doLine_232 : decode cX5_doLine 232 = .ok (.aload_n 0, 1) := by decide +kernel
theorem dX5_doLine_233 : decode cX5_doLine 233 = .ok (.iconst 0, 1) := by decide +kernel
theorem dX5_doLine_234 : decode cX5_doLine 234 = .ok (.putfield 78, 3) := by decide +kernel
theorem dX5_doLine_237 : decode cX5_doLine 237 = .ok (.aload_n 0, 1) := by decide +kernel
theorem dX5_doLine_238 : decode cX5_doLine 238 = .ok (.iconst 0, 1) := by decide +kernel
theorem dX5_doLine_239 : decode cX5_doLine 239 = .ok (.putfield 88, 3) := by decide +kernel
theorem dX5_doLine_242 : decode cX5_doLine 242 = .ok (.goto 39, 3) := by decide +kernel
theorem dX5_doLine_245 : decode cX5_doLine 245 = .ok (.aload_n 0, 1) := by decide +kernel
theorem dX5_doLine_246 : decode cX5_doLine 246 = .ok (.aload_n 0, 1) := by decide +kernel
theorem dX5_doLine_247 : decode cX5_doLine 247 = .ok (.getfield 35, 3) := by decide +kernel
theorem dX5_doLine_250 : decode cX5_doLine 250 = .ok (.iload_n 1, 1) := by decide +kernel
theorem dX5_doLine_251 : decode cX5_doLine 251 = .ok (.iaload, 1) := by decide +kernel
theorem dX5_doLine_252 : decode cX5_doLine 252 = .ok (.bipush 8, 2) := by decide +kernel
theorem dX5_doLine_254 : decode cX5_doLine 254 = .ok (.isub, 1) := by decide +kernel
theorem dX5_doLine_255 : decode cX5_doLine 255 = .ok (.putfield 91, 3) := by decide +kernel
theorem dX5_doLine_258 : decode cX5_doLine 258 = .ok (.aload_n 0, 1) := by decide +kernel
theorem dX5_doLine_259 : decode cX5_doLine 259 = .ok (.aload_n 0, 1) := by decide +kernel
theorem dX5_doLine_260 : decode cX5_doLine 260 = .ok (.getfield 35, 3) := by decide +kernel
theorem dX5_doLine_263 : decode cX5_doLine 263 = .ok (.iload_n 1, 1) := by decide +kernel
theorem dX5_doLine_264 : decode cX5_doLine 264 = .ok (.iaload, 1) := by decide +kernel
theorem dX5_doLine_265 : decode cX5_doLine 265 = .ok (.bipush 11, 2) := by decide +kernel
theorem dX5_doLine_267 : decode cX5_doLine 267 = .ok (.if_icmp .ne 7, 3) := by decide +kernel
theorem dX5_doLine_270 : decode cX5_doLine 270 = .ok (.iload_n 2, 1) := by decide +kernel
theorem dX5_doLine_271 : decode cX5_doLine 271 = .ok (.goto 7, 3) := by decide +kernel
theorem dX5_doLine_274 : decode cX5_doLine 274 = .ok (.aload_n 0, 1) := by decide +kernel
theorem dX5_doLine_275 : decode cX5_doLine 275 = .ok (.getfield 29, 3) := by decide +kernel
theorem dX5_doLine_278 : decode cX5_doLine 278 = .ok (.putfield 29, 3) := by decide +kernel
theorem dX5_doLine_281 : decode cX5_doLine 281 = .ok (.return_, 1) := by decide +kernel
theorem dX5_green_0 : decode cX5_green 0 = .ok (.aload_n 0, 1) := by decide +kernel
theorem dX5_green_1 : decode cX5_green 1 = .ok (.invokevirtual 205, 3) := by decide +kernel
theorem dX5_green_4 : decode cX5_green 4 = .ok (.ifCond .ne 6, 3) := by decide +kernel
theorem dX5_green_7 : decode cX5_green 7 = .ok (.bipush (-4), 2) := by decide +kernel
theorem dX5_green_9 : decode cX5_green 9 = .ok (.ireturn, 1) := by decide +kernel
theorem dX5_green_10 : decode cX5_green 10 = .ok (.iconst 0, 1) := by decide +kernel
theorem dX5_green_11 : decode cX5_green 11 = .ok (.istore_n 1, 1) := by decide +kernel
theorem dX5_green_12 : decode cX5_green 12 = .ok (.iload_n 1, 1) := by decide +kernel
theorem dX5_green_13 : decode cX5_green 13 = .ok (.aload_n 0, 1) := by decide +kernel
theorem dX5_green_14 : decode cX5_green 14 = .ok (.getfield 199, 3) := by decide +kernel
theorem dX5_green_17 : decode cX5_green 17 = .ok (.if_icmp .ge 16, 3) := by decide +kernel
theorem dX5_green_20 : decode cX5_green 20 = .ok (.aload_n 0, 1) := by decide +kernel
theorem dX5_green_21 : decode cX5_green 21 = .ok (.iconst 3, 1) := by decide +kernel
theorem dX5_green_22 : decode cX5_green 22 = .ok (.iload_n 1, 1) := by decide +kernel
theorem dX5_green_23 : decode cX5_green 23 = .ok (.imul, 1) := by decide +kernel
theorem dX5_green_24 : decode cX5_green 24 = .ok (.invokevirtual 208, 3) := by decide +kernel
theorem dX5_green_27 : decode cX5_green 27 = .ok (.iinc 1 1, 3) := by decide +kernel
theorem dX5_green_30 : decode cX5_green 30 = .ok (.goto (-18), 3) := by decide +kernel
theorem dX5_green_33 : decode cX5_green 33 = .ok (.aload_n 0, 1) := by decide +kernel
theorem dX5_green_34 : decode cX5_green 34 = .ok (.iconst 0, 1) := by decide +kernel
theorem dX5_green_35 : decode cX5_green 35 = .ok (.putfield 94, 3) := by decide +kernel
theorem dX5_green_38 : decode cX5_green 38 = .ok (.aload_n 0, 1) := by decide +kernel
theorem dX5_green_39 : decode cX5_green 39 = .ok (.invokevirtual 75, 3) := by decide +kernel
theorem dX5_green_42 : decode cX5_green 42 = .ok (.aload_n 0, 1) := by decide +kernel
theorem dX5_green_43 : decode cX5_green 43 = .ok (.iconst 0, 1) := by decide +kernel
theorem dX5_green_44 : decode cX5_green 44 = .ok (.putfield 212, 3) := by decide +kernel
theorem dX5_green_47 : decode cX5_green 47 = .ok (.aload_n 0, 1) := by decide +kernel
theorem dX5_green_48 : decode cX5_green 48 = .ok (.getfield 47, 3) := by decide +kernel
theorem dX5_green_51 : decode cX5_green 51 = .ok (.iconst 0, 1) := by decide +kernel
theorem dX5_green_52 : decode cX5_green 52 = .ok (.iconst 0, 1) := by decide +kernel
theorem dX5_green_53 : decode cX5_green 53 = .ok (.bastore, 1) := by decide +kernel
theorem dX5_green_54 : decode cX5_green 54 = .ok (.aload_n 0, 1) := by decide +kernel
theorem dX5_green_55 : decode cX5_green 55 = .ok (.getfield 47, 3) := by decide +kernel
theorem dX5_green_58 : decode cX5_green 58 = .ok (.iconst 1, 1) := by decide +kernel
theorem dX5_green_59 : decode cX5_green 59 = .ok (.iconst 0, 1) := by decide +kernel
theorem dX5_green_60 : decode cX5_green 60 = .ok (.bastore, 1) := by decide +kernel
theorem dX5_green_61 : decode cX5_green 61 = .ok (.aload_n 0, 1) := by decide +kernel
theorem dX5_green_62 : decode cX5_green 62 = .ok (.getfield 199, 3) := by decide +kernel
theorem dX5_green_65 : decode cX5_green 65 = .ok (.ireturn, 1) := by decide +kernel
theorem dX5_next_0 : decode cX5_next 0 = .ok (.iload_n 1, 1) := by decide +kernel
theorem dX5_next_1 : decode cX5_next 1 = .ok (.iload_n 2, 1) := by decide +kernel
theorem dX5_next_2 : decode cX5_next 2 = .ok (.iadd, 1) := by decide +kernel
theorem dX5_next_3 : decode cX5_next 3 = .ok (.aload_n 0, 1) := by decide +kernel
theorem dX5_next_4 : decode cX5_next 4 = .ok (.getfield 7, 3) := by decide +kernel
theorem dX5_next_7 : decode cX5_next 7 = .ok (.iadd, 1) := by decide +kernel
theorem dX5_next_8 : decode cX5_next 8 = .ok (.aload_n 0, 1) := by decide +kernel
theorem dX5_next_9 : decode cX5_next 9 = .ok (.getfield 7, 3) := by decide +kernel
theorem dX5_next_12 : decode cX5_next 12 = .ok (.irem, 1) := by decide +kernel
theorem dX5_next_13 : decode cX5_next 13 = .ok (.ireturn, 1) := by decide +kernel
theorem dX5_full_0 : decode cX5_full 0 = .ok (.iconst 0, 1) := by decide +kernel
theorem dX5_full_1 : decode cX5_full 1 = .ok (.istore_n 1, 1) := by decide +kernel
theorem dX5_full_2 : decode cX5_full 2 = .ok (.iconst 0, 1) := by decide +kernel
theorem dX5_full_3 : decode cX5_full 3 = .ok (.istore_n 2, 1) := by decide +kernel
theorem dX5_full_4 : decode cX5_full 4 = .ok (.iload_n 2, 1) := by decide +kernel
theorem dX5_full_5 : decode cX5_full 5 = .ok (.aload_n 0, 1) := by decide +kernel
theorem dX5_full_6 : decode cX5_full 6 = .ok (.getfield 78, 3) := by decide +kernel
theorem dX5_full_9 : decode cX5_full 9 = .ok (.if_icmp .ge 48, 3) := by decide +kernel
theorem dX5_full_12 : decode cX5_full 12 = .ok (.iload_n 1, 1) := by decide +kernel
theorem dX5_full_13 : decode cX5_full 13 = .ok (.iconst 1, 1) := by decide +kernel
theorem dX5_full_14 : decode cX5_full 14 = .ok (.aload_n 0, 1) := by decide +kernel
theorem dX5_full_15 : decode cX5_full 15 = .ok (.getfield 38, 3) := by decide +kernel
theorem dX5_full_18 : decode cX5_full 18 = .ok (.iload_n 2, 1) := by decide +kernel
theorem dX5_full_19 : decode cX5_full 19 = .ok (.iaload, 1) := by decide +kernel
theorem dX5_full_20 : decode cX5_full 20 = .ok (.ishl, 1) := by decide +kernel
theorem dX5_full_21 : decode cX5_full 21 = .ok (.ior, 1) := by decide +kernel
theorem dX5_full_22 : decode cX5_full 22 = .ok (.aload_n 0, 1) := by decide +kernel
theorem dX5_full_23 : decode cX5_full 23 = .ok (.getfield 17, 3) := by decide +kernel
theorem dX5_full_26 : decode cX5_full 26 = .ok (.iload_n 2, 1) := by decide +kernel
theorem dX5_full_27 : decode cX5_full 27 = .ok (.iaload, 1) := by decide +kernel
theorem dX5_full_28 : decode cX5_full 28 = .ok (.iconst 3, 1) := by decide +kernel
theorem dX5_full_29 : decode cX5_full 29 = .ok (.if_icmp .ne 19, 3) := by decide +kernel
theorem dX5_full_32 : decode cX5_full 32 = .ok (.iconst 1, 1) := by decide +kernel
theorem dX5_full_33 : decode cX5_full 33 = .ok (.aload_n 0, 1) := by decide +kernel
theorem dX5_full_34 : decode cX5_full 34 = .ok (.aload_n 0, 1) := by decide +kernel
theorem dX5_full_35 : decode cX5_full 35 = .ok (.getfield 38, 3) := by decide +kernel
theorem dX5_full_38 : decode cX5_full 38 = .ok (.iload_n 2, 1) := by decide +kernel
theorem dX5_full_39 : decode cX5_full 39 = .ok (.iaload, 1) := by decide +kernel
theorem dX5_full_40 : decode cX5_full 40 = .ok (.iconst 1, 1) := by decide +kernel
theorem dX5_full_41 : decode cX5_full 41 = .ok (.invokevirtual 215, 3) := by decide +kernel
theorem dX5_full_44 : decode cX5_full 44 = .ok (.ishl, 1) := by decide +kernel
theorem dX5_full_45 : decode cX5_full 45 = .ok (.goto 4, 3) := by decide +kernel
theorem dX5_full_48 : decode cX5_full 48 = .ok (.iconst 0, 1) := by decide +kernel
theorem dX5_full_49 : decode cX5_full 49 = .ok (.ior, 1) := by decide +kernel
theorem dX5_full_50 : decode cX5_full 50 = .ok (.istore_n 1, 1) := by decide +kernel
theorem dX5_full_51 : decode cX5_full 51 = .ok (.iinc 2 1, 3) := by decide +kernel
theorem dX5_full_54 : decode cX5_full 54 = .ok (.goto (-50), 3) := by decide +kernel
theorem dX5_full_57 : decode cX5_full 57 = .ok (.iload_n 1, 1) := by decide +kernel
theorem dX5_full_58 : decode cX5_full 58 = .ok (.ireturn, 1) := by decide +kernel
theorem dX5_standsOn_0 : decode cX5_standsOn 0 = .ok (.aload_n 0, 1) := by decide +kernel
theorem dX5_standsOn_1 : decode cX5_standsOn 1 = .ok (.getfield 38, 3) := by decide +kernel
theorem dX5_standsOn_4 : decode cX5_standsOn 4 = .ok (.iload_n 1, 1) := by decide +kernel
theorem dX5_standsOn_5 : decode cX5_standsOn 5 = .ok (.iaload, 1) := by decide +kernel
theorem dX5_standsOn_6 : decode cX5_standsOn 6 = .ok (.iload_n 2, 1) := by decide +kernel
theorem dX5_standsOn_7 : decode cX5_standsOn 7 = .ok (.if_icmp .eq 28, 3) := by decide +kernel
theorem dX5_standsOn_10 : decode cX5_standsOn 10 = .ok (.aload_n 0, 1) := by decide +kernel
theorem dX5_standsOn_11 : decode cX5_standsOn 11 = .ok (.getfield 17, 3) := by decide +kernel
theorem dX5_standsOn_14 : decode cX5_standsOn 14 = .ok (.iload_n 1, 1) := by decide +kernel
theorem dX5_standsOn_15 : decode cX5_standsOn 15 = .ok (.iaload, 1) := by decide +kernel
theorem dX5_standsOn_16 : decode cX5_standsOn 16 = .ok (.iconst 3, 1) := by decide +kernel
theorem dX5_standsOn_17 : decode cX5_standsOn 17 = .ok (.if_icmp .ne 22, 3) := by decide +kernel
theorem dX5_standsOn_20 : decode cX5_standsOn 20 = .ok (.aload_n 0, 1) := by decide +kernel
theorem dX5_standsOn_21 : decode cX5_standsOn 21 = .ok (.aload_n 0, 1) := by decide +kernel
theorem dX5_standsOn_22 : decode cX5_standsOn 22 = .ok (.getfield 38, 3) := by decide +kernel
theorem dX5_standsOn_25 : decode cX5_standsOn 25 = .ok (.iload_n 1, 1) := by decide +kernel
theorem dX5_standsOn_26 : decode cX5_standsOn 26 = .ok (.iaload, 1) := by decide +kernel
theorem dX5_standsOn_27 : decode cX5_standsOn 27 = .ok (.iconst 1, 1) := by decide +kernel
theorem dX5_standsOn_28 : decode cX5_standsOn 28 = .ok (.invokevirtual 215, 3) := by decide +kernel
theorem dX5_standsOn_31 : decode cX5_standsOn 31 = .ok (.iload_n 2, 1) := by decide +kernel
theorem dX5_standsOn_32 : decode cX5_standsOn 32 = .ok (.if_icmp .ne 7, 3) := by decide +kernel
theorem dX5_standsOn_35 : decode cX5_standsOn 35 = .ok (.iconst 1, 1) := by decide +kernel
theorem dX5_standsOn_36 : decode cX5_standsOn 36 = .ok (.goto 4, 3) := by decide +kernel
theorem dX5_standsOn_39 : decode cX5_standsOn 39 = .ok (.iconst 0, 1) := by decide +kernel
theorem dX5_standsOn_40 : decode cX5_standsOn 40 = .ok (.ireturn, 1) := by decide +kernel
theorem dX5_plot_0 : decode cX5_plot 0 = .ok (.aload_n 0, 1) := by decide +kernel
theorem dX5_plot_1 : decode cX5_plot 1 = .ok (.iload_n 1, 1) := by decide +kernel
theorem dX5_plot_2 : decode cX5_plot 2 = .ok (.invokevirtual 219, 3) := by decide +kernel
theorem dX5_plot_5 : decode cX5_plot 5 = .ok (.ifCond .ne 6, 3) := by decide +kernel
theorem dX5_plot_8 : decode cX5_plot 8 = .ok (.bipush (-2), 2) := by decide +kernel
theorem dX5_plot_10 : decode cX5_plot 10 = .ok (.ireturn, 1) := by decide +kernel
theorem dX5_plot_11 : decode cX5_plot 11 = .ok (.iload_n 2, 1) := by decide +kernel
theorem dX5_plot_12 : decode cX5_plot 12 = .ok (.iconst 0, 1) := by decide +kernel
theorem dX5_plot_13 : decode cX5_plot 13 = .ok (.iconst 1, 1) := by decide +kernel
theorem dX5_plot_14 : decode cX5_plot 14 = .ok (.invokestatic 81, 3) := by decide +kernel
theorem dX5_plot_17 : decode cX5_plot 17 = .ok (.ifCond .ne 6, 3) := by decide +kernel
theorem dX5_plot_20 : decode cX5_plot 20 = .ok (.bipush (-3), 2) := by decide +kernel
theorem dX5_plot_22 : decode cX5_plot 22 = .ok (.ireturn, 1) := by decide +kernel
theorem dX5_plot_23 : decode cX5_plot 23 = .ok (.iconst (-1), 1) := by decide +kernel
theorem dX5_plot_24 : decode cX5_plot 24 = .ok (.istore_n 3, 1) := by decide +kernel
theorem dX5_plot_25 : decode cX5_plot 25 = .ok (.iconst 0, 1) := by decide +kernel
theorem dX5_plot_26 : decode cX5_plot 26 = .ok (.istore 4, 2) := by decide +kernel
theorem dX5_plot_28 : decode cX5_plot 28 = .ok (.iload 4, 2) := by decide +kernel
theorem dX5_plot_30 : decode cX5_plot 30 = .ok (.aload_n 0, 1) := by decide +kernel
theorem dX5_plot_31 : decode cX5_plot 31 = .ok (.getfield 78, 3) := by decide +kernel
theorem dX5_plot_34 : decode cX5_plot 34 = .ok (.if_icmp .ge 26, 3) := by decide +kernel
theorem dX5_plot_37 : decode cX5_plot 37 = .ok (.aload_n 0, 1) := by decide +kernel
theorem dX5_plot_38 : decode cX5_plot 38 = .ok (.iload 4, 2) := by decide +kernel
theorem dX5_plot_40 : decode cX5_plot 40 = .ok (.iload_n 1, 1) := by decide +kernel
theorem dX5_plot_41 : decode cX5_plot 41 = .ok (.invokevirtual 222, 3) := by decide +kernel
theorem dX5_plot_44 : decode cX5_plot 44 = .ok (.ifCond .eq 8, 3) := by decide +kernel
theorem dX5_plot_47 : decode cX5_plot 47 = .ok (.iload 4, 2) := by decide +kernel
theorem dX5_plot_49 : decode cX5_plot 49 = .ok (.goto 4, 3) := by decide +kernel
theorem dX5_plot_52 : decode cX5_plot 52 = .ok (.iload_n 3, 1) := by decide +kernel
theorem dX5_plot_53 : decode cX5_plot 53 = .ok (.istore_n 3, 1) := by decide +kernel
theorem dX5_plot_54 : decode cX5_plot 54 = .ok (.iinc 4 1, 3) := by decide +kernel
theorem dX5_plot_57 : decode cX5_plot 57 = .ok (.goto (-29), 3) := by decide +kernel
theorem dX5_plot_60 : decode cX5_plot 60 = .ok (.iload_n 2, 1) := by decide +kernel
theorem dX5_plot_61 : decode cX5_plot 61 = .ok (.ifCond .ne 7, 3) := by decide +kernel
theorem dX5_plot_64 : decode cX5_plot 64 = .ok (.iload_n 3, 1) := by decide +kernel
theorem dX5_plot_65 : decode cX5_plot 65 = .ok (.goto 9, 3) := by decide +kernel
theorem dX5_plot_68 : decode cX5_plot 68 = .ok (.aload_n 0, 1) := by decide +kernel
theorem dX5_plot_69 : decode cX5_plot 69 = .ok (.getfield 13, 3) := by decide +kernel
theorem dX5_plot_72 : decode cX5_plot 72 = .ok (.iload_n 1, 1) := by decide +kernel
theorem dX5_plot_73 : decode cX5_plot 73 = .ok (.iaload, 1) := by decide +kernel
theorem dX5_plot_74 : decode cX5_plot 74 = .ok (.ireturn, 1) := by decide +kernel
theorem dX5_addWay_0 : decode cX5_addWay 0 = .ok (.iload_n 1, 1) := by decide +kernel
theorem dX5_addWay_1 : decode cX5_addWay 1 = .ok (.ifCond .eq 23, 3) := by decide +kernel
theorem dX5_addWay_4 : decode cX5_addWay 4 = .ok (.aload_n 0, 1) := by decide +kernel
theorem dX5_addWay_5 : decode cX5_addWay 5 = .ok (.getfield 54, 3) := by decide +kernel
theorem dX5_addWay_8 : decode cX5_addWay 8 = .ok (.aload_n 0, 1) := by decide +kernel
theorem dX5_addWay_9 : decode cX5_addWay 9 = .ok (.getfield 225, 3) := by decide +kernel
theorem dX5_addWay_12 : decode cX5_addWay 12 = .ok (.iload_n 2, 1) := by decide +kernel
theorem dX5_addWay_13 : decode cX5_addWay 13 = .ok (.iastore, 1) := by decide +kernel
theorem dX5_addWay_14 : decode cX5_addWay 14 = .ok (.aload_n 0, 1) := by decide +kernel
theorem dX5_addWay_15 : decode cX5_addWay 15 = .ok (.dup, 1) := by decide +kernel
theorem dX5_addWay_16 : decode cX5_addWay 16 = .ok (.getfield 225, 3) := by decide +kernel
theorem dX5_addWay_19 : decode cX5_addWay 19 = .ok (.iconst 1, 1) := by decide +kernel
theorem dX5_addWay_20 : decode cX5_addWay 20 = .ok (.iadd, 1) := by decide +kernel
theorem dX5_addWay_21 : decode cX5_addWay 21 = .ok (.putfield 225, 3) := by decide +kernel
theorem dX5_addWay_24 : decode cX5_addWay 24 = .ok (.return_, 1) := by decide +kernel
theorem dX5_layWays_0 : decode cX5_layWays 0 = .ok (.aload_n 0, 1) := by decide +kernel
theorem dX5_layWays_1 : decode cX5_layWays 1 = .ok (.iconst 0, 1) := by decide +kernel
theorem dX5_layWays_2 : decode cX5_layWays 2 = .ok (.putfield 225, 3) := by decide +kernel
theorem dX5_layWays_5 : decode cX5_layWays 5 = .ok (.aload_n 0, 1) := by decide +kernel
theorem dX5_layWays_6 : decode cX5_layWays 6 = .ok (.getfield 17, 3) := by decide +kernel
theorem dX5_layWays_9 : decode cX5_layWays 9 = .ok (.iload_n 1, 1) := by decide +kernel
theorem dX5_layWays_10 : decode cX5_layWays 10 = .ok (.iaload, 1) := by decide +kernel
theorem dX5_layWays_11 : decode cX5_layWays 11 = .ok (.iconst 2, 1) := by decide +kernel
theorem dX5_layWays_12 : decode cX5_layWays 12 = .ok (.if_icmp .ne 4, 3) := by decide +kernel
theorem dX5_layWays_15 : decode cX5_layWays 15 = .ok (.return_, 1) := by decide +kernel
theorem dX5_layWays_16 : decode cX5_layWays 16 = .ok (.aload_n 0, 1) := by decide +kernel
theorem dX5_layWays_17 : decode cX5_layWays 17 = .ok (.invokevirtual 228, 3) := by decide +kernel
theorem dX5_layWays_20 : decode cX5_layWays 20 = .ok (.istore_n 2, 1) := by decide +kernel
theorem dX5_layWays_21 : decode cX5_layWays 21 = .ok (.aload_n 0, 1) := by decide +kernel
theorem dX5_layWays_22 : decode cX5_layWays 22 = .ok (.getfield 38, 3) := by decide +kernel
theorem dX5_layWays_25 : decode cX5_layWays 25 = .ok (.iload_n 1, 1) := by decide +kernel
theorem dX5_layWays_26 : decode cX5_layWays 26 = .ok (.iaload, 1) := by decide +kernel
theorem dX5_layWays_27 : decode cX5_layWays 27 = .ok (.istore_n 3, 1) := by decide +kernel
theorem dX5_layWays_28 : decode cX5_layWays 28 = .ok (.aload_n 0, 1) := by decide +kernel
theorem dX5_layWays_29 : decode cX5_layWays 29 = .ok (.iload_n 2, 1) := by decide +kernel
theorem dX5_layWays_30 : decode cX5_layWays 30 = .ok (.aload_n 0, 1) := by decide +kernel
theorem dX5_layWays_31 : decode cX5_layWays 31 = .ok (.iload_n 3, 1) := by decide +kernel
theorem dX5_layWays_32 : decode cX5_layWays 32 = .ok (.aload_n 0, 1) := by decide +kernel
theorem dX5_layWays_33 : decode cX5_layWays 33 = .ok (.getfield 17, 3) := by decide +kernel
theorem dX5_layWays_36 : decode cX5_layWays 36 = .ok (.iload_n 1, 1) := by decide +kernel
theorem dX5_layWays_37 : decode cX5_layWays 37 = .ok (.iaload, 1) := by decide +kernel
theorem dX5_layWays_38 : decode cX5_layWays 38 = .ok (.iconst 3, 1) := by decide +kernel
theorem dX5_layWays_39 : decode cX5_layWays 39 = .ok (.if_icmp .ne 7, 3) := by decide +kernel
theorem dX5_layWays_42 : decode cX5_layWays 42 = .ok (.iconst 2, 1) := by decide +kernel
theorem dX5_layWays_43 : decode cX5_layWays 43 = .ok (.goto 4, 3) := by decide +kernel
theorem dX5_layWays_46 : decode cX5_layWays 46 = .ok (.iconst 1, 1) := by decide +kernel
theorem dX5_layWays_47 : decode cX5_layWays 47 = .ok (.invokevirtual 215, 3) := by decide +kernel
theorem dX5_layWays_50 : decode cX5_layWays 50 = .ok (.invokestatic 232, 3) := by decide +kernel
theorem dX5_layWays_53 : decode cX5_layWays 53 = .ok (.ifCond .ne 7, 3) := by decide +kernel
theorem dX5_layWays_56 : decode cX5_layWays 56 = .ok (.iconst 1, 1) := by decide +kernel
theorem dX5_layWays_57 : decode cX5_layWays 57 = .ok (.goto 4, 3) := by decide +kernel
theorem dX5_layWays_60 : decode cX5_layWays 60 = .ok (.iconst 0, 1) := by decide +kernel
theorem dX5_layWays_61 : decode cX5_layWays 61 = .ok (.aload_n 0, 1) := by decide +kernel
theorem dX5_layWays_62 : decode cX5_layWays 62 = .ok (.iload_n 3, 1) := by decide +kernel
theorem dX5_layWays_63 : decode cX5_layWays 63 = .ok (.iconst 1, 1) := by decide +kernel
theorem dX5_layWays_64 : decode cX5_layWays 64 = .ok (.invokevirtual 215, 3) := by decide +kernel
theorem dX5_layWays_67 : decode cX5_layWays 67 = .ok (.invokevirtual 235, 3) := by decide +kernel
theorem dX5_layWays_70 : decode cX5_layWays 70 = .ok (.aload_n 0, 1) := by decide +kernel
theorem dX5_layWays_71 : decode cX5_layWays 71 = .ok (.iload_n 2, 1) := by decide +kernel
theorem dX5_layWays_72 : decode cX5_layWays 72 = .ok (.aload_n 0, 1) := by decide +kernel
theorem dX5_layWays_73 : decode cX5_layWays 73 = .ok (.iload_n 3, 1) := by decide +kernel
theorem dX5_layWays_74 : decode cX5_layWays 74 = .ok (.iconst (-1), 1) := by decide +kernel
theorem dX5_layWays_75 : decode cX5_layWays 75 = .ok (.invokevirtual 215, 3) := by decide +kernel
theorem dX5_layWays_78 : decode cX5_layWays 78 = .ok (.invokestatic 232, 3) := by decide +kernel
theorem dX5_layWays_81 : decode cX5_layWays 81 = .ok (.ifCond .ne 7, 3) := by decide +kernel
theorem dX5_layWays_84 : decode cX5_layWays 84 = .ok (.iconst 1, 1) := by decide +kernel
theorem dX5_layWays_85 : decode cX5_layWays 85 = .ok (.goto 4, 3) := by decide +kernel
theorem dX5_layWays_88 : decode cX5_layWays 88 = .ok (.iconst 0, 1) := by decide +kernel
theorem dX5_layWays_89 : decode cX5_layWays 89 = .ok (.aload_n 0, 1) := by decide +kernel
theorem dX5_layWays_90 : decode cX5_layWays 90 = .ok (.iload_n 3, 1) := by decide +kernel
theorem dX5_layWays_91 : decode cX5_layWays 91 = .ok (.iconst (-1), 1) := by decide +kernel
theorem dX5_layWays_92 : decode cX5_layWays 92 = .ok (.invokevirtual 215, 3) := by decide +kernel
theorem dX5_layWays_95 : decode cX5_layWays 95 = .ok (.invokevirtual 235, 3) := by decide +kernel
theorem dX5_layWays_98 : decode cX5_layWays 98 = .ok (.iconst 0, 1) := by decide +kernel
theorem dX5_layWays_99 : decode cX5_layWays 99 = .ok (.istore 4, 2) := by decide +kernel
theorem dX5_layWays_101 : decode cX5_layWays 101 = .ok (.iload 4, 2) := by decide +kernel
theorem dX5_layWays_103 : decode cX5_layWays 103 = .ok (.aload_n 0, 1) := by decide +kernel
theorem dX5_layWays_104 : decode cX5_layWays 104 = .ok (.getfield 85, 3) := by decide +kernel
theorem dX5_layWays_107 : decode cX5_layWays 107 = .ok (.if_icmp .ge 112, 3) := by decide +kernel
theorem dX5_layWays_110 : decode cX5_layWays 110 = .ok (.aload_n 0, 1) := by decide +kernel
theorem dX5_layWays_111 : decode cX5_layWays 111 = .ok (.getfield 17, 3) := by decide +kernel
theorem dX5_layWays_114 : decode cX5_layWays 114 = .ok (.iload_n 1, 1) := by decide +kernel
theorem dX5_layWays_115 : decode cX5_layWays 115 = .ok (.iaload, 1) := by decide +kernel
theorem dX5_layWays_116 : decode cX5_layWays 116 = .ok (.iconst 1, 1) := by decide +kernel
theorem dX5_layWays_117 : decode cX5_layWays 117 = .ok (.if_icmp .ne 102, 3) := by decide +kernel
theorem dX5_layWays_120 : decode cX5_layWays 120 = .ok (.aload_n 0, 1) := by decide +kernel
theorem dX5_layWays_121 : decode cX5_layWays 121 = .ok (.getfield 23, 3) := by decide +kernel
theorem dX5_layWays_124 : decode cX5_layWays 124 = .ok (.iconst 2, 1) := by decide +kernel
theorem dX5_layWays_125 : decode cX5_layWays 125 = .ok (.iload 4, 2) := by decide +kernel
theorem dX5_layWays_127 : decode cX5_layWays 127 = .ok (.imul, 1) := by decide +kernel
theorem dX5_layWays_128 : decode cX5_layWays 128 = .ok (.iaload, 1) := by decide +kernel
theorem dX5_layWays_129 : decode cX5_layWays 129 = .ok (.iload_n 3, 1) := by decide +kernel
theorem dX5_layWays_130 : decode cX5_layWays 130 = .ok (.if_icmp .ne 17, 3) := by decide +kernel
theorem dX5_layWays_133 : decode cX5_layWays 133 = .ok (.aload_n 0, 1) := by decide +kernel
theorem dX5_layWays_134 : decode cX5_layWays 134 = .ok (.getfield 23, 3) := by decide +kernel
theorem dX5_layWays_137 : decode cX5_layWays 137 = .ok (.iconst 2, 1) := by decide +kernel
theorem dX5_layWays_138 : decode cX5_layWays 138 = .ok (.iload 4, 2) := by decide +kernel
theorem dX5_layWays_140 : decode cX5_layWays 140 = .ok (.imul, 1) := by decide +kernel
theorem dX5_layWays_141 : decode cX5_layWays 141 = .ok (.iconst 1, 1) := by decide +kernel
theorem dX5_layWays_142 : decode cX5_layWays 142 = .ok (.iadd, 1) := by decide +kernel
theorem dX5_layWays_143 : decode cX5_layWays 143 = .ok (.iaload, 1) := by decide +kernel
theorem dX5_layWays_144 : decode cX5_layWays 144 = .ok (.goto 31, 3) := by decide +kernel
theorem dX5_layWays_147 : decode cX5_layWays 147 = .ok (.aload_n 0, 1) := by decide +kernel
theorem dX5_layWays_148 : decode cX5_layWays 148 = .ok (.getfield 23, 3) := by decide +kernel
theorem dX5_layWays_151 : decode cX5_layWays 151 = .ok (.iconst 2, 1) := by decide +kernel
theorem dX5_layWays_152 : decode cX5_layWays 152 = .ok (.iload 4, 2) := by decide +kernel
theorem dX5_layWays_154 : decode cX5_layWays 154 = .ok (.imul, 1) := by decide +kernel
theorem dX5_layWays_155 : decode cX5_layWays 155 = .ok (.iconst 1, 1) := by decide +kernel
theorem dX5_layWays_156 : decode cX5_layWays 156 = .ok (.iadd, 1) := by decide +kernel
theorem dX5_layWays_157 : decode cX5_layWays 157 = .ok (.iaload, 1) := by decide +kernel
theorem dX5_layWays_158 : decode cX5_layWays 158 = .ok (.iload_n 3, 1) := by decide +kernel
theorem dX5_layWays_159 : decode cX5_layWays 159 = .ok (.if_icmp .ne 15, 3) := by decide +kernel
theorem dX5_layWays_162 : decode cX5_layWays 162 = .ok (.aload_n 0, 1) := by decide +kernel
theorem dX5_layWays_163 : decode cX5_layWays 163 = .ok (.getfield 23, 3) := by decide +kernel
theorem dX5_layWays_166 : decode cX5_layWays 166 = .ok (.iconst 2, 1) := by decide +kernel
theorem dX5_layWays_167 : decode cX5_layWays 167 = .ok (.iload 4, 2) := by decide +kernel
theorem dX5_layWays_169 : decode cX5_layWays 169 = .ok (.imul, 1) := by decide +kernel
theorem dX5_layWays_170 : decode cX5_layWays 170 = .ok (.iaload, 1) := by decide +kernel
theorem dX5_layWays_171 : decode cX5_layWays 171 = .ok (.goto 4, 3) := by decide +kernel
theorem dX5_layWays_174 : decode cX5_layWays 174 = .ok (.iconst (-1), 1) := by decide +kernel
theorem dX5_layWays_175 : decode cX5_layWays 175 = .ok (.istore 5, 2) := by decide +kernel
theorem dX5_layWays_177 : decode cX5_layWays 177 = .ok (.aload_n 0, 1) := by decide +kernel
theorem dX5_layWays_178 : decode cX5_layWays 178 = .ok (.iload 5, 2) := by decide +kernel
theorem dX5_layWays_180 : decode cX5_layWays 180 = .ok (.iconst (-1), 1) := by decide +kernel
theorem dX5_layWays_181 : decode cX5_layWays 181 = .ok (.if_icmp .eq 26, 3) := by decide +kernel
theorem dX5_layWays_184 : decode cX5_layWays 184 = .ok (.iload_n 2, 1) := by decide +kernel
theorem dX5_layWays_185 : decode cX5_layWays 185 = .ok (.iload 5, 2) := by decide +kernel
theorem dX5_layWays_187 : decode cX5_layWays 187 = .ok (.iconst (-1), 1) := by decide +kernel
theorem dX5_layWays_188 : decode cX5_layWays 188 = .ok (.if_icmp .ne 7, 3) := by decide +kernel
theorem dX5_layWays_191 : decode cX5_layWays 191 = .ok (.iconst 0, 1) := by decide +kernel
theorem dX5_layWays_192 : decode cX5_layWays 192 = .ok (.goto 5, 3) := by decide +kernel
theorem dX5_layWays_195 : decode cX5_layWays 195 = .ok (.iload 5, 2) := by decide +kernel
theorem dX5_layWays_197 : decode cX5_layWays 197 = .ok (.invokestatic 232, 3) := by decide +kernel
theorem dX5_layWays_200 : decode cX5_layWays 200 = .ok (.ifCond .ne 7, 3) := by decide +kernel
theorem dX5_layWays_203 : decode cX5_layWays 203 = .ok (.iconst 1, 1) := by decide +kernel
theorem dX5_layWays_204 : decode cX5_layWays 204 = .ok (.goto 4, 3) := by decide +kernel
theorem dX5_layWays_207 : decode cX5_layWays 207 = .ok (.iconst 0, 1) := by decide +kernel
theorem dX5_layWays_208 : decode cX5_layWays 208 = .ok (.iload 5, 2) := by decide +kernel
theorem dX5_layWays_210 : decode cX5_layWays 210 = .ok (.invokevirtual 235, 3) := by decide +kernel
theorem dX5_layWays_213 : decode cX5_layWays 213 = .ok (.iinc 4 1, 3) := by decide +kernel
theorem dX5_layWays_216 : decode cX5_layWays 216 = .ok (.goto (-115), 3) := by decide +kernel
theorem dX5_layWays_219 : decode cX5_layWays 219 = .ok (.return_, 1) := by decide +kernel
theorem dX5_house_0 : decode cX5_house 0 = .ok (.aload_n 0, 1) := by decide +kernel
theorem dX5_house_1 : decode cX5_house 1 = .ok (.iload_n 1, 1) := by decide +kernel
theorem dX5_house_2 : decode cX5_house 2 = .ok (.invokevirtual 239, 3) := by decide +kernel
theorem dX5_house_5 : decode cX5_house 5 = .ok (.ifCond .ne 6, 3) := by decide +kernel
theorem dX5_house_8 : decode cX5_house 8 = .ok (.bipush (-2), 2) := by decide +kernel
