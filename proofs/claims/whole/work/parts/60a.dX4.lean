theorem dX4_init_0 : decode cX4_init 0 = .ok (.aload_n 0, 1) := by decide +kernel
theorem dX4_init_1 : decode cX4_init 1 = .ok (.invokespecial 3, 3) := by decide +kernel
theorem dX4_init_4 : decode cX4_init 4 = .ok (.aload_n 0, 1) := by decide +kernel
theorem dX4_init_5 : decode cX4_init 5 = .ok (.new 9, 3) := by decide +kernel
theorem dX4_init_8 : decode cX4_init 8 = .ok (.dup, 1) := by decide +kernel
theorem dX4_init_9 : decode cX4_init 9 = .ok (.invokespecial 11, 3) := by decide +kernel
theorem dX4_init_12 : decode cX4_init 12 = .ok (.putfield 12, 3) := by decide +kernel
theorem dX4_init_15 : decode cX4_init 15 = .ok (.aload_n 0, 1) := by decide +kernel
theorem dX4_init_16 : decode cX4_init 16 = .ok (.new 9, 3) := by decide +kernel
theorem dX4_init_19 : decode cX4_init 19 = .ok (.dup, 1) := by decide +kernel
theorem dX4_init_20 : decode cX4_init 20 = .ok (.invokespecial 11, 3) := by decide +kernel
theorem dX4_init_23 : decode cX4_init 23 = .ok (.putfield 16, 3) := by decide +kernel
theorem dX4_init_26 : decode cX4_init 26 = .ok (.aload_n 0, 1) := by decide +kernel
theorem dX4_init_27 : decode cX4_init 27 = .ok (.new 19, 3) := by decide +kernel
theorem dX4_init_30 : decode cX4_init 30 = .ok (.dup, 1) := by decide +kernel
theorem dX4_init_31 : decode cX4_init 31 = .ok (.invokespecial 21, 3) := by decide +kernel
theorem dX4_init_34 : decode cX4_init 34 = .ok (.putfield 22, 3) := by decide +kernel
theorem dX4_init_37 : decode cX4_init 37 = .ok (.aload_n 0, 1) := by decide +kernel
theorem dX4_init_38 : decode cX4_init 38 = .ok (.new 26, 3) := by decide +kernel
theorem dX4_init_41 : decode cX4_init 41 = .ok (.dup, 1) := by decide +kernel
theorem dX4_init_42 : decode cX4_init 42 = .ok (.aload_n 0, 1) := by decide +kernel
theorem dX4_init_43 : decode cX4_init 43 = .ok (.getfield 12, 3) := by decide +kernel
theorem dX4_init_46 : decode cX4_init 46 = .ok (.invokespecial 28, 3) := by decide +kernel
theorem dX4_init_49 : decode cX4_init 49 = .ok (.putfield 31, 3) := by decide +kernel
theorem dX4_init_52 : decode cX4_init 52 = .ok (.aload_n 0, 1) := by decide +kernel
theorem dX4_init_53 : decode cX4_init 53 = .ok (.new 26, 3) := by decide +kernel
theorem dX4_init_56 : decode cX4_init 56 = .ok (.dup, 1) := by decide +kernel
theorem dX4_init_57 : decode cX4_init 57 = .ok (.aload_n 0, 1) := by decide +kernel
theorem dX4_init_58 : decode cX4_init 58 = .ok (.getfield 12, 3) := by decide +kernel
theorem dX4_init_61 : decode cX4_init 61 = .ok (.invokespecial 28, 3) := by decide +kernel
theorem dX4_init_64 : decode cX4_init 64 = .ok (.putfield 35, 3) := by decide +kernel
theorem dX4_init_67 : decode cX4_init 67 = .ok (.aload_n 0, 1) := by decide +kernel
theorem dX4_init_68 : decode cX4_init 68 = .ok (.iconst 2, 1) := by decide +kernel
theorem dX4_init_69 : decode cX4_init 69 = .ok (.anewarray 26, 3) := by decide +kernel
theorem dX4_init_72 : decode cX4_init 72 = .ok (.putfield 38, 3) := by decide +kernel
theorem dX4_init_75 : decode cX4_init 75 = .ok (.aload_n 0, 1) := by decide +kernel
theorem dX4_init_76 : decode cX4_init 76 = .ok (.iconst 2, 1) := by decide +kernel
theorem dX4_init_77 : decode cX4_init 77 = .ok (.newarray .boolean, 2) := by decide +kernel
theorem dX4_init_79 : decode cX4_init 79 = .ok (.putfield 42, 3) := by decide +kernel
theorem dX4_init_82 : decode cX4_init 82 = .ok (.aload_n 0, 1) := by decide +kernel
theorem dX4_init_83 : decode cX4_init 83 = .ok (.new 46, 3) := by decide +kernel
theorem dX4_init_86 : decode cX4_init 86 = .ok (.dup, 1) := by decide +kernel
theorem dX4_init_87 : decode cX4_init 87 = .ok (.aload_n 0, 1) := by decide +kernel
theorem dX4_init_88 : decode cX4_init 88 = .ok (.getfield 35, 3) := by decide +kernel
theorem dX4_init_91 : decode cX4_init 91 = .ok (.invokespecial 48, 3) := by decide +kernel
theorem dX4_init_94 : decode cX4_init 94 = .ok (.putfield 51, 3) := by decide +kernel
theorem dX4_init_97 : decode cX4_init 97 = .ok (.aload_n 0, 1) := by decide +kernel
theorem dX4_init_98 : decode cX4_init 98 = .ok (.bipush 8, 2) := by decide +kernel
theorem dX4_init_100 : decode cX4_init 100 = .ok (.newarray .int, 2) := by decide +kernel
theorem dX4_init_102 : decode cX4_init 102 = .ok (.putfield 55, 3) := by decide +kernel
theorem dX4_init_105 : decode cX4_init 105 = .ok (.aload_n 0, 1) := by decide +kernel
theorem dX4_init_106 : decode cX4_init 106 = .ok (.sipush 501, 3) := by decide +kernel
theorem dX4_init_109 : decode cX4_init 109 = .ok (.newarray .long, 2) := by decide +kernel
theorem dX4_init_111 : decode cX4_init 111 = .ok (.putfield 59, 3) := by decide +kernel
theorem dX4_init_114 : decode cX4_init 114 = .ok (.aload_n 0, 1) := by decide +kernel
theorem dX4_init_115 : decode cX4_init 115 = .ok (.bipush 8, 2) := by decide +kernel
theorem dX4_init_117 : decode cX4_init 117 = .ok (.newarray .int, 2) := by decide +kernel
theorem dX4_init_119 : decode cX4_init 119 = .ok (.putfield 63, 3) := by decide +kernel
theorem dX4_init_122 : decode cX4_init 122 = .ok (.aload_n 0, 1) := by decide +kernel
theorem dX4_init_123 : decode cX4_init 123 = .ok (.bipush 8, 2) := by decide +kernel
theorem dX4_init_125 : decode cX4_init 125 = .ok (.newarray .int, 2) := by decide +kernel
theorem dX4_init_127 : decode cX4_init 127 = .ok (.putfield 66, 3) := by decide +kernel
theorem dX4_init_130 : decode cX4_init 130 = .ok (.aload_n 0, 1) := by decide +kernel
theorem dX4_init_131 : decode cX4_init 131 = .ok (.bipush 8, 2) := by decide +kernel
theorem dX4_init_133 : decode cX4_init 133 = .ok (.newarray .int, 2) := by decide +kernel
theorem dX4_init_135 : decode cX4_init 135 = .ok (.putfield 69, 3) := by decide +kernel
theorem dX4_init_138 : decode cX4_init 138 = .ok (.iconst 0, 1) := by decide +kernel
theorem dX4_init_139 : decode cX4_init 139 = .ok (.istore_n 1, 1) := by decide +kernel
theorem dX4_init_140 : decode cX4_init 140 = .ok (.iload_n 1, 1) := by decide +kernel
theorem dX4_init_141 : decode cX4_init 141 = .ok (.iconst 2, 1) := by decide +kernel
theorem dX4_init_142 : decode cX4_init 142 = .ok (.if_icmp .ge 26, 3) := by decide +kernel
theorem dX4_init_145 : decode cX4_init 145 = .ok (.aload_n 0, 1) := by decide +kernel
theorem dX4_init_146 : decode cX4_init 146 = .ok (.getfield 38, 3) := by decide +kernel
theorem dX4_init_149 : decode cX4_init 149 = .ok (.iload_n 1, 1) := by decide +kernel
theorem dX4_init_150 : decode cX4_init 150 = .ok (.new 26, 3) := by decide +kernel
theorem dX4_init_153 : decode cX4_init 153 = .ok (.dup, 1) := by decide +kernel
theorem dX4_init_154 : decode cX4_init 154 = .ok (.aload_n 0, 1) := by decide +kernel
theorem dX4_init_155 : decode cX4_init 155 = .ok (.getfield 12, 3) := by decide +kernel
theorem dX4_init_158 : decode cX4_init 158 = .ok (.invokespecial 28, 3) := by decide +kernel
theorem dX4_init_161 : decode cX4_init 161 = .ok (.aastore, 1) := by decide +kernel
theorem dX4_init_162 : decode cX4_init 162 = .ok (.iinc 1 1, 3) := by decide +kernel
theorem dX4_init_165 : decode cX4_init 165 = .ok (.goto (-25), 3) := by decide +kernel
theorem dX4_init_168 : decode cX4_init 168 = .ok (.return_, 1) := by decide +kernel
theorem dX4_write_0 : decode cX4_write 0 = .ok (.iload_n 3, 1) := by decide +kernel
theorem dX4_write_1 : decode cX4_write 1 = .ok (.iconst 1, 1) := by decide +kernel
theorem dX4_write_2 : decode cX4_write 2 = .ok (.if_icmp .lt 9, 3) := by decide +kernel
theorem dX4_write_5 : decode cX4_write 5 = .ok (.iload_n 3, 1) := by decide +kernel
theorem dX4_write_6 : decode cX4_write 6 = .ok (.bipush 8, 2) := by decide +kernel
theorem dX4_write_8 : decode cX4_write 8 = .ok (.if_icmp .le 6, 3) := by decide +kernel
theorem dX4_write_11 : decode cX4_write 11 = .ok (.bipush (-3), 2) := by decide +kernel
theorem dX4_write_13 : decode cX4_write 13 = .ok (.ireturn, 1) := by decide +kernel
theorem dX4_write_14 : decode cX4_write 14 = .ok (.aload_n 0, 1) := by decide +kernel
theorem dX4_write_15 : decode cX4_write 15 = .ok (.getfield 22, 3) := by decide +kernel
theorem dX4_write_18 : decode cX4_write 18 = .ok (.lload_n 1, 1) := by decide +kernel
theorem dX4_write_19 : decode cX4_write 19 = .ok (.iload_n 3, 1) := by decide +kernel
theorem dX4_write_20 : decode cX4_write 20 = .ok (.invokevirtual 72, 3) := by decide +kernel
theorem dX4_write_23 : decode cX4_write 23 = .ok (.ifCond .eq 13, 3) := by decide +kernel
theorem dX4_write_26 : decode cX4_write 26 = .ok (.aload_n 0, 1) := by decide +kernel
theorem dX4_write_27 : decode cX4_write 27 = .ok (.getfield 22, 3) := by decide +kernel
theorem dX4_write_30 : decode cX4_write 30 = .ok (.getfield 76, 3) := by decide +kernel
theorem dX4_write_33 : decode cX4_write 33 = .ok (.goto 5, 3) := by decide +kernel
theorem dX4_write_36 : decode cX4_write 36 = .ok (.bipush (-5), 2) := by decide +kernel
theorem dX4_write_38 : decode cX4_write 38 = .ok (.ireturn, 1) := by decide +kernel
theorem dX4_erase_0 : decode cX4_erase 0 = .ok (.aload_n 0, 1) := by decide +kernel
theorem dX4_erase_1 : decode cX4_erase 1 = .ok (.getfield 22, 3) := by decide +kernel
theorem dX4_erase_4 : decode cX4_erase 4 = .ok (.getfield 76, 3) := by decide +kernel
theorem dX4_erase_7 : decode cX4_erase 7 = .ok (.istore_n 1, 1) := by decide +kernel
theorem dX4_erase_8 : decode cX4_erase 8 = .ok (.aload_n 0, 1) := by decide +kernel
theorem dX4_erase_9 : decode cX4_erase 9 = .ok (.getfield 22, 3) := by decide +kernel
theorem dX4_erase_12 : decode cX4_erase 12 = .ok (.iconst 0, 1) := by decide +kernel
theorem dX4_erase_13 : decode cX4_erase 13 = .ok (.putfield 76, 3) := by decide +kernel
theorem dX4_erase_16 : decode cX4_erase 16 = .ok (.iload_n 1, 1) := by decide +kernel
theorem dX4_erase_17 : decode cX4_erase 17 = .ok (.ireturn, 1) := by decide +kernel
theorem dX4_fault_0 : decode cX4_fault 0 = .ok (.aload_n 0, 1) := by decide +kernel
theorem dX4_fault_1 : decode cX4_fault 1 = .ok (.getfield 16, 3) := by decide +kernel
theorem dX4_fault_4 : decode cX4_fault 4 = .ok (.aload_n 0, 1) := by decide +kernel
theorem dX4_fault_5 : decode cX4_fault 5 = .ok (.getfield 12, 3) := by decide +kernel
theorem dX4_fault_8 : decode cX4_fault 8 = .ok (.invokevirtual 80, 3) := by decide +kernel
theorem dX4_fault_11 : decode cX4_fault 11 = .ok (.aload_n 0, 1) := by decide +kernel
theorem dX4_fault_12 : decode cX4_fault 12 = .ok (.getfield 22, 3) := by decide +kernel
theorem dX4_fault_15 : decode cX4_fault 15 = .ok (.aload_n 0, 1) := by decide +kernel
theorem dX4_fault_16 : decode cX4_fault 16 = .ok (.getfield 16, 3) := by decide +kernel
theorem dX4_fault_19 : decode cX4_fault 19 = .ok (.invokevirtual 83, 3) := by decide +kernel
theorem dX4_fault_22 : decode cX4_fault 22 = .ok (.ireturn, 1) := by decide +kernel
theorem dX4_green_0 : decode cX4_green 0 = .ok (.aload_n 0, 1) := by decide +kernel
theorem dX4_green_1 : decode cX4_green 1 = .ok (.getfield 16, 3) := by decide +kernel
theorem dX4_green_4 : decode cX4_green 4 = .ok (.aload_n 0, 1) := by decide +kernel
theorem dX4_green_5 : decode cX4_green 5 = .ok (.getfield 12, 3) := by decide +kernel
theorem dX4_green_8 : decode cX4_green 8 = .ok (.invokevirtual 80, 3) := by decide +kernel
theorem dX4_green_11 : decode cX4_green 11 = .ok (.aload_n 0, 1) := by decide +kernel
theorem dX4_green_12 : decode cX4_green 12 = .ok (.getfield 22, 3) := by decide +kernel
theorem dX4_green_15 : decode cX4_green 15 = .ok (.aload_n 0, 1) := by decide +kernel
theorem dX4_green_16 : decode cX4_green 16 = .ok (.getfield 16, 3) := by decide +kernel
theorem dX4_green_19 : decode cX4_green 19 = .ok (.invokevirtual 83, 3) := by decide +kernel
theorem dX4_green_22 : decode cX4_green 22 = .ok (.iconst (-1), 1) := by decide +kernel
theorem dX4_green_23 : decode cX4_green 23 = .ok (.if_icmp .eq 6, 3) := by decide +kernel
theorem dX4_green_26 : decode cX4_green 26 = .ok (.bipush (-4), 2) := by decide +kernel
theorem dX4_green_28 : decode cX4_green 28 = .ok (.ireturn, 1) := by decide +kernel
theorem dX4_green_29 : decode cX4_green 29 = .ok (.aload_n 0, 1) := by decide +kernel
theorem dX4_green_30 : decode cX4_green 30 = .ok (.getfield 12, 3) := by decide +kernel
theorem dX4_green_33 : decode cX4_green 33 = .ok (.aload_n 0, 1) := by decide +kernel
theorem dX4_green_34 : decode cX4_green 34 = .ok (.getfield 16, 3) := by decide +kernel
theorem dX4_green_37 : decode cX4_green 37 = .ok (.invokevirtual 80, 3) := by decide +kernel
theorem dX4_green_40 : decode cX4_green 40 = .ok (.aload_n 0, 1) := by decide +kernel
theorem dX4_green_41 : decode cX4_green 41 = .ok (.getfield 22, 3) := by decide +kernel
theorem dX4_green_44 : decode cX4_green 44 = .ok (.iconst 0, 1) := by decide +kernel
theorem dX4_green_45 : decode cX4_green 45 = .ok (.putfield 76, 3) := by decide +kernel
theorem dX4_green_48 : decode cX4_green 48 = .ok (.aload_n 0, 1) := by decide +kernel
theorem dX4_green_49 : decode cX4_green 49 = .ok (.getfield 31, 3) := by decide +kernel
theorem dX4_green_52 : decode cX4_green 52 = .ok (.invokevirtual 87, 3) := by decide +kernel
theorem dX4_green_55 : decode cX4_green 55 = .ok (.aload_n 0, 1) := by decide +kernel
theorem dX4_green_56 : decode cX4_green 56 = .ok (.iconst 0, 1) := by decide +kernel
theorem dX4_green_57 : decode cX4_green 57 = .ok (.putfield 90, 3) := by decide +kernel
theorem dX4_green_60 : decode cX4_green 60 = .ok (.iconst 0, 1) := by decide +kernel
theorem dX4_green_61 : decode cX4_green 61 = .ok (.istore_n 1, 1) := by decide +kernel
theorem dX4_green_62 : decode cX4_green 62 = .ok (.iload_n 1, 1) := by decide +kernel
theorem dX4_green_63 : decode cX4_green 63 = .ok (.iconst 2, 1) := by decide +kernel
theorem dX4_green_64 : decode cX4_green 64 = .ok (.if_icmp .ge 16, 3) := by decide +kernel
theorem dX4_green_67 : decode cX4_green 67 = .ok (.aload_n 0, 1) := by decide +kernel
theorem dX4_green_68 : decode cX4_green 68 = .ok (.getfield 42, 3) := by decide +kernel
theorem dX4_green_71 : decode cX4_green 71 = .ok (.iload_n 1, 1) := by decide +kernel
theorem dX4_green_72 : decode cX4_green 72 = .ok (.iconst 0, 1) := by decide +kernel
theorem dX4_green_73 : decode cX4_green 73 = .ok (.bastore, 1) := by decide +kernel
theorem dX4_green_74 : decode cX4_green 74 = .ok (.iinc 1 1, 3) := by decide +kernel
theorem dX4_green_77 : decode cX4_green 77 = .ok (.goto (-15), 3) := by decide +kernel
theorem dX4_green_80 : decode cX4_green 80 = .ok (.aload_n 0, 1) := by decide +kernel
theorem dX4_green_81 : decode cX4_green 81 = .ok (.getfield 22, 3) := by decide +kernel
theorem dX4_green_84 : decode cX4_green 84 = .ok (.getfield 93, 3) := by decide +kernel
theorem dX4_green_87 : decode cX4_green 87 = .ok (.ireturn, 1) := by decide +kernel
theorem dX4_plot_0 : decode cX4_plot 0 = .ok (.aload_n 0, 1) := by decide +kernel
theorem dX4_plot_1 : decode cX4_plot 1 = .ok (.iload_n 1, 1) := by decide +kernel
theorem dX4_plot_2 : decode cX4_plot 2 = .ok (.invokevirtual 96, 3) := by decide +kernel
theorem dX4_plot_5 : decode cX4_plot 5 = .ok (.ifCond .ne 6, 3) := by decide +kernel
theorem dX4_plot_8 : decode cX4_plot 8 = .ok (.bipush (-2), 2) := by decide +kernel
theorem dX4_plot_10 : decode cX4_plot 10 = .ok (.ireturn, 1) := by decide +kernel
theorem dX4_plot_11 : decode cX4_plot 11 = .ok (.iload_n 2, 1) := by decide +kernel
theorem dX4_plot_12 : decode cX4_plot 12 = .ok (.ifCond .lt 8, 3) := by decide +kernel
theorem dX4_plot_15 : decode cX4_plot 15 = .ok (.iload_n 2, 1) := by decide +kernel
theorem dX4_plot_16 : decode cX4_plot 16 = .ok (.iconst 1, 1) := by decide +kernel
theorem dX4_plot_17 : decode cX4_plot 17 = .ok (.if_icmp .le 6, 3) := by decide +kernel
theorem dX4_plot_20 : decode cX4_plot 20 = .ok (.bipush (-3), 2) := by decide +kernel
theorem dX4_plot_22 : decode cX4_plot 22 = .ok (.ireturn, 1) := by decide +kernel
theorem dX4_plot_23 : decode cX4_plot 23 = .ok (.iload_n 2, 1) := by decide +kernel
theorem dX4_plot_24 : decode cX4_plot 24 = .ok (.ifCond .ne 14, 3) := by decide +kernel
theorem dX4_plot_27 : decode cX4_plot 27 = .ok (.aload_n 0, 1) := by decide +kernel
theorem dX4_plot_28 : decode cX4_plot 28 = .ok (.getfield 31, 3) := by decide +kernel
theorem dX4_plot_31 : decode cX4_plot 31 = .ok (.iload_n 1, 1) := by decide +kernel
theorem dX4_plot_32 : decode cX4_plot 32 = .ok (.invokevirtual 100, 3) := by decide +kernel
theorem dX4_plot_35 : decode cX4_plot 35 = .ok (.goto 12, 3) := by decide +kernel
theorem dX4_plot_38 : decode cX4_plot 38 = .ok (.aload_n 0, 1) := by decide +kernel
theorem dX4_plot_39 : decode cX4_plot 39 = .ok (.getfield 12, 3) := by decide +kernel
theorem dX4_plot_42 : decode cX4_plot 42 = .ok (.getfield 104, 3) := by decide +kernel
theorem dX4_plot_45 : decode cX4_plot 45 = .ok (.iload_n 1, 1) := by decide +kernel
theorem dX4_plot_46 : decode cX4_plot 46 = .ok (.iaload, 1) := by decide +kernel
theorem dX4_plot_47 : decode cX4_plot 47 = .ok (.ireturn, 1) := by decide +kernel
theorem dX4_house_0 : decode cX4_house 0 = .ok (.aload_n 0, 1) := by decide +kernel
theorem dX4_house_1 : decode cX4_house 1 = .ok (.iload_n 1, 1) := by decide +kernel
theorem dX4_house_2 : decode cX4_house 2 = .ok (.invokevirtual 107, 3) := by decide +kernel
theorem dX4_house_5 : decode cX4_house 5 = .ok (.ifCond .ne 6, 3) := by decide +kernel
theorem dX4_house_8 : decode cX4_house 8 = .ok (.bipush (-2), 2) := by decide +kernel
theorem dX4_house_10 : decode cX4_house 10 = .ok (.ireturn, 1) := by decide +kernel
theorem dX4_house_11 : decode cX4_house 11 = .ok (.iload_n 2, 1) := by decide +kernel
theorem dX4_house_12 : decode cX4_house 12 = .ok (.tableswitch 82 0 2 #[28, 38, 48], 28) := by decide +kernel
theorem dX4_house_40 : decode cX4_house 40 = .ok (.aload_n 0, 1) := by decide +kernel
theorem dX4_house_41 : decode cX4_house 41 = .ok (.getfield 12, 3) := by decide +kernel
theorem dX4_house_44 : decode cX4_house 44 = .ok (.getfield 110, 3) := by decide +kernel
theorem dX4_house_47 : decode cX4_house 47 = .ok (.iload_n 1, 1) := by decide +kernel
theorem dX4_house_48 : decode cX4_house 48 = .ok (.iaload, 1) := by decide +kernel
theorem dX4_house_49 : decode cX4_house 49 = .ok (.ireturn, 1) := by decide +kernel
theorem dX4_house_50 : decode cX4_house 50 = .ok (.aload_n 0, 1) := by decide +kernel
theorem dX4_house_51 : decode cX4_house 51 = .ok (.getfield 31, 3) := by decide +kernel
theorem dX4_house_54 : decode cX4_house 54 = .ok (.getfield 113, 3) := by decide +kernel
theorem dX4_house_57 : decode cX4_house 57 = .ok (.iload_n 1, 1) := by decide +kernel
theorem dX4_house_58 : decode cX4_house 58 = .ok (.iaload, 1) := by decide +kernel
theorem dX4_house_59 : decode cX4_house 59 = .ok (.ireturn, 1) := by decide +kernel
theorem dX4_house_60 : decode cX4_house 60 = .ok (.aload_n 0, 1) := by decide +kernel
theorem dX4_house_61 : decode cX4_house 61 = .ok (.getfield 31, 3) := by decide +kernel
theorem dX4_house_64 : decode cX4_house 64 = .ok (.getfield 116, 3) := by decide +kernel
theorem dX4_house_67 : decode cX4_house 67 = .ok (.iload_n 1, 1) := by decide +kernel
theorem dX4_house_68 : decode cX4_house 68 = .ok (.iaload, 1) := by decide +kernel
theorem dX4_house_69 : decode cX4_house 69 = .ok (.ifCond .ne 7, 3) := by decide +kernel
theorem dX4_house_72 : decode cX4_house 72 = .ok (.iconst (-1), 1) := by decide +kernel
theorem dX4_house_73 : decode cX4_house 73 = .ok (.goto 20, 3) := by decide +kernel
theorem dX4_house_76 : decode cX4_house 76 = .ok (.aload_n 0, 1) := by decide +kernel
theorem dX4_house_77 : decode cX4_house 77 = .ok (.getfield 31, 3) := by decide +kernel
theorem dX4_house_80 : decode cX4_house 80 = .ok (.getfield 119, 3) := by decide +kernel
theorem dX4_house_83 : decode cX4_house 83 = .ok (.aload_n 0, 1) := by decide +kernel
theorem dX4_house_84 : decode cX4_house 84 = .ok (.getfield 31, 3) := by decide +kernel
theorem dX4_house_87 : decode cX4_house 87 = .ok (.getfield 116, 3) := by decide +kernel
theorem dX4_house_90 : decode cX4_house 90 = .ok (.iload_n 1, 1) := by decide +kernel
theorem dX4_house_91 : decode cX4_house 91 = .ok (.iaload, 1) := by decide +kernel
theorem dX4_house_92 : decode cX4_house 92 = .ok (.isub, 1) := by decide +kernel
theorem dX4_house_93 : decode cX4_house 93 = .ok (.ireturn, 1) := by decide +kernel
theorem dX4_house_94 : decode cX4_house 94 = .ok (.bipush (-3), 2) := by decide +kernel
theorem dX4_house_96 : decode cX4_house 96 = .ok (.ireturn, 1) := by decide +kernel
theorem dX4_as_0 : decode cX4_as 0 = .ok (.aload_n 0, 1) := by decide +kernel
theorem dX4_as_1 : decode cX4_as 1 = .ok (.iload_n 1, 1) := by decide +kernel
theorem dX4_as_2 : decode cX4_as 2 = .ok (.invokevirtual 107, 3) := by decide +kernel
theorem dX4_as_5 : decode cX4_as 5 = .ok (.ifCond .ne 6, 3) := by decide +kernel
theorem dX4_as_8 : decode cX4_as 8 = .ok (.bipush (-2), 2) := by decide +kernel
theorem dX4_as_10 : decode cX4_as 10 = .ok (.ireturn, 1) := by decide +kernel
theorem dX4_as_11 : decode cX4_as 11 = .ok (.iload_n 2, 1) := by decide +kernel
theorem dX4_as_12 : decode cX4_as 12 = .ok (.ifCond .lt 8, 3) := by decide +kernel
theorem dX4_as_15 : decode cX4_as 15 = .ok (.iload_n 2, 1) := by decide +kernel
theorem dX4_as_16 : decode cX4_as 16 = .ok (.iconst 4, 1) := by decide +kernel
theorem dX4_as_17 : decode cX4_as 17 = .ok (.if_icmp .le 6, 3) := by decide +kernel
theorem dX4_as_20 : decode cX4_as 20 = .ok (.bipush (-3), 2) := by decide +kernel
theorem dX4_as_22 : decode cX4_as 22 = .ok (.ireturn, 1) := by decide +kernel
theorem dX4_as_23 : decode cX4_as 23 = .ok (.aload_n 0, 1) := by decide +kernel
theorem dX4_as_24 : decode cX4_as 24 = .ok (.getfield 12, 3) := by decide +kernel
theorem dX4_as_27 : decode cX4_as 27 = .ok (.getfield 110, 3) := by decide +kernel
theorem dX4_as_30 : decode cX4_as 30 = .ok (.iload_n 1, 1) := by decide +kernel
theorem dX4_as_31 : decode cX4_as 31 = .ok (.iaload, 1) := by decide +kernel
theorem dX4_as_32 : decode cX4_as 32 = .ok (.iload_n 2, 1) := by decide +kernel
theorem dX4_as_33 : decode cX4_as 33 = .ok (.invokestatic 122, 3) := by decide +kernel
theorem dX4_as_36 : decode cX4_as 36 = .ok (.ifCond .eq 18, 3) := by decide +kernel
theorem dX4_as_39 : decode cX4_as 39 = .ok (.aload_n 0, 1) := by decide +kernel
theorem dX4_as_40 : decode cX4_as 40 = .ok (.getfield 31, 3) := by decide +kernel
theorem dX4_as_43 : decode cX4_as 43 = .ok (.iload_n 1, 1) := by decide +kernel
theorem dX4_as_44 : decode cX4_as 44 = .ok (.aload_n 0, 1) := by decide +kernel
theorem dX4_as_45 : decode cX4_as 45 = .ok (.getfield 55, 3) := by decide +kernel
theorem dX4_as_48 : decode cX4_as 48 = .ok (.invokevirtual 126, 3) := by decide +kernel
theorem dX4_as_51 : decode cX4_as 51 = .ok (.goto 5, 3) := by decide +kernel
theorem dX4_as_54 : decode cX4_as 54 = .ok (.bipush (-4), 2) := by decide +kernel
theorem dX4_as_56 : decode cX4_as 56 = .ok (.ireturn, 1) := by decide +kernel
theorem dX4_can_0 : decode cX4_can 0 = .ok (.aload_n 0, 1) := by decide +kernel
theorem dX4_can_1 : decode cX4_can 1 = .ok (.iload_n 1, 1) := by decide +kernel
theorem dX4_can_2 : decode cX4_can 2 = .ok (.invokevirtual 107, 3) := by decide +kernel
theorem dX4_can_5 : decode cX4_can 5 = .ok (.ifCond .ne 6, 3) := by decide +kernel
theorem dX4_can_8 : decode cX4_can 8 = .ok (.bipush (-2), 2) := by decide +kernel
theorem dX4_can_10 : decode cX4_can 10 = .ok (.ireturn, 1) := by decide +kernel
theorem dX4_can_11 : decode cX4_can 11 = .ok (.iload_n 2, 1) := by decide +kernel
theorem dX4_can_12 : decode cX4_can 12 = .ok (.ifCond .ge 6, 3) := by decide +kernel
theorem dX4_can_15 : decode cX4_can 15 = .ok (.bipush (-3), 2) := by decide +kernel
theorem dX4_can_17 : decode cX4_can 17 = .ok (.ireturn, 1) := by decide +kernel
theorem dX4_can_18 : decode cX4_can 18 = .ok (.aload_n 0, 1) := by decide +kernel
theorem dX4_can_19 : decode cX4_can 19 = .ok (.getfield 31, 3) := by decide +kernel
theorem dX4_can_22 : decode cX4_can 22 = .ok (.iload_n 1, 1) := by decide +kernel
theorem dX4_can_23 : decode cX4_can 23 = .ok (.aload_n 0, 1) := by decide +kernel
theorem dX4_can_24 : decode cX4_can 24 = .ok (.getfield 55, 3) := by decide +kernel
theorem dX4_can_27 : decode cX4_can 27 = .ok (.invokevirtual 126, 3) := by decide +kernel
theorem dX4_can_30 : decode cX4_can 30 = .ok (.istore_n 3, 1) := by decide +kernel
theorem dX4_can_31 : decode cX4_can 31 = .ok (.iload_n 2, 1) := by decide +kernel
theorem dX4_can_32 : decode cX4_can 32 = .ok (.iload_n 3, 1) := by decide +kernel
theorem dX4_can_33 : decode cX4_can 33 = .ok (.if_icmp .ge 21, 3) := by decide +kernel
theorem dX4_can_36 : decode cX4_can 36 = .ok (.iload_n 2, 1) := by decide +kernel
theorem dX4_can_37 : decode cX4_can 37 = .ok (.aload_n 0, 1) := by decide +kernel
theorem dX4_can_38 : decode cX4_can 38 = .ok (.getfield 55, 3) := by decide +kernel
theorem dX4_can_41 : decode cX4_can 41 = .ok (.arraylength, 1) := by decide +kernel
theorem dX4_can_42 : decode cX4_can 42 = .ok (.if_icmp .ge 12, 3) := by decide +kernel
theorem dX4_can_45 : decode cX4_can 45 = .ok (.aload_n 0, 1) := by decide +kernel
theorem dX4_can_46 : decode cX4_can 46 = .ok (.getfield 55, 3) := by decide +kernel
theorem dX4_can_49 : decode cX4_can 49 = .ok (.iload_n 2, 1) := by decide +kernel
theorem dX4_can_50 : decode cX4_can 50 = .ok (.iaload, 1) := by decide +kernel
theorem dX4_can_51 : decode cX4_can 51 = .ok (.goto 4, 3) := by decide +kernel
theorem dX4_can_54 : decode cX4_can 54 = .ok (.iconst (-1), 1) := by decide +kernel
theorem dX4_can_55 : decode cX4_can 55 = .ok (.ireturn, 1) := by decide +kernel
theorem dX4_go_0 : decode cX4_go 0 = .ok (.iload_n 1, 1) := by decide +kernel
theorem dX4_go_1 : decode cX4_go 1 = .ok (.iconst 1, 1) := by decide +kernel
theorem dX4_go_2 : decode cX4_go 2 = .ok (.if_icmp .lt 9, 3) := by decide +kernel
theorem dX4_go_5 : decode cX4_go 5 = .ok (.iload_n 1, 1) := by decide +kernel
theorem dX4_go_6 : decode cX4_go 6 = .ok (.bipush 99, 2) := by decide +kernel
theorem dX4_go_8 : decode cX4_go 8 = .ok (.if_icmp .le 6, 3) := by decide +kernel
theorem dX4_go_11 : decode cX4_go 11 = .ok (.bipush (-3), 2) := by decide +kernel
theorem dX4_go_13 : decode cX4_go 13 = .ok (.ireturn, 1) := by decide +kernel
theorem dX4_go_14 : decode cX4_go 14 = .ok (.aload_n 0, 1) := by decide +kernel
theorem dX4_go_15 : decode cX4_go 15 = .ok (.getfield 31, 3) := by decide +kernel
theorem dX4_go_18 : decode cX4_go 18 = .ok (.getfield 119, 3) := by decide +kernel
theorem dX4_go_21 : decode cX4_go 21 = .ok (.iload_n 1, 1) := by decide +kernel
theorem dX4_go_22 : decode cX4_go 22 = .ok (.iadd, 1) := by decide +kernel
theorem dX4_go_23 : decode cX4_go 23 = .ok (.sipush 9999, 3) := by decide +kernel
theorem dX4_go_26 : decode cX4_go 26 = .ok (.if_icmp .le 6, 3) := by decide +kernel
theorem dX4_go_29 : decode cX4_go 29 = .ok (.bipush (-5), 2) := by decide +kernel
theorem dX4_go_31 : decode cX4_go 31 = .ok (.ireturn, 1) := by decide +kernel
theorem dX4_go_32 : decode cX4_go 32 = .ok (.iconst 0, 1) := by decide +kernel
theorem dX4_go_33 : decode cX4_go 33 = .ok (.istore_n 2, 1) := by decide +kernel
theorem dX4_go_34 : decode cX4_go 34 = .ok (.iload_n 2, 1) := by decide +kernel
theorem dX4_go_35 : decode cX4_go 35 = .ok (.iload_n 1, 1) := by decide +kernel
theorem dX4_go_36 : decode cX4_go 36 = .ok (.if_icmp .ge 23, 3) := by decide +kernel
theorem dX4_go_39 : decode cX4_go 39 = .ok (.aload_n 0, 1) := by decide +kernel
theorem dX4_go_40 : decode cX4_go 40 = .ok (.getfield 31, 3) := by decide +kernel
theorem dX4_go_43 : decode cX4_go 43 = .ok (.aload_n 0, 1) := by decide +kernel
theorem dX4_go_44 : decode cX4_go 44 = .ok (.getfield 12, 3) := by decide +kernel
theorem dX4_go_47 : decode cX4_go 47 = .ok (.getfield 130, 3) := by decide +kernel
theorem dX4_go_50 : decode cX4_go 50 = .ok (.invokevirtual 133, 3) := by decide +kernel
theorem dX4_go_53 : decode cX4_go 53 = .ok (.iinc 2 1, 3) := by decide +kernel
theorem dX4_go_56 : decode cX4_go 56 = .ok (.goto (-22), 3) := by decide +kernel
theorem dX4_go_59 : decode cX4_go 59 = .ok (.aload_n 0, 1) := by decide +kernel
theorem dX4_go_60 : decode cX4_go 60 = .ok (.getfield 31, 3) := by decide +kernel
theorem dX4_go_63 : decode cX4_go 63 = .ok (.getfield 119, 3) := by decide +kernel
theorem dX4_go_66 : decode cX4_go 66 = .ok (.ireturn, 1) := by decide +kernel
theorem dX4_roll_0 : decode cX4_roll 0 = .ok (.aload_n 0, 1) := by decide +kernel
theorem dX4_roll_1 : decode cX4_roll 1 = .ok (.iload_n 1, 1) := by decide +kernel
theorem dX4_roll_2 : decode cX4_roll 2 = .ok (.invokevirtual 107, 3) := by decide +kernel
theorem dX4_roll_5 : decode cX4_roll 5 = .ok (.ifCond .eq 11, 3) := by decide +kernel
theorem dX4_roll_8 : decode cX4_roll 8 = .ok (.aload_n 0, 1) := by decide +kernel
theorem dX4_roll_9 : decode cX4_roll 9 = .ok (.iload_n 2, 1) := by decide +kernel
theorem dX4_roll_10 : decode cX4_roll 10 = .ok (.invokevirtual 96, 3) := by decide +kernel
theorem dX4_roll_13 : decode cX4_roll 13 = .ok (.ifCond .ne 6, 3) := by decide +kernel
theorem dX4_roll_16 : decode cX4_roll 16 = .ok (.bipush (-2), 2) := by decide +kernel
theorem dX4_roll_18 : decode cX4_roll 18 = .ok (.ireturn, 1) := by decide +kernel
theorem dX4_roll_19 : decode cX4_roll 19 = .ok (.aload_n 0, 1) := by decide +kernel
theorem dX4_roll_20 : decode cX4_roll 20 = .ok (.getfield 31, 3) := by decide +kernel
theorem dX4_roll_23 : decode cX4_roll 23 = .ok (.iload_n 1, 1) := by decide +kernel
theorem dX4_roll_24 : decode cX4_roll 24 = .ok (.iload_n 2, 1) := by decide +kernel
theorem dX4_roll_25 : decode cX4_roll 25 = .ok (.invokevirtual 137, 3) := by decide +kernel
theorem dX4_roll_28 : decode cX4_roll 28 = .ok (.ifCond .ne 6, 3) := by decide +kernel
theorem dX4_roll_31 : decode cX4_roll 31 = .ok (.bipush (-4), 2) := by decide +kernel
theorem dX4_roll_33 : decode cX4_roll 33 = .ok (.ireturn, 1) := by decide +kernel
theorem dX4_roll_34 : decode cX4_roll 34 = .ok (.aload_n 0, 1) := by decide +kernel
theorem dX4_roll_35 : decode cX4_roll 35 = .ok (.getfield 31, 3) := by decide +kernel
theorem dX4_roll_38 : decode cX4_roll 38 = .ok (.getfield 119, 3) := by decide +kernel
theorem dX4_roll_41 : decode cX4_roll 41 = .ok (.sipush 9999, 3) := by decide +kernel
theorem dX4_roll_44 : decode cX4_roll 44 = .ok (.if_icmp .lt 6, 3) := by decide +kernel
theorem dX4_roll_47 : decode cX4_roll 47 = .ok (.bipush (-5), 2) := by decide +kernel
theorem dX4_roll_49 : decode cX4_roll 49 = .ok (.ireturn, 1) := by decide +kernel
theorem dX4_roll_50 : decode cX4_roll 50 = .ok (.aload_n 0, 1) := by decide +kernel
theorem dX4_roll_51 : decode cX4_roll 51 = .ok (.getfield 31, 3) := by decide +kernel
theorem dX4_roll_54 : decode cX4_roll 54 = .ok (.iload_n 1, 1) := by decide +kernel
theorem dX4_roll_55 : decode cX4_roll 55 = .ok (.iload_n 2, 1) := by decide +kernel
theorem dX4_roll_56 : decode cX4_roll 56 = .ok (.aload_n 0, 1) := by decide +kernel
theorem dX4_roll_57 : decode cX4_roll 57 = .ok (.getfield 12, 3) := by decide +kernel
theorem dX4_roll_60 : decode cX4_roll 60 = .ok (.getfield 130, 3) := by decide +kernel
theorem dX4_roll_63 : decode cX4_roll 63 = .ok (.invokevirtual 140, 3) := by decide +kernel
theorem dX4_roll_66 : decode cX4_roll 66 = .ok (.aload_n 0, 1) := by decide +kernel
theorem dX4_roll_67 : decode cX4_roll 67 = .ok (.getfield 31, 3) := by decide +kernel
theorem dX4_roll_70 : decode cX4_roll 70 = .ok (.getfield 119, 3) := by decide +kernel
theorem dX4_roll_73 : decode cX4_roll 73 = .ok (.ireturn, 1) := by decide +kernel
theorem dX4_keep_0 : decode cX4_keep 0 = .ok (.iload_n 1, 1) := by decide +kernel
theorem dX4_keep_1 : decode cX4_keep 1 = .ok (.ifCond .lt 8, 3) := by decide +kernel
theorem dX4_keep_4 : decode cX4_keep 4 = .ok (.iload_n 1, 1) := by decide +kernel
theorem dX4_keep_5 : decode cX4_keep 5 = .ok (.iconst 2, 1) := by decide +kernel
theorem dX4_keep_6 : decode cX4_keep 6 = .ok (.if_icmp .lt 6, 3) := by decide +kernel
theorem dX4_keep_9 : decode cX4_keep 9 = .ok (.bipush (-2), 2) := by decide +kernel
theorem dX4_keep_11 : decode cX4_keep 11 = .ok (.ireturn, 1) := by decide +kernel
theorem dX4_keep_12 : decode cX4_keep 12 = .ok (.aload_n 0, 1) := by decide +kernel
theorem dX4_keep_13 : decode cX4_keep 13 = .ok (.getfield 38, 3) := by decide +kernel
theorem dX4_keep_16 : decode cX4_keep 16 = .ok (.iload_n 1, 1) := by decide +kernel
theorem dX4_keep_17 : decode cX4_keep 17 = .ok (.aaload, 1) := by decide +kernel
theorem dX4_keep_18 : decode cX4_keep 18 = .ok (.aload_n 0, 1) := by decide +kernel
theorem dX4_keep_19 : decode cX4_keep 19 = .ok (.getfield 31, 3) := by decide +kernel
theorem dX4_keep_22 : decode cX4_keep 22 = .ok (.invokevirtual 144, 3) := by decide +kernel
theorem dX4_keep_25 : decode cX4_keep 25 = .ok (.aload_n 0, 1) := by decide +kernel
theorem dX4_keep_26 : decode cX4_keep 26 = .ok (.getfield 42, 3) := by decide +kernel
theorem dX4_keep_29 : decode cX4_keep 29 = .ok (.iload_n 1, 1) := by decide +kernel
theorem dX4_keep_30 : decode cX4_keep 30 = .ok (.iconst 1, 1) := by decide +kernel
theorem dX4_keep_31 : decode cX4_keep 31 = .ok (.bastore, 1) := by decide +kernel
theorem dX4_keep_32 : decode cX4_keep 32 = .ok (.aload_n 0, 1) := by decide +kernel
theorem dX4_keep_33 : decode cX4_keep 33 = .ok (.getfield 31, 3) := by decide +kernel
theorem dX4_keep_36 : decode cX4_keep 36 = .ok (.getfield 119, 3) := by decide +kernel
theorem dX4_keep_39 : decode cX4_keep 39 = .ok (.ireturn, 1) := by decide +kernel
theorem dX4_back_0 : decode cX4_back 0 = .ok (.iload_n 1, 1) := by decide +kernel
theorem dX4_back_1 : decode cX4_back 1 = .ok (.ifCond .lt 8, 3) := by decide +kernel
theorem dX4_back_4 : decode cX4_back 4 = .ok (.iload_n 1, 1) := by decide +kernel
theorem dX4_back_5 : decode cX4_back 5 = .ok (.iconst 2, 1) := by decide +kernel
theorem dX4_back_6 : decode cX4_back 6 = .ok (.if_icmp .lt 6, 3) := by decide +kernel
theorem dX4_back_9 : decode cX4_back 9 = .ok (.bipush (-2), 2) := by decide +kernel
theorem dX4_back_11 : decode cX4_back 11 = .ok (.ireturn, 1) := by decide +kernel
theorem dX4_back_12 : decode cX4_back 12 = .ok (.aload_n 0, 1) := by decide +kernel
theorem dX4_back_13 : decode cX4_back 13 = .ok (.getfield 42, 3) := by decide +kernel
theorem dX4_back_16 : decode cX4_back 16 = .ok (.iload_n 1, 1) := by decide +kernel
theorem dX4_back_17 : decode cX4_back 17 = .ok (.baload, 1) := by decide +kernel
theorem dX4_back_18 : decode cX4_back 18 = .ok (.ifCond .ne 6, 3) := by decide +kernel
theorem dX4_back_21 : decode cX4_back 21 = .ok (.bipush (-4), 2) := by decide +kernel
theorem dX4_back_23 : decode cX4_back 23 = .ok (.ireturn, 1) := by decide +kernel
theorem dX4_back_24 : decode cX4_back 24 = .ok (.aload_n 0, 1) := by decide +kernel
theorem dX4_back_25 : decode cX4_back 25 = .ok (.getfield 31, 3) := by decide +kernel
theorem dX4_back_28 : decode cX4_back 28 = .ok (.aload_n 0, 1) := by decide +kernel
theorem dX4_back_29 : decode cX4_back 29 = .ok (.getfield 38, 3) := by decide +kernel
theorem dX4_back_32 : decode cX4_back 32 = .ok (.iload_n 1, 1) := by decide +kernel
theorem dX4_back_33 : decode cX4_back 33 = .ok (.aaload, 1) := by decide +kernel
theorem dX4_back_34 : decode cX4_back 34 = .ok (.invokevirtual 144, 3) := by decide +kernel
theorem dX4_back_37 : decode cX4_back 37 = .ok (.aload_n 0, 1) := by decide +kernel
theorem dX4_back_38 : decode cX4_back 38 = .ok (.getfield 31, 3) := by decide +kernel
theorem dX4_back_41 : decode cX4_back 41 = .ok (.getfield 119, 3) := by decide +kernel
theorem dX4_back_44 : decode cX4_back 44 = .ok (.ireturn, 1) := by decide +kernel
theorem dX4_later_0 : decode cX4_later 0 = .ok (.aload_n 0, 1) := by decide +kernel
theorem dX4_later_1 : decode cX4_later 1 = .ok (.iload_n 1, 1) := by decide +kernel
theorem dX4_later_2 : decode cX4_later 2 = .ok (.invokevirtual 107, 3) := by decide +kernel
theorem dX4_later_5 : decode cX4_later 5 = .ok (.ifCond .ne 6, 3) := by decide +kernel
theorem dX4_later_8 : decode cX4_later 8 = .ok (.bipush (-2), 2) := by decide +kernel
theorem dX4_later_10 : decode cX4_later 10 = .ok (.ireturn, 1) := by decide +kernel
theorem dX4_later_11 : decode cX4_later 11 = .ok (.iload_n 2, 1) := by decide +kernel
theorem dX4_later_12 : decode cX4_later 12 = .ok (.ifCond .lt 9, 3) := by decide +kernel
theorem dX4_later_15 : decode cX4_later 15 = .ok (.iload_n 2, 1) := by decide +kernel
theorem dX4_later_16 : decode cX4_later 16 = .ok (.bipush 99, 2) := by decide +kernel
theorem dX4_later_18 : decode cX4_later 18 = .ok (.if_icmp .le 6, 3) := by decide +kernel
theorem dX4_later_21 : decode cX4_later 21 = .ok (.bipush (-3), 2) := by decide +kernel
theorem dX4_later_23 : decode cX4_later 23 = .ok (.ireturn, 1) := by decide +kernel
theorem dX4_later_24 : decode cX4_later 24 = .ok (.aload_n 0, 1) := by decide +kernel
theorem dX4_later_25 : decode cX4_later 25 = .ok (.getfield 35, 3) := by decide +kernel
theorem dX4_later_28 : decode cX4_later 28 = .ok (.aload_n 0, 1) := by decide +kernel
theorem dX4_later_29 : decode cX4_later 29 = .ok (.getfield 31, 3) := by decide +kernel
theorem dX4_later_32 : decode cX4_later 32 = .ok (.invokevirtual 144, 3) := by decide +kernel
theorem dX4_later_35 : decode cX4_later 35 = .ok (.iconst 0, 1) := by decide +kernel
theorem dX4_later_36 : decode cX4_later 36 = .ok (.istore_n 3, 1) := by decide +kernel
theorem dX4_later_37 : decode cX4_later 37 = .ok (.iload_n 3, 1) := by decide +kernel
theorem dX4_later_38 : decode cX4_later 38 = .ok (.iload_n 2, 1) := by decide +kernel
theorem dX4_later_39 : decode cX4_later 39 = .ok (.if_icmp .ge 23, 3) := by decide +kernel
theorem dX4_later_42 : decode cX4_later 42 = .ok (.aload_n 0, 1) := by decide +kernel
theorem dX4_later_43 : decode cX4_later 43 = .ok (.getfield 35, 3) := by decide +kernel
theorem dX4_later_46 : decode cX4_later 46 = .ok (.aload_n 0, 1) := by decide +kernel
theorem dX4_later_47 : decode cX4_later 47 = .ok (.getfield 12, 3) := by decide +kernel
theorem dX4_later_50 : decode cX4_later 50 = .ok (.getfield 130, 3) := by decide +kernel
theorem dX4_later_53 : decode cX4_later 53 = .ok (.invokevirtual 133, 3) := by decide +kernel
theorem dX4_later_56 : decode cX4_later 56 = .ok (.iinc 3 1, 3) := by decide +kernel
theorem dX4_later_59 : decode cX4_later 59 = .ok (.goto (-22), 3) := by decide +kernel
theorem dX4_later_62 : decode cX4_later 62 = .ok (.aload_n 0, 1) := by decide +kernel
theorem dX4_later_63 : decode cX4_later 63 = .ok (.getfield 35, 3) := by decide +kernel
theorem dX4_later_66 : decode cX4_later 66 = .ok (.getfield 113, 3) := by decide +kernel
theorem dX4_later_69 : decode cX4_later 69 = .ok (.iload_n 1, 1) := by decide +kernel
theorem dX4_later_70 : decode cX4_later 70 = .ok (.iaload, 1) := by decide +kernel
theorem dX4_later_71 : decode cX4_later 71 = .ok (.ireturn, 1) := by decide +kernel
theorem dX4_round_0 : decode cX4_round 0 = .ok (.iload_n 1, 1) := by decide +kernel
theorem dX4_round_1 : decode cX4_round 1 = .ok (.ifCond .lt 8, 3) := by decide +kernel
theorem dX4_round_4 : decode cX4_round 4 = .ok (.iload_n 1, 1) := by decide +kernel
theorem dX4_round_5 : decode cX4_round 5 = .ok (.iconst 1, 1) := by decide +kernel
theorem dX4_round_6 : decode cX4_round 6 = .ok (.if_icmp .le 6, 3) := by decide +kernel
theorem dX4_round_9 : decode cX4_round 9 = .ok (.bipush (-3), 2) := by decide +kernel
theorem dX4_round_11 : decode cX4_round 11 = .ok (.ireturn, 1) := by decide +kernel
theorem dX4_round_12 : decode cX4_round 12 = .ok (.aload_n 0, 1) := by decide +kernel
theorem dX4_round_13 : decode cX4_round 13 = .ok (.getfield 35, 3) := by decide +kernel
theorem dX4_round_16 : decode cX4_round 16 = .ok (.aload_n 0, 1) := by decide +kernel
theorem dX4_round_17 : decode cX4_round 17 = .ok (.getfield 31, 3) := by decide +kernel
theorem dX4_round_20 : decode cX4_round 20 = .ok (.invokevirtual 144, 3) := by decide +kernel
theorem dX4_round_23 : decode cX4_round 23 = .ok (.iconst 0, 1) := by decide +kernel
theorem dX4_round_24 : decode cX4_round 24 = .ok (.istore_n 2, 1) := by decide +kernel
theorem dX4_round_25 : decode cX4_round 25 = .ok (.iload_n 2, 1) := by decide +kernel
theorem dX4_round_26 : decode cX4_round 26 = .ok (.sipush 500, 3) := by decide +kernel
theorem dX4_round_29 : decode cX4_round 29 = .ok (.if_icmp .gt 73, 3) := by decide +kernel
theorem dX4_round_32 : decode cX4_round 32 = .ok (.aload_n 0, 1) := by decide +kernel
theorem dX4_round_33 : decode cX4_round 33 = .ok (.getfield 35, 3) := by decide +kernel
theorem dX4_round_36 : decode cX4_round 36 = .ok (.aload_n 0, 1) := by decide +kernel
theorem dX4_round_37 : decode cX4_round 37 = .ok (.getfield 12, 3) := by decide +kernel
theorem dX4_round_40 : decode cX4_round 40 = .ok (.getfield 130, 3) := by decide +kernel
theorem dX4_round_43 : decode cX4_round 43 = .ok (.invokevirtual 146, 3) := by decide +kernel
theorem dX4_round_46 : decode cX4_round 46 = .ok (.lstore_n 3, 1) := by decide +kernel
theorem dX4_round_47 : decode cX4_round 47 = .ok (.aload_n 0, 1) := by decide +kernel
theorem dX4_round_48 : decode cX4_round 48 = .ok (.lload_n 3, 1) := by decide +kernel
theorem dX4_round_49 : decode cX4_round 49 = .ok (.iload_n 2, 1) := by decide +kernel
theorem dX4_round_50 : decode cX4_round 50 = .ok (.invokevirtual 150, 3) := by decide +kernel
theorem dX4_round_53 : decode cX4_round 53 = .ok (.istore 5, 2) := by decide +kernel
theorem dX4_round_55 : decode cX4_round 55 = .ok (.iload 5, 2) := by decide +kernel
theorem dX4_round_57 : decode cX4_round 57 = .ok (.iconst (-1), 1) := by decide +kernel
theorem dX4_round_58 : decode cX4_round 58 = .ok (.if_icmp .eq 17, 3) := by decide +kernel
theorem dX4_round_61 : decode cX4_round 61 = .ok (.iload_n 1, 1) := by decide +kernel
theorem dX4_round_62 : decode cX4_round 62 = .ok (.ifCond .ne 8, 3) := by decide +kernel
theorem dX4_round_65 : decode cX4_round 65 = .ok (.iload 5, 2) := by decide +kernel
theorem dX4_round_67 : decode cX4_round 67 = .ok (.goto 7, 3) := by decide +kernel
theorem dX4_round_70 : decode cX4_round 70 = .ok (.iload_n 2, 1) := by decide +kernel
theorem dX4_round_71 : decode cX4_round 71 = .ok (.iload 5, 2) := by decide +kernel
theorem dX4_round_73 : decode cX4_round 73 = .ok (.isub, 1) := by decide +kernel
theorem dX4_round_74 : decode cX4_round 74 = .ok (.ireturn, 1) := by decide +kernel
theorem dX4_round_75 : decode cX4_round 75 = .ok (.aload_n 0, 1) := by decide +kernel
theorem dX4_round_76 : decode cX4_round 76 = .ok (.getfield 59, 3) := by decide +kernel
theorem dX4_round_79 : decode cX4_round 79 = .ok (.iload_n 2, 1) := by decide +kernel
theorem dX4_round_80 : decode cX4_round 80 = .ok (.lload_n 3, 1) := by decide +kernel
theorem dX4_round_81 : decode cX4_round 81 = .ok (.lastore, 1) := by decide +kernel
theorem dX4_round_82 : decode cX4_round 82 = .ok (.aload_n 0, 1) := by decide +kernel
theorem dX4_round_83 : decode cX4_round 83 = .ok (.getfield 35, 3) := by decide +kernel
theorem dX4_round_86 : decode cX4_round 86 = .ok (.aload_n 0, 1) := by decide +kernel
theorem dX4_round_87 : decode cX4_round 87 = .ok (.getfield 12, 3) := by decide +kernel
theorem dX4_round_90 : decode cX4_round 90 = .ok (.getfield 130, 3) := by decide +kernel
theorem dX4_round_93 : decode cX4_round 93 = .ok (.invokevirtual 133, 3) := by decide +kernel
theorem dX4_round_96 : decode cX4_round 96 = .ok (.iinc 2 1, 3) := by decide +kernel
theorem dX4_round_99 : decode cX4_round 99 = .ok (.goto (-74), 3) := by decide +kernel
theorem dX4_round_102 : decode cX4_round 102 = .ok (.iconst (-1), 1) := by decide +kernel
theorem dX4_round_103 : decode cX4_round 103 = .ok (.ireturn, 1) := by decide +kernel
theorem dX4_touch_0 : decode cX4_touch 0 = .ok (.aload_n 0, 1) := by decide +kernel
theorem dX4_touch_1 : decode cX4_touch 1 = .ok (.iload_n 1, 1) := by decide +kernel
theorem dX4_touch_2 : decode cX4_touch 2 = .ok (.iload_n 2, 1) := by decide +kernel
theorem dX4_touch_3 : decode cX4_touch 3 = .ok (.iload_n 3, 1) := by decide +kernel
theorem dX4_touch_4 : decode cX4_touch 4 = .ok (.invokevirtual 154, 3) := by decide +kernel
theorem dX4_touch_7 : decode cX4_touch 7 = .ok (.istore 4, 2) := by decide +kernel
theorem dX4_touch_9 : decode cX4_touch 9 = .ok (.iload 4, 2) := by decide +kernel
theorem dX4_touch_11 : decode cX4_touch 11 = .ok (.ifCond .eq 6, 3) := by decide +kernel
theorem dX4_touch_14 : decode cX4_touch 14 = .ok (.iload 4, 2) := by decide +kernel
theorem dX4_touch_16 : decode cX4_touch 16 = .ok (.ireturn, 1) := by decide +kernel
theorem dX4_touch_17 : decode cX4_touch 17 = .ok (.aload_n 0, 1) := by decide +kernel
theorem dX4_touch_18 : decode cX4_touch 18 = .ok (.getfield 31, 3) := by decide +kernel
theorem dX4_touch_21 : decode cX4_touch 21 = .ok (.iload_n 1, 1) := by decide +kernel
theorem dX4_touch_22 : decode cX4_touch 22 = .ok (.iload_n 2, 1) := by decide +kernel
theorem dX4_touch_23 : decode cX4_touch 23 = .ok (.iload_n 3, 1) := by decide +kernel
theorem dX4_touch_24 : decode cX4_touch 24 = .ok (.invokevirtual 158, 3) := by decide +kernel
theorem dX4_touch_27 : decode cX4_touch 27 = .ok (.ifCond .eq 7, 3) := by decide +kernel
theorem dX4_touch_30 : decode cX4_touch 30 = .ok (.iconst 1, 1) := by decide +kernel
theorem dX4_touch_31 : decode cX4_touch 31 = .ok (.goto 4, 3) := by decide +kernel
theorem dX4_touch_34 : decode cX4_touch 34 = .ok (.iconst 0, 1) := by decide +kernel
theorem dX4_touch_35 : decode cX4_touch 35 = .ok (.ireturn, 1) := by decide +kernel
theorem dX4_when_0 : decode cX4_when 0 = .ok (.aload_n 0, 1) := by decide +kernel
theorem dX4_when_1 : decode cX4_when 1 = .ok (.iload_n 1, 1) := by decide +kernel
theorem dX4_when_2 : decode cX4_when 2 = .ok (.iload_n 2, 1) := by decide +kernel
theorem dX4_when_3 : decode cX4_when 3 = .ok (.iload_n 3, 1) := by decide +kernel
theorem dX4_when_4 : decode cX4_when 4 = .ok (.invokevirtual 154, 3) := by decide +kernel
theorem dX4_when_7 : decode cX4_when 7 = .ok (.istore 4, 2) := by decide +kernel
theorem dX4_when_9 : decode cX4_when 9 = .ok (.iload 4, 2) := by decide +kernel
theorem dX4_when_11 : decode cX4_when 11 = .ok (.ifCond .eq 6, 3) := by decide +kernel
theorem dX4_when_14 : decode cX4_when 14 = .ok (.iload 4, 2) := by decide +kernel
theorem dX4_when_16 : decode cX4_when 16 = .ok (.ireturn, 1) := by decide +kernel
theorem dX4_when_17 : decode cX4_when 17 = .ok (.aload_n 0, 1) := by decide +kernel
theorem dX4_when_18 : decode cX4_when 18 = .ok (.getfield 35, 3) := by decide +kernel
theorem dX4_when_21 : decode cX4_when 21 = .ok (.aload_n 0, 1) := by decide +kernel
theorem dX4_when_22 : decode cX4_when 22 = .ok (.getfield 31, 3) := by decide +kernel
theorem dX4_when_25 : decode cX4_when 25 = .ok (.invokevirtual 144, 3) := by decide +kernel
theorem dX4_when_28 : decode cX4_when 28 = .ok (.aload_n 0, 1) := by decide +kernel
theorem dX4_when_29 : decode cX4_when 29 = .ok (.iload_n 1, 1) := by decide +kernel
theorem dX4_when_30 : decode cX4_when 30 = .ok (.iload_n 2, 1) := by decide +kernel
theorem dX4_when_31 : decode cX4_when 31 = .ok (.iload_n 3, 1) := by decide +kernel
theorem dX4_when_32 : decode cX4_when 32 = .ok (.sipush 399, 3) := by decide +kernel
theorem dX4_when_35 : decode cX4_when 35 = .ok (.invokevirtual 162, 3) := by decide +kernel
theorem dX4_when_38 : decode cX4_when 38 = .ok (.ireturn, 1) := by decide +kernel
theorem dX4_often_0 : decode cX4_often 0 = .ok (.aload_n 0, 1) := by decide +kernel
theorem dX4_often_1 : decode cX4_often 1 = .ok (.iload_n 1, 1) := by decide +kernel
theorem dX4_often_2 : decode cX4_often 2 = .ok (.iload_n 2, 1) := by decide +kernel
theorem dX4_often_3 : decode cX4_often 3 = .ok (.iload_n 3, 1) := by decide +kernel
theorem dX4_often_4 : decode cX4_often 4 = .ok (.invokevirtual 154, 3) := by decide +kernel
theorem dX4_often_7 : decode cX4_often 7 = .ok (.istore 5, 2) := by decide +kernel
theorem dX4_often_9 : decode cX4_often 9 = .ok (.iload 5, 2) := by decide +kernel
theorem dX4_often_11 : decode cX4_often 11 = .ok (.ifCond .eq 6, 3) := by decide +kernel
theorem dX4_often_14 : decode cX4_often 14 = .ok (.iload 5, 2) := by decide +kernel
theorem dX4_often_16 : decode cX4_often 16 = .ok (.ireturn, 1) := by decide +kernel
theorem dX4_often_17 : decode cX4_often 17 = .ok (.iload 4, 2) := by decide +kernel
theorem dX4_often_19 : decode cX4_often 19 = .ok (.invokestatic 166, 3) := by decide +kernel
theorem dX4_often_22 : decode cX4_often 22 = .ok (.ifCond .ne 6, 3) := by decide +kernel
theorem dX4_often_25 : decode cX4_often 25 = .ok (.bipush (-3), 2) := by decide +kernel
theorem dX4_often_27 : decode cX4_often 27 = .ok (.ireturn, 1) := by decide +kernel
theorem dX4_often_28 : decode cX4_often 28 = .ok (.iconst 0, 1) := by decide +kernel
theorem dX4_often_29 : decode cX4_often 29 = .ok (.istore 6, 2) := by decide +kernel
theorem dX4_often_31 : decode cX4_often 31 = .ok (.aload_n 0, 1) := by decide +kernel
theorem dX4_often_32 : decode cX4_often 32 = .ok (.getfield 35, 3) := by decide +kernel
theorem dX4_often_35 : decode cX4_often 35 = .ok (.aload_n 0, 1) := by decide +kernel
theorem dX4_often_36 : decode cX4_often 36 = .ok (.getfield 31, 3) := by decide +kernel
theorem dX4_often_39 : decode cX4_often 39 = .ok (.invokevirtual 144, 3) := by decide +kernel
theorem dX4_often_42 : decode cX4_often 42 = .ok (.iconst 0, 1) := by decide +kernel
theorem dX4_often_43 : decode cX4_often 43 = .ok (.istore 7, 2) := by decide +kernel
theorem dX4_often_45 : decode cX4_often 45 = .ok (.iload 7, 2) := by decide +kernel
theorem dX4_often_47 : decode cX4_often 47 = .ok (.iload 4, 2) := by decide +kernel
theorem dX4_often_49 : decode cX4_often 49 = .ok (.if_icmp .ge 39, 3) := by decide +kernel
theorem dX4_often_52 : decode cX4_often 52 = .ok (.aload_n 0, 1) := by decide +kernel
theorem dX4_often_53 : decode cX4_often 53 = .ok (.getfield 35, 3) := by decide +kernel
theorem dX4_often_56 : decode cX4_often 56 = .ok (.iload_n 1, 1) := by decide +kernel
theorem dX4_often_57 : decode cX4_often 57 = .ok (.iload_n 2, 1) := by decide +kernel
theorem dX4_often_58 : decode cX4_often 58 = .ok (.iload_n 3, 1) := by decide +kernel
theorem dX4_often_59 : decode cX4_often 59 = .ok (.invokevirtual 158, 3) := by decide +kernel
theorem dX4_often_62 : decode cX4_often 62 = .ok (.ifCond .eq 6, 3) := by decide +kernel
theorem dX4_often_65 : decode cX4_often 65 = .ok (.iinc 6 1, 3) := by decide +kernel
theorem dX4_often_68 : decode cX4_often 68 = .ok (.aload_n 0, 1) := by decide +kernel
theorem dX4_often_69 : decode cX4_often 69 = .ok (.getfield 35, 3) := by decide +kernel
theorem dX4_often_72 : decode cX4_often 72 = .ok (.aload_n 0, 1) := by decide +kernel
theorem dX4_often_73 : decode cX4_often 73 = .ok (.getfield 12, 3) := by decide +kernel
theorem dX4_often_76 : decode cX4_often 76 = .ok (.getfield 130, 3) := by decide +kernel
theorem dX4_often_79 : decode cX4_often 79 = .ok (.invokevirtual 133, 3) := by decide +kernel
theorem dX4_often_82 : decode cX4_often 82 = .ok (.iinc 7 1, 3) := by decide +kernel
theorem dX4_often_85 : decode cX4_often 85 = .ok (.goto (-40), 3) := by decide +kernel
theorem dX4_often_88 : decode cX4_often 88 = .ok (.iload 6, 2) := by decide +kernel
theorem dX4_often_90 : decode cX4_often 90 = .ok (.ireturn, 1) := by decide +kernel
theorem dX4_brings_0 : decode cX4_brings 0 = .ok (.aload_n 0, 1) := by decide +kernel
theorem dX4_brings_1 : decode cX4_brings 1 = .ok (.iload_n 1, 1) := by decide +kernel
theorem dX4_brings_2 : decode cX4_brings 2 = .ok (.invokevirtual 107, 3) := by decide +kernel
theorem dX4_brings_5 : decode cX4_brings 5 = .ok (.ifCond .ne 6, 3) := by decide +kernel
theorem dX4_brings_8 : decode cX4_brings 8 = .ok (.bipush (-2), 2) := by decide +kernel
theorem dX4_brings_10 : decode cX4_brings 10 = .ok (.ireturn, 1) := by decide +kernel
theorem dX4_brings_11 : decode cX4_brings 11 = .ok (.iload_n 2, 1) := by decide +kernel
theorem dX4_brings_12 : decode cX4_brings 12 = .ok (.invokestatic 166, 3) := by decide +kernel
theorem dX4_brings_15 : decode cX4_brings 15 = .ok (.ifCond .ne 6, 3) := by decide +kernel
theorem dX4_brings_18 : decode cX4_brings 18 = .ok (.bipush (-3), 2) := by decide +kernel
theorem dX4_brings_20 : decode cX4_brings 20 = .ok (.ireturn, 1) := by decide +kernel
theorem dX4_brings_21 : decode cX4_brings 21 = .ok (.iconst 0, 1) := by decide +kernel
theorem dX4_brings_22 : decode cX4_brings 22 = .ok (.istore_n 3, 1) := by decide +kernel
theorem dX4_brings_23 : decode cX4_brings 23 = .ok (.aload_n 0, 1) := by decide +kernel
theorem dX4_brings_24 : decode cX4_brings 24 = .ok (.getfield 35, 3) := by decide +kernel
theorem dX4_brings_27 : decode cX4_brings 27 = .ok (.aload_n 0, 1) := by decide +kernel
theorem dX4_brings_28 : decode cX4_brings 28 = .ok (.getfield 31, 3) := by decide +kernel
theorem dX4_brings_31 : decode cX4_brings 31 = .ok (.invokevirtual 144, 3) := by decide +kernel
theorem dX4_brings_34 : decode cX4_brings 34 = .ok (.iconst 0, 1) := by decide +kernel
theorem dX4_brings_35 : decode cX4_brings 35 = .ok (.istore 4, 2) := by decide +kernel
theorem dX4_brings_37 : decode cX4_brings 37 = .ok (.iload 4, 2) := by decide +kernel
theorem dX4_brings_39 : decode cX4_brings 39 = .ok (.iload_n 2, 1) := by decide +kernel
theorem dX4_brings_40 : decode cX4_brings 40 = .ok (.if_icmp .ge 34, 3) := by decide +kernel
theorem dX4_brings_43 : decode cX4_brings 43 = .ok (.iload_n 3, 1) := by decide +kernel
theorem dX4_brings_44 : decode cX4_brings 44 = .ok (.aload_n 0, 1) := by decide +kernel
theorem dX4_brings_45 : decode cX4_brings 45 = .ok (.getfield 35, 3) := by decide +kernel
theorem dX4_brings_48 : decode cX4_brings 48 = .ok (.iload_n 1, 1) := by decide +kernel
theorem dX4_brings_49 : decode cX4_brings 49 = .ok (.invokevirtual 169, 3) := by decide +kernel
theorem dX4_brings_52 : decode cX4_brings 52 = .ok (.iadd, 1) := by decide +kernel
theorem dX4_brings_53 : decode cX4_brings 53 = .ok (.istore_n 3, 1) := by decide +kernel
theorem dX4_brings_54 : decode cX4_brings 54 = .ok (.aload_n 0, 1) := by decide +kernel
theorem dX4_brings_55 : decode cX4_brings 55 = .ok (.getfield 35, 3) := by decide +kernel
theorem dX4_brings_58 : decode cX4_brings 58 = .ok (.aload_n 0, 1) := by decide +kernel
theorem dX4_brings_59 : decode cX4_brings 59 = .ok (.getfield 12, 3) := by decide +kernel
theorem dX4_brings_62 : decode cX4_brings 62 = .ok (.getfield 130, 3) := by decide +kernel
theorem dX4_brings_65 : decode cX4_brings 65 = .ok (.invokevirtual 133, 3) := by decide +kernel
theorem dX4_brings_68 : decode cX4_brings 68 = .ok (.iinc 4 1, 3) := by decide +kernel
theorem dX4_brings_71 : decode cX4_brings 71 = .ok (.goto (-34), 3) := by decide +kernel
theorem dX4_brings_74 : decode cX4_brings 74 = .ok (.iload_n 3, 1) := by decide +kernel
theorem dX4_brings_75 : decode cX4_brings 75 = .ok (.ireturn, 1) := by decide +kernel
theorem dX4_feuding_0 : decode cX4_feuding 0 = .ok (.iload_n 1, 1) := by decide +kernel
theorem dX4_feuding_1 : decode cX4_feuding 1 = .ok (.invokestatic 166, 3) := by decide +kernel
theorem dX4_feuding_4 : decode cX4_feuding 4 = .ok (.ifCond .ne 6, 3) := by decide +kernel
theorem dX4_feuding_7 : decode cX4_feuding 7 = .ok (.bipush (-3), 2) := by decide +kernel
theorem dX4_feuding_9 : decode cX4_feuding 9 = .ok (.ireturn, 1) := by decide +kernel
theorem dX4_feuding_10 : decode cX4_feuding 10 = .ok (.iconst 0, 1) := by decide +kernel
theorem dX4_feuding_11 : decode cX4_feuding 11 = .ok (.istore_n 2, 1) := by decide +kernel
theorem dX4_feuding_12 : decode cX4_feuding 12 = .ok (.aload_n 0, 1) := by decide +kernel
theorem dX4_feuding_13 : decode cX4_feuding 13 = .ok (.getfield 35, 3) := by decide +kernel
theorem dX4_feuding_16 : decode cX4_feuding 16 = .ok (.aload_n 0, 1) := by decide +kernel
theorem dX4_feuding_17 : decode cX4_feuding 17 = .ok (.getfield 31, 3) := by decide +kernel
theorem dX4_feuding_20 : decode cX4_feuding 20 = .ok (.invokevirtual 144, 3) := by decide +kernel
theorem dX4_feuding_23 : decode cX4_feuding 23 = .ok (.iconst 0, 1) := by decide +kernel
theorem dX4_feuding_24 : decode cX4_feuding 24 = .ok (.istore_n 3, 1) := by decide +kernel
theorem dX4_feuding_25 : decode cX4_feuding 25 = .ok (.iload_n 3, 1) := by decide +kernel
theorem dX4_feuding_26 : decode cX4_feuding 26 = .ok (.iload_n 1, 1) := by decide +kernel
theorem dX4_feuding_27 : decode cX4_feuding 27 = .ok (.if_icmp .ge 36, 3) := by decide +kernel
theorem dX4_feuding_30 : decode cX4_feuding 30 = .ok (.aload_n 0, 1) := by decide +kernel
theorem dX4_feuding_31 : decode cX4_feuding 31 = .ok (.getfield 35, 3) := by decide +kernel
theorem dX4_feuding_34 : decode cX4_feuding 34 = .ok (.invokevirtual 172, 3) := by decide +kernel
theorem dX4_feuding_37 : decode cX4_feuding 37 = .ok (.ifCond .eq 6, 3) := by decide +kernel
theorem dX4_feuding_40 : decode cX4_feuding 40 = .ok (.iinc 2 1, 3) := by decide +kernel
theorem dX4_feuding_43 : decode cX4_feuding 43 = .ok (.aload_n 0, 1) := by decide +kernel
theorem dX4_feuding_44 : decode cX4_feuding 44 = .ok (.getfield 35, 3) := by decide +kernel
theorem dX4_feuding_47 : decode cX4_feuding 47 = .ok (.aload_n 0, 1) := by decide +kernel
theorem dX4_feuding_48 : decode cX4_feuding 48 = .ok (.getfield 12, 3) := by decide +kernel
theorem dX4_feuding_51 : decode cX4_feuding 51 = .ok (.getfield 130, 3) := by decide +kernel
theorem dX4_feuding_54 : decode cX4_feuding 54 = .ok (.invokevirtual 133, 3) := by decide +kernel
theorem dX4_feuding_57 : decode cX4_feuding 57 = .ok (.iinc 3 1, 3) := by decide +kernel
theorem dX4_feuding_60 : decode cX4_feuding 60 = .ok (.goto (-35), 3) := by decide +kernel
theorem dX4_feuding_63 : decode cX4_feuding 63 = .ok (.iload_n 2, 1) := by decide +kernel
theorem dX4_feuding_64 : decode cX4_feuding 64 = .ok (.ireturn, 1) := by decide +kernel
theorem dX4_nearest_0 : decode cX4_nearest 0 = .ok (.aload_n 0, 1) := by decide +kernel
theorem dX4_nearest_1 : decode cX4_nearest 1 = .ok (.iload_n 1, 1) := by decide +kernel
theorem dX4_nearest_2 : decode cX4_nearest 2 = .ok (.iload_n 2, 1) := by decide +kernel
theorem dX4_nearest_3 : decode cX4_nearest 3 = .ok (.iload_n 3, 1) := by decide +kernel
theorem dX4_nearest_4 : decode cX4_nearest 4 = .ok (.invokevirtual 154, 3) := by decide +kernel
theorem dX4_nearest_7 : decode cX4_nearest 7 = .ok (.istore 4, 2) := by decide +kernel
theorem dX4_nearest_9 : decode cX4_nearest 9 = .ok (.iload 4, 2) := by decide +kernel
theorem dX4_nearest_11 : decode cX4_nearest 11 = .ok (.ifCond .eq 6, 3) := by decide +kernel
theorem dX4_nearest_14 : decode cX4_nearest 14 = .ok (.iload 4, 2) := by decide +kernel
theorem dX4_nearest_16 : decode cX4_nearest 16 = .ok (.ireturn, 1) := by decide +kernel
theorem dX4_nearest_17 : decode cX4_nearest 17 = .ok (.aload_n 0, 1) := by decide +kernel
theorem dX4_nearest_18 : decode cX4_nearest 18 = .ok (.getfield 31, 3) := by decide +kernel
theorem dX4_nearest_21 : decode cX4_nearest 21 = .ok (.iload_n 1, 1) := by decide +kernel
theorem dX4_nearest_22 : decode cX4_nearest 22 = .ok (.iload_n 2, 1) := by decide +kernel
theorem dX4_nearest_23 : decode cX4_nearest 23 = .ok (.invokevirtual 176, 3) := by decide +kernel
theorem dX4_nearest_26 : decode cX4_nearest 26 = .ok (.ifCond .eq 13, 3) := by decide +kernel
theorem dX4_nearest_29 : decode cX4_nearest 29 = .ok (.iload_n 3, 1) := by decide +kernel
theorem dX4_nearest_30 : decode cX4_nearest 30 = .ok (.ifCond .ne 7, 3) := by decide +kernel
theorem dX4_nearest_33 : decode cX4_nearest 33 = .ok (.iconst 0, 1) := by decide +kernel
theorem dX4_nearest_34 : decode cX4_nearest 34 = .ok (.goto 4, 3) := by decide +kernel
theorem dX4_nearest_37 : decode cX4_nearest 37 = .ok (.iconst (-1), 1) := by decide +kernel
theorem dX4_nearest_38 : decode cX4_nearest 38 = .ok (.ireturn, 1) := by decide +kernel
theorem dX4_nearest_39 : decode cX4_nearest 39 = .ok (.aload_n 0, 1) := by decide +kernel
theorem dX4_nearest_40 : decode cX4_nearest 40 = .ok (.getfield 35, 3) := by decide +kernel
theorem dX4_nearest_43 : decode cX4_nearest 43 = .ok (.aload_n 0, 1) := by decide +kernel
theorem dX4_nearest_44 : decode cX4_nearest 44 = .ok (.getfield 31, 3) := by decide +kernel
theorem dX4_nearest_47 : decode cX4_nearest 47 = .ok (.invokevirtual 144, 3) := by decide +kernel
theorem dX4_nearest_50 : decode cX4_nearest 50 = .ok (.aload_n 0, 1) := by decide +kernel
theorem dX4_nearest_51 : decode cX4_nearest 51 = .ok (.getfield 51, 3) := by decide +kernel
theorem dX4_nearest_54 : decode cX4_nearest 54 = .ok (.iload_n 1, 1) := by decide +kernel
theorem dX4_nearest_55 : decode cX4_nearest 55 = .ok (.iload_n 2, 1) := by decide +kernel
theorem dX4_nearest_56 : decode cX4_nearest 56 = .ok (.invokevirtual 179, 3) := by decide +kernel
theorem dX4_nearest_59 : decode cX4_nearest 59 = .ok (.iconst 1, 1) := by decide +kernel
theorem dX4_nearest_60 : decode cX4_nearest 60 = .ok (.istore 5, 2) := by decide +kernel
theorem dX4_nearest_62 : decode cX4_nearest 62 = .ok (.iload 5, 2) := by decide +kernel
theorem dX4_nearest_64 : decode cX4_nearest 64 = .ok (.iconst 5, 1) := by decide +kernel
theorem dX4_nearest_65 : decode cX4_nearest 65 = .ok (.if_icmp .gt 38, 3) := by decide +kernel
theorem dX4_nearest_68 : decode cX4_nearest 68 = .ok (.aload_n 0, 1) := by decide +kernel
theorem dX4_nearest_69 : decode cX4_nearest 69 = .ok (.getfield 51, 3) := by decide +kernel
theorem dX4_nearest_72 : decode cX4_nearest 72 = .ok (.iload 5, 2) := by decide +kernel
theorem dX4_nearest_74 : decode cX4_nearest 74 = .ok (.invokestatic 183, 3) := by decide +kernel
theorem dX4_nearest_77 : decode cX4_nearest 77 = .ok (.ifCond .eq 20, 3) := by decide +kernel
theorem dX4_nearest_80 : decode cX4_nearest 80 = .ok (.iload_n 3, 1) := by decide +kernel
theorem dX4_nearest_81 : decode cX4_nearest 81 = .ok (.ifCond .ne 8, 3) := by decide +kernel
theorem dX4_nearest_84 : decode cX4_nearest 84 = .ok (.iload 5, 2) := by decide +kernel
theorem dX4_nearest_86 : decode cX4_nearest 86 = .ok (.goto 10, 3) := by decide +kernel
theorem dX4_nearest_89 : decode cX4_nearest 89 = .ok (.aload_n 0, 1) := by decide +kernel
theorem dX4_nearest_90 : decode cX4_nearest 90 = .ok (.getfield 51, 3) := by decide +kernel
theorem dX4_nearest_93 : decode cX4_nearest 93 = .ok (.getfield 187, 3) := by decide +kernel
theorem dX4_nearest_96 : decode cX4_nearest 96 = .ok (.ireturn, 1) := by decide +kernel
theorem dX4_nearest_97 : decode cX4_nearest 97 = .ok (.iinc 5 1, 3) := by decide +kernel
theorem dX4_nearest_100 : decode cX4_nearest 100 = .ok (.goto (-38), 3) := by decide +kernel
theorem dX4_nearest_103 : decode cX4_nearest 103 = .ok (.iconst (-1), 1) := by decide +kernel
theorem dX4_nearest_104 : decode cX4_nearest 104 = .ok (.ireturn, 1) := by decide +kernel
theorem dX4_mends_0 : decode cX4_mends 0 = .ok (.aload_n 0, 1) := by decide +kernel
theorem dX4_mends_1 : decode cX4_mends 1 = .ok (.iload_n 1, 1) := by decide +kernel
theorem dX4_mends_2 : decode cX4_mends 2 = .ok (.iload_n 2, 1) := by decide +kernel
theorem dX4_mends_3 : decode cX4_mends 3 = .ok (.iload 4, 2) := by decide +kernel
theorem dX4_mends_5 : decode cX4_mends 5 = .ok (.invokevirtual 154, 3) := by decide +kernel
theorem dX4_mends_8 : decode cX4_mends 8 = .ok (.istore 5, 2) := by decide +kernel
theorem dX4_mends_10 : decode cX4_mends 10 = .ok (.iload 5, 2) := by decide +kernel
theorem dX4_mends_12 : decode cX4_mends 12 = .ok (.ifCond .eq 6, 3) := by decide +kernel
theorem dX4_mends_15 : decode cX4_mends 15 = .ok (.iload 5, 2) := by decide +kernel
theorem dX4_mends_17 : decode cX4_mends 17 = .ok (.ireturn, 1) := by decide +kernel
theorem dX4_mends_18 : decode cX4_mends 18 = .ok (.iload_n 3, 1) := by decide +kernel
theorem dX4_mends_19 : decode cX4_mends 19 = .ok (.ifCond .lt 9, 3) := by decide +kernel
theorem dX4_mends_22 : decode cX4_mends 22 = .ok (.iload_n 3, 1) := by decide +kernel
theorem dX4_mends_23 : decode cX4_mends 23 = .ok (.bipush 99, 2) := by decide +kernel
theorem dX4_mends_25 : decode cX4_mends 25 = .ok (.if_icmp .le 6, 3) := by decide +kernel
theorem dX4_mends_28 : decode cX4_mends 28 = .ok (.bipush (-3), 2) := by decide +kernel
theorem dX4_mends_30 : decode cX4_mends 30 = .ok (.ireturn, 1) := by decide +kernel
theorem dX4_mends_31 : decode cX4_mends 31 = .ok (.aload_n 0, 1) := by decide +kernel
theorem dX4_mends_32 : decode cX4_mends 32 = .ok (.getfield 12, 3) := by decide +kernel
theorem dX4_mends_35 : decode cX4_mends 35 = .ok (.invokevirtual 190, 3) := by decide +kernel
theorem dX4_mends_38 : decode cX4_mends 38 = .ok (.istore 6, 2) := by decide +kernel
theorem dX4_mends_40 : decode cX4_mends 40 = .ok (.iconst (-1), 1) := by decide +kernel
theorem dX4_mends_41 : decode cX4_mends 41 = .ok (.istore 7, 2) := by decide +kernel
theorem dX4_mends_43 : decode cX4_mends 43 = .ok (.iconst (-1), 1) := by decide +kernel
theorem dX4_mends_44 : decode cX4_mends 44 = .ok (.istore 8, 2) := by decide +kernel
theorem dX4_mends_46 : decode cX4_mends 46 = .ok (.iconst 0, 1) := by decide +kernel
theorem dX4_mends_47 : decode cX4_mends 47 = .ok (.istore 9, 2) := by decide +kernel
theorem dX4_mends_49 : decode cX4_mends 49 = .ok (.iload 9, 2) := by decide +kernel
theorem dX4_mends_51 : decode cX4_mends 51 = .ok (.sipush 256, 3) := by decide +kernel
theorem dX4_mends_54 : decode cX4_mends 54 = .ok (.if_icmp .ge 94, 3) := by decide +kernel
theorem dX4_mends_57 : decode cX4_mends 57 = .ok (.iload 9, 2) := by decide +kernel
theorem dX4_mends_59 : decode cX4_mends 59 = .ok (.invokestatic 194, 3) := by decide +kernel
theorem dX4_mends_62 : decode cX4_mends 62 = .ok (.istore 10, 2) := by decide +kernel
theorem dX4_mends_64 : decode cX4_mends 64 = .ok (.iload 7, 2) := by decide +kernel
theorem dX4_mends_66 : decode cX4_mends 66 = .ok (.iconst (-1), 1) := by decide +kernel
theorem dX4_mends_67 : decode cX4_mends 67 = .ok (.if_icmp .eq 10, 3) := by decide +kernel
theorem dX4_mends_70 : decode cX4_mends 70 = .ok (.iload 10, 2) := by decide +kernel
theorem dX4_mends_72 : decode cX4_mends 72 = .ok (.iload 8, 2) := by decide +kernel
theorem dX4_mends_74 : decode cX4_mends 74 = .ok (.if_icmp .ge 7, 3) := by decide +kernel
theorem dX4_mends_77 : decode cX4_mends 77 = .ok (.iconst 1, 1) := by decide +kernel
theorem dX4_mends_78 : decode cX4_mends 78 = .ok (.goto 4, 3) := by decide +kernel
theorem dX4_mends_81 : decode cX4_mends 81 = .ok (.iconst 0, 1) := by decide +kernel
theorem dX4_mends_82 : decode cX4_mends 82 = .ok (.istore 11, 2) := by decide +kernel
theorem dX4_mends_84 : decode cX4_mends 84 = .ok (.iload 9, 2) := by decide +kernel
theorem dX4_mends_86 : decode cX4_mends 86 = .ok (.iload 6, 2) := by decide +kernel
theorem dX4_mends_88 : decode cX4_mends 88 = .ok (.iconst (-1), 1) := by decide +kernel
theorem dX4_mends_89 : decode cX4_mends 89 = .ok (.ixor, 1) := by decide +kernel
theorem dX4_mends_90 : decode cX4_mends 90 = .ok (.iand, 1) := by decide +kernel
theorem dX4_mends_91 : decode cX4_mends 91 = .ok (.ifCond .ne 51, 3) := by decide +kernel
theorem dX4_mends_94 : decode cX4_mends 94 = .ok (.iload 11, 2) := by decide +kernel
theorem dX4_mends_96 : decode cX4_mends 96 = .ok (.ifCond .ne 6, 3) := by decide +kernel
theorem dX4_mends_99 : decode cX4_mends 99 = .ok (.goto 43, 3) := by decide +kernel
theorem dX4_mends_102 : decode cX4_mends 102 = .ok (.aload_n 0, 1) := by decide +kernel
theorem dX4_mends_103 : decode cX4_mends 103 = .ok (.getfield 35, 3) := by decide +kernel
theorem dX4_mends_106 : decode cX4_mends 106 = .ok (.aload_n 0, 1) := by decide +kernel
theorem dX4_mends_107 : decode cX4_mends 107 = .ok (.getfield 31, 3) := by decide +kernel
theorem dX4_mends_110 : decode cX4_mends 110 = .ok (.invokevirtual 144, 3) := by decide +kernel
theorem dX4_mends_113 : decode cX4_mends 113 = .ok (.aload_n 0, 1) := by decide +kernel
theorem dX4_mends_114 : decode cX4_mends 114 = .ok (.getfield 35, 3) := by decide +kernel
theorem dX4_mends_117 : decode cX4_mends 117 = .ok (.iload 9, 2) := by decide +kernel
theorem dX4_mends_119 : decode cX4_mends 119 = .ok (.putfield 197, 3) := by decide +kernel
theorem dX4_mends_122 : decode cX4_mends 122 = .ok (.aload_n 0, 1) := by decide +kernel
theorem dX4_mends_123 : decode cX4_mends 123 = .ok (.iload_n 1, 1) := by decide +kernel
theorem dX4_mends_124 : decode cX4_mends 124 = .ok (.iload_n 2, 1) := by decide +kernel
theorem dX4_mends_125 : decode cX4_mends 125 = .ok (.iconst 0, 1) := by decide +kernel
theorem dX4_mends_126 : decode cX4_mends 126 = .ok (.iload_n 3, 1) := by decide +kernel
theorem dX4_mends_127 : decode cX4_mends 127 = .ok (.invokevirtual 162, 3) := by decide +kernel
theorem dX4_mends_130 : decode cX4_mends 130 = .ok (.iconst (-1), 1) := by decide +kernel
theorem dX4_mends_131 : decode cX4_mends 131 = .ok (.if_icmp .eq 11, 3) := by decide +kernel
theorem dX4_mends_134 : decode cX4_mends 134 = .ok (.iload 9, 2) := by decide +kernel
theorem dX4_mends_136 : decode cX4_mends 136 = .ok (.istore 7, 2) := by decide +kernel
theorem dX4_mends_138 : decode cX4_mends 138 = .ok (.iload 10, 2) := by decide +kernel
theorem dX4_mends_140 : decode cX4_mends 140 = .ok (.istore 8, 2) := by decide +kernel
theorem dX4_mends_142 : decode cX4_mends 142 = .ok (.iinc 9 1, 3) := by decide +kernel
theorem dX4_mends_145 : decode cX4_mends 145 = .ok (.goto (-96), 3) := by decide +kernel
theorem dX4_mends_148 : decode cX4_mends 148 = .ok (.iload 4, 2) := by decide +kernel
theorem dX4_mends_150 : decode cX4_mends 150 = .ok (.ifCond .ne 8, 3) := by decide +kernel
theorem dX4_mends_153 : decode cX4_mends 153 = .ok (.iload 8, 2) := by decide +kernel
theorem dX4_mends_155 : decode cX4_mends 155 = .ok (.goto 5, 3) := by decide +kernel
theorem dX4_mends_158 : decode cX4_mends 158 = .ok (.iload 7, 2) := by decide +kernel
theorem dX4_mends_160 : decode cX4_mends 160 = .ok (.ireturn, 1) := by decide +kernel
theorem dX4_seen_0 : decode cX4_seen 0 = .ok (.aload_n 0, 1) := by decide +kernel
theorem dX4_seen_1 : decode cX4_seen 1 = .ok (.iload_n 1, 1) := by decide +kernel
theorem dX4_seen_2 : decode cX4_seen 2 = .ok (.invokevirtual 107, 3) := by decide +kernel
theorem dX4_seen_5 : decode cX4_seen 5 = .ok (.ifCond .eq 11, 3) := by decide +kernel
theorem dX4_seen_8 : decode cX4_seen 8 = .ok (.aload_n 0, 1) := by decide +kernel
theorem dX4_seen_9 : decode cX4_seen 9 = .ok (.iload_n 2, 1) := by decide +kernel
theorem dX4_seen_10 : decode cX4_seen 10 = .ok (.invokevirtual 96, 3) := by decide +kernel
theorem dX4_seen_13 : decode cX4_seen 13 = .ok (.ifCond .ne 6, 3) := by decide +kernel
theorem dX4_seen_16 : decode cX4_seen 16 = .ok (.bipush (-2), 2) := by decide +kernel
theorem dX4_seen_18 : decode cX4_seen 18 = .ok (.ireturn, 1) := by decide +kernel
theorem dX4_seen_19 : decode cX4_seen 19 = .ok (.iload_n 3, 1) := by decide +kernel
theorem dX4_seen_20 : decode cX4_seen 20 = .ok (.ifCond .lt 9, 3) := by decide +kernel
theorem dX4_seen_23 : decode cX4_seen 23 = .ok (.iload_n 3, 1) := by decide +kernel
theorem dX4_seen_24 : decode cX4_seen 24 = .ok (.bipush 99, 2) := by decide +kernel
theorem dX4_seen_26 : decode cX4_seen 26 = .ok (.if_icmp .le 6, 3) := by decide +kernel
theorem dX4_seen_29 : decode cX4_seen 29 = .ok (.bipush (-3), 2) := by decide +kernel
theorem dX4_seen_31 : decode cX4_seen 31 = .ok (.ireturn, 1) := by decide +kernel
theorem dX4_seen_32 : decode cX4_seen 32 = .ok (.aload_n 0, 1) := by decide +kernel
theorem dX4_seen_33 : decode cX4_seen 33 = .ok (.getfield 90, 3) := by decide +kernel
theorem dX4_seen_36 : decode cX4_seen 36 = .ok (.bipush 8, 2) := by decide +kernel
theorem dX4_seen_38 : decode cX4_seen 38 = .ok (.if_icmp .lt 6, 3) := by decide +kernel
theorem dX4_seen_41 : decode cX4_seen 41 = .ok (.bipush (-5), 2) := by decide +kernel
theorem dX4_seen_43 : decode cX4_seen 43 = .ok (.ireturn, 1) := by decide +kernel
theorem dX4_seen_44 : decode cX4_seen 44 = .ok (.aload_n 0, 1) := by decide +kernel
theorem dX4_seen_45 : decode cX4_seen 45 = .ok (.getfield 63, 3) := by decide +kernel
theorem dX4_seen_48 : decode cX4_seen 48 = .ok (.aload_n 0, 1) := by decide +kernel
theorem dX4_seen_49 : decode cX4_seen 49 = .ok (.getfield 90, 3) := by decide +kernel
theorem dX4_seen_52 : decode cX4_seen 52 = .ok (.iload_n 1, 1) := by decide +kernel
theorem dX4_seen_53 : decode cX4_seen 53 = .ok (.iastore, 1) := by decide +kernel
theorem dX4_seen_54 : decode cX4_seen 54 = .ok (.aload_n 0, 1) := by decide +kernel
theorem dX4_seen_55 : decode cX4_seen 55 = .ok (.getfield 66, 3) := by decide +kernel
theorem dX4_seen_58 : decode cX4_seen 58 = .ok (.aload_n 0, 1) := by decide +kernel
theorem dX4_seen_59 : decode cX4_seen 59 = .ok (.getfield 90, 3) := by decide +kernel
theorem dX4_seen_62 : decode cX4_seen 62 = .ok (.iload_n 2, 1) := by decide +kernel
theorem dX4_seen_63 : decode cX4_seen 63 = .ok (.iastore, 1) := by decide +kernel
theorem dX4_seen_64 : decode cX4_seen 64 = .ok (.aload_n 0, 1) := by decide +kernel
theorem dX4_seen_65 : decode cX4_seen 65 = .ok (.getfield 69, 3) := by decide +kernel
theorem dX4_seen_68 : decode cX4_seen 68 = .ok (.aload_n 0, 1) := by decide +kernel
theorem dX4_seen_69 : decode cX4_seen 69 = .ok (.getfield 90, 3) := by decide +kernel
theorem dX4_seen_72 : decode cX4_seen 72 = .ok (.iload_n 3, 1) := by decide +kernel
theorem dX4_seen_73 : decode cX4_seen 73 = .ok (.iastore, 1) := by decide +kernel
theorem dX4_seen_74 : decode cX4_seen 74 = .ok (.aload_n 0, 1) := by decide +kernel
theorem dX4_seen_75 : decode cX4_seen 75 = .ok (.dup, 1) := by decide +kernel
theorem dX4_seen_76 : decode cX4_seen 76 = .ok (.getfield 90, 3) := by decide +kernel
theorem dX4_seen_79 : decode cX4_seen 79 = .ok (.iconst 1, 1) := by decide +kernel
theorem dX4_seen_80 : decode cX4_seen 80 = .ok (.iadd, 1) := by decide +kernel
theorem dX4_seen_81 : decode cX4_seen 81 = .ok (.putfield 90, 3) := by decide +kernel
theorem dX4_seen_84 : decode cX4_seen 84 = .ok (.aload_n 0, 1) := by decide +kernel
theorem dX4_seen_85 : decode cX4_seen 85 = .ok (.getfield 90, 3) := by decide +kernel
theorem dX4_seen_88 : decode cX4_seen 88 = .ok (.ireturn, 1) := by decide +kernel
theorem dX4_forget_0 : decode cX4_forget 0 = .ok (.aload_n 0, 1) := by decide +kernel
theorem dX4_forget_1 : decode cX4_forget 1 = .ok (.getfield 90, 3) := by decide +kernel
theorem dX4_forget_4 : decode cX4_forget 4 = .ok (.istore_n 1, 1) := by decide +kernel
theorem dX4_forget_5 : decode cX4_forget 5 = .ok (.aload_n 0, 1) := by decide +kernel
theorem dX4_forget_6 : decode cX4_forget 6 = .ok (.iconst 0, 1) := by decide +kernel
theorem dX4_forget_7 : decode cX4_forget 7 = .ok (.putfield 90, 3) := by decide +kernel
theorem dX4_forget_10 : decode cX4_forget 10 = .ok (.iload_n 1, 1) := by decide +kernel
theorem dX4_forget_11 : decode cX4_forget 11 = .ok (.ireturn, 1) := by decide +kernel
theorem dX4_laws_0 : decode cX4_laws 0 = .ok (.iconst 0, 1) := by decide +kernel
theorem dX4_laws_1 : decode cX4_laws 1 = .ok (.istore_n 1, 1) := by decide +kernel
theorem dX4_laws_2 : decode cX4_laws 2 = .ok (.iconst 0, 1) := by decide +kernel
theorem dX4_laws_3 : decode cX4_laws 3 = .ok (.istore_n 2, 1) := by decide +kernel
theorem dX4_laws_4 : decode cX4_laws 4 = .ok (.iload_n 2, 1) := by decide +kernel
theorem dX4_laws_5 : decode cX4_laws 5 = .ok (.iconst 2, 1) := by decide +kernel
theorem dX4_laws_6 : decode cX4_laws 6 = .ok (.if_icmp .gt 23, 3) := by decide +kernel
theorem dX4_laws_9 : decode cX4_laws 9 = .ok (.aload_n 0, 1) := by decide +kernel
theorem dX4_laws_10 : decode cX4_laws 10 = .ok (.iload_n 2, 1) := by decide +kernel
theorem dX4_laws_11 : decode cX4_laws 11 = .ok (.invokevirtual 200, 3) := by decide +kernel
theorem dX4_laws_14 : decode cX4_laws 14 = .ok (.ifCond .eq 9, 3) := by decide +kernel
theorem dX4_laws_17 : decode cX4_laws 17 = .ok (.iload_n 1, 1) := by decide +kernel
theorem dX4_laws_18 : decode cX4_laws 18 = .ok (.iconst 1, 1) := by decide +kernel
theorem dX4_laws_19 : decode cX4_laws 19 = .ok (.iload_n 2, 1) := by decide +kernel
theorem dX4_laws_20 : decode cX4_laws 20 = .ok (.ishl, 1) := by decide +kernel
theorem dX4_laws_21 : decode cX4_laws 21 = .ok (.ior, 1) := by decide +kernel
theorem dX4_laws_22 : decode cX4_laws 22 = .ok (.istore_n 1, 1) := by decide +kernel
theorem dX4_laws_23 : decode cX4_laws 23 = .ok (.iinc 2 1, 3) := by decide +kernel
theorem dX4_laws_26 : decode cX4_laws 26 = .ok (.goto (-22), 3) := by decide +kernel
theorem dX4_laws_29 : decode cX4_laws 29 = .ok (.iload_n 1, 1) := by decide +kernel
theorem dX4_laws_30 : decode cX4_laws 30 = .ok (.ireturn, 1) := by decide +kernel
theorem dX4_count_0 : decode cX4_count 0 = .ok (.iload_n 1, 1) := by decide +kernel
theorem dX4_count_1 : decode cX4_count 1 = .ok (.tableswitch 184 0 10 #[59, 67, 75, 83, 91, 99, 107, 130, 153, 158, 176], 59) := by decide +kernel
theorem dX4_count_60 : decode cX4_count 60 = .ok (.aload_n 0, 1) := by decide +kernel
theorem dX4_count_61 : decode cX4_count 61 = .ok (.getfield 12, 3) := by decide +kernel
theorem dX4_count_64 : decode cX4_count 64 = .ok (.getfield 203, 3) := by decide +kernel
theorem dX4_count_67 : decode cX4_count 67 = .ok (.ireturn, 1) := by decide +kernel
theorem dX4_count_68 : decode cX4_count 68 = .ok (.aload_n 0, 1) := by decide +kernel
theorem dX4_count_69 : decode cX4_count 69 = .ok (.getfield 12, 3) := by decide +kernel
theorem dX4_count_72 : decode cX4_count 72 = .ok (.getfield 206, 3) := by decide +kernel
theorem dX4_count_75 : decode cX4_count 75 = .ok (.ireturn, 1) := by decide +kernel
theorem dX4_count_76 : decode cX4_count 76 = .ok (.aload_n 0, 1) := by decide +kernel
theorem dX4_count_77 : decode cX4_count 77 = .ok (.getfield 12, 3) := by decide +kernel
theorem dX4_count_80 : decode cX4_count 80 = .ok (.getfield 209, 3) := by decide +kernel
theorem dX4_count_83 : decode cX4_count 83 = .ok (.ireturn, 1) := by decide +kernel
theorem dX4_count_84 : decode cX4_count 84 = .ok (.aload_n 0, 1) := by decide +kernel
theorem dX4_count_85 : decode cX4_count 85 = .ok (.getfield 12, 3) := by decide +kernel
theorem dX4_count_88 : decode cX4_count 88 = .ok (.getfield 212, 3) := by decide +kernel
theorem dX4_count_91 : decode cX4_count 91 = .ok (.ireturn, 1) := by decide +kernel
theorem dX4_count_92 : decode cX4_count 92 = .ok (.aload_n 0, 1) := by decide +kernel
theorem dX4_count_93 : decode cX4_count 93 = .ok (.getfield 12, 3) := by decide +kernel
theorem dX4_count_96 : decode cX4_count 96 = .ok (.getfield 130, 3) := by decide +kernel
theorem dX4_count_99 : decode cX4_count 99 = .ok (.ireturn, 1) := by decide +kernel
theorem dX4_count_100 : decode cX4_count 100 = .ok (.aload_n 0, 1) := by decide +kernel
theorem dX4_count_101 : decode cX4_count 101 = .ok (.getfield 31, 3) := by decide +kernel
theorem dX4_count_104 : decode cX4_count 104 = .ok (.getfield 119, 3) := by decide +kernel
theorem dX4_count_107 : decode cX4_count 107 = .ok (.ireturn, 1) := by decide +kernel
theorem dX4_count_108 : decode cX4_count 108 = .ok (.aload_n 0, 1) := by decide +kernel
theorem dX4_count_109 : decode cX4_count 109 = .ok (.getfield 12, 3) := by decide +kernel
theorem dX4_count_112 : decode cX4_count 112 = .ok (.getfield 130, 3) := by decide +kernel
theorem dX4_count_115 : decode cX4_count 115 = .ok (.iconst 1, 1) := by decide +kernel
theorem dX4_count_116 : decode cX4_count 116 = .ok (.if_icmp .ne 13, 3) := by decide +kernel
theorem dX4_count_119 : decode cX4_count 119 = .ok (.aload_n 0, 1) := by decide +kernel
theorem dX4_count_120 : decode cX4_count 120 = .ok (.getfield 31, 3) := by decide +kernel
theorem dX4_count_123 : decode cX4_count 123 = .ok (.getfield 215, 3) := by decide +kernel
theorem dX4_count_126 : decode cX4_count 126 = .ok (.goto 4, 3) := by decide +kernel
theorem dX4_count_129 : decode cX4_count 129 = .ok (.iconst (-1), 1) := by decide +kernel
theorem dX4_count_130 : decode cX4_count 130 = .ok (.ireturn, 1) := by decide +kernel
theorem dX4_count_131 : decode cX4_count 131 = .ok (.aload_n 0, 1) := by decide +kernel
theorem dX4_count_132 : decode cX4_count 132 = .ok (.getfield 12, 3) := by decide +kernel
theorem dX4_count_135 : decode cX4_count 135 = .ok (.getfield 130, 3) := by decide +kernel
theorem dX4_count_138 : decode cX4_count 138 = .ok (.iconst 3, 1) := by decide +kernel
theorem dX4_count_139 : decode cX4_count 139 = .ok (.if_icmp .ne 13, 3) := by decide +kernel
theorem dX4_count_142 : decode cX4_count 142 = .ok (.aload_n 0, 1) := by decide +kernel
theorem dX4_count_143 : decode cX4_count 143 = .ok (.getfield 31, 3) := by decide +kernel
theorem dX4_count_146 : decode cX4_count 146 = .ok (.getfield 218, 3) := by decide +kernel
theorem dX4_count_149 : decode cX4_count 149 = .ok (.goto 4, 3) := by decide +kernel
theorem dX4_count_152 : decode cX4_count 152 = .ok (.iconst (-1), 1) := by decide +kernel
theorem dX4_count_153 : decode cX4_count 153 = .ok (.ireturn, 1) := by decide +kernel
theorem dX4_count_154 : decode cX4_count 154 = .ok (.aload_n 0, 1) := by decide +kernel
theorem dX4_count_155 : decode cX4_count 155 = .ok (.getfield 90, 3) := by decide +kernel
theorem dX4_count_158 : decode cX4_count 158 = .ok (.ireturn, 1) := by decide +kernel
theorem dX4_count_159 : decode cX4_count 159 = .ok (.aload_n 0, 1) := by decide +kernel
theorem dX4_count_160 : decode cX4_count 160 = .ok (.getfield 12, 3) := by decide +kernel
theorem dX4_count_163 : decode cX4_count 163 = .ok (.invokevirtual 221, 3) := by decide +kernel
theorem dX4_count_166 : decode cX4_count 166 = .ok (.aload_n 0, 1) := by decide +kernel
theorem dX4_count_167 : decode cX4_count 167 = .ok (.getfield 31, 3) := by decide +kernel
theorem dX4_count_170 : decode cX4_count 170 = .ok (.getfield 224, 3) := by decide +kernel
theorem dX4_count_173 : decode cX4_count 173 = .ok (.iconst (-1), 1) := by decide +kernel
theorem dX4_count_174 : decode cX4_count 174 = .ok (.ixor, 1) := by decide +kernel
theorem dX4_count_175 : decode cX4_count 175 = .ok (.iand, 1) := by decide +kernel
theorem dX4_count_176 : decode cX4_count 176 = .ok (.ireturn, 1) := by decide +kernel
theorem dX4_count_177 : decode cX4_count 177 = .ok (.aload_n 0, 1) := by decide +kernel
theorem dX4_count_178 : decode cX4_count 178 = .ok (.getfield 22, 3) := by decide +kernel
theorem dX4_count_181 : decode cX4_count 181 = .ok (.getfield 76, 3) := by decide +kernel
theorem dX4_count_184 : decode cX4_count 184 = .ok (.ireturn, 1) := by decide +kernel
theorem dX4_count_185 : decode cX4_count 185 = .ok (.bipush (-3), 2) := by decide +kernel
theorem dX4_count_187 : decode cX4_count 187 = .ok (.ireturn, 1) := by decide +kernel
theorem dX4_isPlot_0 : decode cX4_isPlot 0 = .ok (.iload_n 1, 1) := by decide +kernel
theorem dX4_isPlot_1 : decode cX4_isPlot 1 = .ok (.ifCond .lt 18, 3) := by decide +kernel
theorem dX4_isPlot_4 : decode cX4_isPlot 4 = .ok (.iload_n 1, 1) := by decide +kernel
theorem dX4_isPlot_5 : decode cX4_isPlot 5 = .ok (.aload_n 0, 1) := by decide +kernel
theorem dX4_isPlot_6 : decode cX4_isPlot 6 = .ok (.getfield 12, 3) := by decide +kernel
theorem dX4_isPlot_9 : decode cX4_isPlot 9 = .ok (.getfield 203, 3) := by decide +kernel
theorem dX4_isPlot_12 : decode cX4_isPlot 12 = .ok (.if_icmp .ge 7, 3) := by decide +kernel
theorem dX4_isPlot_15 : decode cX4_isPlot 15 = .ok (.iconst 1, 1) := by decide +kernel
theorem dX4_isPlot_16 : decode cX4_isPlot 16 = .ok (.goto 4, 3) := by decide +kernel
theorem dX4_isPlot_19 : decode cX4_isPlot 19 = .ok (.iconst 0, 1) := by decide +kernel
theorem dX4_isPlot_20 : decode cX4_isPlot 20 = .ok (.ireturn, 1) := by decide +kernel
theorem dX4_isHouse_0 : decode cX4_isHouse 0 = .ok (.iload_n 1, 1) := by decide +kernel
theorem dX4_isHouse_1 : decode cX4_isHouse 1 = .ok (.ifCond .lt 18, 3) := by decide +kernel
theorem dX4_isHouse_4 : decode cX4_isHouse 4 = .ok (.iload_n 1, 1) := by decide +kernel
theorem dX4_isHouse_5 : decode cX4_isHouse 5 = .ok (.aload_n 0, 1) := by decide +kernel
theorem dX4_isHouse_6 : decode cX4_isHouse 6 = .ok (.getfield 12, 3) := by decide +kernel
theorem dX4_isHouse_9 : decode cX4_isHouse 9 = .ok (.getfield 206, 3) := by decide +kernel
theorem dX4_isHouse_12 : decode cX4_isHouse 12 = .ok (.if_icmp .ge 7, 3) := by decide +kernel
theorem dX4_isHouse_15 : decode cX4_isHouse 15 = .ok (.iconst 1, 1) := by decide +kernel
theorem dX4_isHouse_16 : decode cX4_isHouse 16 = .ok (.goto 4, 3) := by decide +kernel
theorem dX4_isHouse_19 : decode cX4_isHouse 19 = .ok (.iconst 0, 1) := by decide +kernel
theorem dX4_isHouse_20 : decode cX4_isHouse 20 = .ok (.ireturn, 1) := by decide +kernel
theorem dX4_areDays_0 : decode cX4_areDays 0 = .ok (.iload_n 0, 1) := by decide +kernel
theorem dX4_areDays_1 : decode cX4_areDays 1 = .ok (.iconst 1, 1) := by decide +kernel
theorem dX4_areDays_2 : decode cX4_areDays 2 = .ok (.if_icmp .lt 13, 3) := by decide +kernel
theorem dX4_areDays_5 : decode cX4_areDays 5 = .ok (.iload_n 0, 1) := by decide +kernel
theorem dX4_areDays_6 : decode cX4_areDays 6 = .ok (.bipush 99, 2) := by decide +kernel
theorem dX4_areDays_8 : decode cX4_areDays 8 = .ok (.if_icmp .gt 7, 3) := by decide +kernel
theorem dX4_areDays_11 : decode cX4_areDays 11 = .ok (.iconst 1, 1) := by decide +kernel
theorem dX4_areDays_12 : decode cX4_areDays 12 = .ok (.goto 4, 3) := by decide +kernel
theorem dX4_areDays_15 : decode cX4_areDays 15 = .ok (.iconst 0, 1) := by decide +kernel
theorem dX4_areDays_16 : decode cX4_areDays 16 = .ok (.ireturn, 1) := by decide +kernel
theorem dX4_refusePair_0 : decode cX4_refusePair 0 = .ok (.aload_n 0, 1) := by decide +kernel
theorem dX4_refusePair_1 : decode cX4_refusePair 1 = .ok (.iload_n 1, 1) := by decide +kernel
theorem dX4_refusePair_2 : decode cX4_refusePair 2 = .ok (.invokevirtual 107, 3) := by decide +kernel
theorem dX4_refusePair_5 : decode cX4_refusePair 5 = .ok (.ifCond .eq 11, 3) := by decide +kernel
theorem dX4_refusePair_8 : decode cX4_refusePair 8 = .ok (.aload_n 0, 1) := by decide +kernel
theorem dX4_refusePair_9 : decode cX4_refusePair 9 = .ok (.iload_n 2, 1) := by decide +kernel
theorem dX4_refusePair_10 : decode cX4_refusePair 10 = .ok (.invokevirtual 107, 3) := by decide +kernel
theorem dX4_refusePair_13 : decode cX4_refusePair 13 = .ok (.ifCond .ne 6, 3) := by decide +kernel
theorem dX4_refusePair_16 : decode cX4_refusePair 16 = .ok (.bipush (-2), 2) := by decide +kernel
theorem dX4_refusePair_18 : decode cX4_refusePair 18 = .ok (.ireturn, 1) := by decide +kernel
theorem dX4_refusePair_19 : decode cX4_refusePair 19 = .ok (.iload_n 3, 1) := by decide +kernel
theorem dX4_refusePair_20 : decode cX4_refusePair 20 = .ok (.ifCond .lt 13, 3) := by decide +kernel
theorem dX4_refusePair_23 : decode cX4_refusePair 23 = .ok (.iload_n 3, 1) := by decide +kernel
theorem dX4_refusePair_24 : decode cX4_refusePair 24 = .ok (.iconst 1, 1) := by decide +kernel
theorem dX4_refusePair_25 : decode cX4_refusePair 25 = .ok (.if_icmp .gt 8, 3) := by decide +kernel
theorem dX4_refusePair_28 : decode cX4_refusePair 28 = .ok (.iload_n 1, 1) := by decide +kernel
theorem dX4_refusePair_29 : decode cX4_refusePair 29 = .ok (.iload_n 2, 1) := by decide +kernel
theorem dX4_refusePair_30 : decode cX4_refusePair 30 = .ok (.if_icmp .ne 8, 3) := by decide +kernel
theorem dX4_refusePair_33 : decode cX4_refusePair 33 = .ok (.bipush (-3), 2) := by decide +kernel
theorem dX4_refusePair_35 : decode cX4_refusePair 35 = .ok (.goto 4, 3) := by decide +kernel
theorem dX4_refusePair_38 : decode cX4_refusePair 38 = .ok (.iconst 0, 1) := by decide +kernel
theorem dX4_refusePair_39 : decode cX4_refusePair 39 = .ok (.ireturn, 1) := by decide +kernel
theorem dX4_isSuch_0 : decode cX4_isSuch 0 = .ok (.iload_n 1, 1) := by decide +kernel
theorem dX4_isSuch_1 : decode cX4_isSuch 1 = .ok (.ifCond .eq 20, 3) := by decide +kernel
theorem dX4_isSuch_4 : decode cX4_isSuch 4 = .ok (.iload_n 1, 1) := by decide +kernel
theorem dX4_isSuch_5 : decode cX4_isSuch 5 = .ok (.iload_n 0, 1) := by decide +kernel
theorem dX4_isSuch_6 : decode cX4_isSuch 6 = .ok (.iconst 1, 1) := by decide +kernel
theorem dX4_isSuch_7 : decode cX4_isSuch 7 = .ok (.iadd, 1) := by decide +kernel
theorem dX4_isSuch_8 : decode cX4_isSuch 8 = .ok (.if_icmp .eq 13, 3) := by decide +kernel
theorem dX4_isSuch_11 : decode cX4_isSuch 11 = .ok (.iload_n 1, 1) := by decide +kernel
theorem dX4_isSuch_12 : decode cX4_isSuch 12 = .ok (.iconst 1, 1) := by decide +kernel
theorem dX4_isSuch_13 : decode cX4_isSuch 13 = .ok (.if_icmp .ne 12, 3) := by decide +kernel
theorem dX4_isSuch_16 : decode cX4_isSuch 16 = .ok (.iload_n 0, 1) := by decide +kernel
theorem dX4_isSuch_17 : decode cX4_isSuch 17 = .ok (.iconst 3, 1) := by decide +kernel
theorem dX4_isSuch_18 : decode cX4_isSuch 18 = .ok (.if_icmp .eq 7, 3) := by decide +kernel
theorem dX4_isSuch_21 : decode cX4_isSuch 21 = .ok (.iconst 1, 1) := by decide +kernel
theorem dX4_isSuch_22 : decode cX4_isSuch 22 = .ok (.goto 4, 3) := by decide +kernel
theorem dX4_isSuch_25 : decode cX4_isSuch 25 = .ok (.iconst 0, 1) := by decide +kernel
theorem dX4_isSuch_26 : decode cX4_isSuch 26 = .ok (.ireturn, 1) := by decide +kernel
theorem dX4_firstNightWith_0 : decode cX4_firstNightWith 0 = .ok (.iconst 0, 1) := by decide +kernel
theorem dX4_firstNightWith_1 : decode cX4_firstNightWith 1 = .ok (.istore 4, 2) := by decide +kernel
theorem dX4_firstNightWith_3 : decode cX4_firstNightWith 3 = .ok (.iload 4, 2) := by decide +kernel
theorem dX4_firstNightWith_5 : decode cX4_firstNightWith 5 = .ok (.iload_n 3, 1) := by decide +kernel
theorem dX4_firstNightWith_6 : decode cX4_firstNightWith 6 = .ok (.if_icmp .ge 34, 3) := by decide +kernel
theorem dX4_firstNightWith_9 : decode cX4_firstNightWith 9 = .ok (.iload 4, 2) := by decide +kernel
theorem dX4_firstNightWith_11 : decode cX4_firstNightWith 11 = .ok (.aload_n 0, 1) := by decide +kernel
theorem dX4_firstNightWith_12 : decode cX4_firstNightWith 12 = .ok (.getfield 59, 3) := by decide +kernel
theorem dX4_firstNightWith_15 : decode cX4_firstNightWith 15 = .ok (.arraylength, 1) := by decide +kernel
theorem dX4_firstNightWith_16 : decode cX4_firstNightWith 16 = .ok (.if_icmp .ge 24, 3) := by decide +kernel
theorem dX4_firstNightWith_19 : decode cX4_firstNightWith 19 = .ok (.aload_n 0, 1) := by decide +kernel
theorem dX4_firstNightWith_20 : decode cX4_firstNightWith 20 = .ok (.getfield 59, 3) := by decide +kernel
theorem dX4_firstNightWith_23 : decode cX4_firstNightWith 23 = .ok (.iload 4, 2) := by decide +kernel
theorem dX4_firstNightWith_25 : decode cX4_firstNightWith 25 = .ok (.laload, 1) := by decide +kernel
theorem dX4_firstNightWith_26 : decode cX4_firstNightWith 26 = .ok (.lload_n 1, 1) := by decide +kernel
theorem dX4_firstNightWith_27 : decode cX4_firstNightWith 27 = .ok (.lcmp, 1) := by decide +kernel
theorem dX4_firstNightWith_28 : decode cX4_firstNightWith 28 = .ok (.ifCond .ne 6, 3) := by decide +kernel
theorem dX4_firstNightWith_31 : decode cX4_firstNightWith 31 = .ok (.iload 4, 2) := by decide +kernel
theorem dX4_firstNightWith_33 : decode cX4_firstNightWith 33 = .ok (.ireturn, 1) := by decide +kernel
theorem dX4_firstNightWith_34 : decode cX4_firstNightWith 34 = .ok (.iinc 4 1, 3) := by decide +kernel
theorem dX4_firstNightWith_37 : decode cX4_firstNightWith 37 = .ok (.goto (-34), 3) := by decide +kernel
theorem dX4_firstNightWith_40 : decode cX4_firstNightWith 40 = .ok (.iconst (-1), 1) := by decide +kernel
theorem dX4_firstNightWith_41 : decode cX4_firstNightWith 41 = .ok (.ireturn, 1) := by decide +kernel
theorem dX4_firstMeeting_0 : decode cX4_firstMeeting 0 = .ok (.iconst 0, 1) := by decide +kernel
theorem dX4_firstMeeting_1 : decode cX4_firstMeeting 1 = .ok (.istore 5, 2) := by decide +kernel
theorem dX4_firstMeeting_3 : decode cX4_firstMeeting 3 = .ok (.iload 5, 2) := by decide +kernel
theorem dX4_firstMeeting_5 : decode cX4_firstMeeting 5 = .ok (.iload 4, 2) := by decide +kernel
theorem dX4_firstMeeting_7 : decode cX4_firstMeeting 7 = .ok (.if_icmp .gt 39, 3) := by decide +kernel
theorem dX4_firstMeeting_10 : decode cX4_firstMeeting 10 = .ok (.aload_n 0, 1) := by decide +kernel
theorem dX4_firstMeeting_11 : decode cX4_firstMeeting 11 = .ok (.getfield 35, 3) := by decide +kernel
theorem dX4_firstMeeting_14 : decode cX4_firstMeeting 14 = .ok (.iload_n 1, 1) := by decide +kernel
theorem dX4_firstMeeting_15 : decode cX4_firstMeeting 15 = .ok (.iload_n 2, 1) := by decide +kernel
theorem dX4_firstMeeting_16 : decode cX4_firstMeeting 16 = .ok (.iload_n 3, 1) := by decide +kernel
theorem dX4_firstMeeting_17 : decode cX4_firstMeeting 17 = .ok (.invokevirtual 158, 3) := by decide +kernel
theorem dX4_firstMeeting_20 : decode cX4_firstMeeting 20 = .ok (.ifCond .eq 6, 3) := by decide +kernel
theorem dX4_firstMeeting_23 : decode cX4_firstMeeting 23 = .ok (.iload 5, 2) := by decide +kernel
theorem dX4_firstMeeting_25 : decode cX4_firstMeeting 25 = .ok (.ireturn, 1) := by decide +kernel
theorem dX4_firstMeeting_26 : decode cX4_firstMeeting 26 = .ok (.aload_n 0, 1) := by decide +kernel
theorem dX4_firstMeeting_27 : decode cX4_firstMeeting 27 = .ok (.getfield 35, 3) := by decide +kernel
theorem dX4_firstMeeting_30 : decode cX4_firstMeeting 30 = .ok (.aload_n 0, 1) := by decide +kernel
theorem dX4_firstMeeting_31 : decode cX4_firstMeeting 31 = .ok (.getfield 12, 3) := by decide +kernel
theorem dX4_firstMeeting_34 : decode cX4_firstMeeting 34 = .ok (.getfield 130, 3) := by decide +kernel
theorem dX4_firstMeeting_37 : decode cX4_firstMeeting 37 = .ok (.invokevirtual 133, 3) := by decide +kernel
theorem dX4_firstMeeting_40 : decode cX4_firstMeeting 40 = .ok (.iinc 5 1, 3) := by decide +kernel
theorem dX4_firstMeeting_43 : decode cX4_firstMeeting 43 = .ok (.goto (-40), 3) := by decide +kernel
theorem dX4_firstMeeting_46 : decode cX4_firstMeeting 46 = .ok (.iconst (-1), 1) := by decide +kernel
theorem dX4_firstMeeting_47 : decode cX4_firstMeeting 47 = .ok (.ireturn, 1) := by decide +kernel
theorem dX4_costOf_0 : decode cX4_costOf 0 = .ok (.iconst 0, 1) := by decide +kernel
theorem dX4_costOf_1 : decode cX4_costOf 1 = .ok (.istore_n 1, 1) := by decide +kernel
theorem dX4_costOf_2 : decode cX4_costOf 2 = .ok (.iconst 0, 1) := by decide +kernel
theorem dX4_costOf_3 : decode cX4_costOf 3 = .ok (.istore_n 2, 1) := by decide +kernel
theorem dX4_costOf_4 : decode cX4_costOf 4 = .ok (.iload_n 2, 1) := by decide +kernel
theorem dX4_costOf_5 : decode cX4_costOf 5 = .ok (.bipush 8, 2) := by decide +kernel
theorem dX4_costOf_7 : decode cX4_costOf 7 = .ok (.if_icmp .ge 23, 3) := by decide +kernel
theorem dX4_costOf_10 : decode cX4_costOf 10 = .ok (.iload_n 0, 1) := by decide +kernel
theorem dX4_costOf_11 : decode cX4_costOf 11 = .ok (.iload_n 2, 1) := by decide +kernel
theorem dX4_costOf_12 : decode cX4_costOf 12 = .ok (.ishr, 1) := by decide +kernel
theorem dX4_costOf_13 : decode cX4_costOf 13 = .ok (.iconst 1, 1) := by decide +kernel
theorem dX4_costOf_14 : decode cX4_costOf 14 = .ok (.iand, 1) := by decide +kernel
theorem dX4_costOf_15 : decode cX4_costOf 15 = .ok (.ifCond .eq 9, 3) := by decide +kernel
theorem dX4_costOf_18 : decode cX4_costOf 18 = .ok (.iload_n 1, 1) := by decide +kernel
theorem dX4_costOf_19 : decode cX4_costOf 19 = .ok (.iconst 1, 1) := by decide +kernel
theorem dX4_costOf_20 : decode cX4_costOf 20 = .ok (.iload_n 2, 1) := by decide +kernel
theorem dX4_costOf_21 : decode cX4_costOf 21 = .ok (.iadd, 1) := by decide +kernel
theorem dX4_costOf_22 : decode cX4_costOf 22 = .ok (.iadd, 1) := by decide +kernel
theorem dX4_costOf_23 : decode cX4_costOf 23 = .ok (.istore_n 1, 1) := by decide +kernel
theorem dX4_costOf_24 : decode cX4_costOf 24 = .ok (.iinc 2 1, 3) := by decide +kernel
theorem dX4_costOf_27 : decode cX4_costOf 27 = .ok (.goto (-23), 3) := by decide +kernel
theorem dX4_costOf_30 : decode cX4_costOf 30 = .ok (.iload_n 1, 1) := by decide +kernel
theorem dX4_costOf_31 : decode cX4_costOf 31 = .ok (.ireturn, 1) := by decide +kernel
theorem dX4_explainsAllSeen_0 : decode cX4_explainsAllSeen 0 = .ok (.aload_n 0, 1) := by decide +kernel
theorem dX4_explainsAllSeen_1 : decode cX4_explainsAllSeen 1 = .ok (.getfield 35, 3) := by decide +kernel
theorem dX4_explainsAllSeen_4 : decode cX4_explainsAllSeen 4 = .ok (.invokevirtual 87, 3) := by decide +kernel
theorem dX4_explainsAllSeen_7 : decode cX4_explainsAllSeen 7 = .ok (.iconst 0, 1) := by decide +kernel
theorem dX4_explainsAllSeen_8 : decode cX4_explainsAllSeen 8 = .ok (.istore_n 2, 1) := by decide +kernel
theorem dX4_explainsAllSeen_9 : decode cX4_explainsAllSeen 9 = .ok (.iload_n 2, 1) := by decide +kernel
theorem dX4_explainsAllSeen_10 : decode cX4_explainsAllSeen 10 = .ok (.bipush 99, 2) := by decide +kernel
theorem dX4_explainsAllSeen_12 : decode cX4_explainsAllSeen 12 = .ok (.if_icmp .gt 27, 3) := by decide +kernel
theorem dX4_explainsAllSeen_15 : decode cX4_explainsAllSeen 15 = .ok (.aload_n 0, 1) := by decide +kernel
theorem dX4_explainsAllSeen_16 : decode cX4_explainsAllSeen 16 = .ok (.iload_n 2, 1) := by decide +kernel
theorem dX4_explainsAllSeen_17 : decode cX4_explainsAllSeen 17 = .ok (.invokevirtual 227, 3) := by decide +kernel
theorem dX4_explainsAllSeen_20 : decode cX4_explainsAllSeen 20 = .ok (.ifCond .ne 5, 3) := by decide +kernel
theorem dX4_explainsAllSeen_23 : decode cX4_explainsAllSeen 23 = .ok (.iconst 0, 1) := by decide +kernel
theorem dX4_explainsAllSeen_24 : decode cX4_explainsAllSeen 24 = .ok (.ireturn, 1) := by decide +kernel
theorem dX4_explainsAllSeen_25 : decode cX4_explainsAllSeen 25 = .ok (.aload_n 0, 1) := by decide +kernel
theorem dX4_explainsAllSeen_26 : decode cX4_explainsAllSeen 26 = .ok (.getfield 35, 3) := by decide +kernel
theorem dX4_explainsAllSeen_29 : decode cX4_explainsAllSeen 29 = .ok (.iload_n 1, 1) := by decide +kernel
theorem dX4_explainsAllSeen_30 : decode cX4_explainsAllSeen 30 = .ok (.invokevirtual 133, 3) := by decide +kernel
theorem dX4_explainsAllSeen_33 : decode cX4_explainsAllSeen 33 = .ok (.iinc 2 1, 3) := by decide +kernel
theorem dX4_explainsAllSeen_36 : decode cX4_explainsAllSeen 36 = .ok (.goto (-27), 3) := by decide +kernel
theorem dX4_explainsAllSeen_39 : decode cX4_explainsAllSeen 39 = .ok (.iconst 1, 1) := by decide +kernel
theorem dX4_explainsAllSeen_40 : decode cX4_explainsAllSeen 40 = .ok (.ireturn, 1) := by decide +kernel
theorem dX4_explainsNight_0 : decode cX4_explainsNight 0 = .ok (.iconst 0, 1) := by decide +kernel
theorem dX4_explainsNight_1 : decode cX4_explainsNight 1 = .ok (.istore_n 2, 1) := by decide +kernel
theorem dX4_explainsNight_2 : decode cX4_explainsNight 2 = .ok (.iload_n 2, 1) := by decide +kernel
theorem dX4_explainsNight_3 : decode cX4_explainsNight 3 = .ok (.aload_n 0, 1) := by decide +kernel
theorem dX4_explainsNight_4 : decode cX4_explainsNight 4 = .ok (.getfield 90, 3) := by decide +kernel
theorem dX4_explainsNight_7 : decode cX4_explainsNight 7 = .ok (.if_icmp .ge 44, 3) := by decide +kernel
theorem dX4_explainsNight_10 : decode cX4_explainsNight 10 = .ok (.aload_n 0, 1) := by decide +kernel
theorem dX4_explainsNight_11 : decode cX4_explainsNight 11 = .ok (.getfield 69, 3) := by decide +kernel
theorem dX4_explainsNight_14 : decode cX4_explainsNight 14 = .ok (.iload_n 2, 1) := by decide +kernel
theorem dX4_explainsNight_15 : decode cX4_explainsNight 15 = .ok (.iaload, 1) := by decide +kernel
theorem dX4_explainsNight_16 : decode cX4_explainsNight 16 = .ok (.iload_n 1, 1) := by decide +kernel
theorem dX4_explainsNight_17 : decode cX4_explainsNight 17 = .ok (.if_icmp .ne 28, 3) := by decide +kernel
theorem dX4_explainsNight_20 : decode cX4_explainsNight 20 = .ok (.aload_n 0, 1) := by decide +kernel
theorem dX4_explainsNight_21 : decode cX4_explainsNight 21 = .ok (.getfield 35, 3) := by decide +kernel
theorem dX4_explainsNight_24 : decode cX4_explainsNight 24 = .ok (.getfield 113, 3) := by decide +kernel
theorem dX4_explainsNight_27 : decode cX4_explainsNight 27 = .ok (.aload_n 0, 1) := by decide +kernel
theorem dX4_explainsNight_28 : decode cX4_explainsNight 28 = .ok (.getfield 63, 3) := by decide +kernel
theorem dX4_explainsNight_31 : decode cX4_explainsNight 31 = .ok (.iload_n 2, 1) := by decide +kernel
theorem dX4_explainsNight_32 : decode cX4_explainsNight 32 = .ok (.iaload, 1) := by decide +kernel
theorem dX4_explainsNight_33 : decode cX4_explainsNight 33 = .ok (.iaload, 1) := by decide +kernel
theorem dX4_explainsNight_34 : decode cX4_explainsNight 34 = .ok (.aload_n 0, 1) := by decide +kernel
theorem dX4_explainsNight_35 : decode cX4_explainsNight 35 = .ok (.getfield 66, 3) := by decide +kernel
theorem dX4_explainsNight_38 : decode cX4_explainsNight 38 = .ok (.iload_n 2, 1) := by decide +kernel
theorem dX4_explainsNight_39 : decode cX4_explainsNight 39 = .ok (.iaload, 1) := by decide +kernel
theorem dX4_explainsNight_40 : decode cX4_explainsNight 40 = .ok (.if_icmp .eq 5, 3) := by decide +kernel
theorem dX4_explainsNight_43 : decode cX4_explainsNight 43 = .ok (.iconst 0, 1) := by decide +kernel
theorem dX4_explainsNight_44 : decode cX4_explainsNight 44 = .ok (.ireturn, 1) := by decide +kernel
theorem dX4_explainsNight_45 : decode cX4_explainsNight 45 = .ok (.iinc 2 1, 3) := by decide +kernel
theorem dX4_explainsNight_48 : decode cX4_explainsNight 48 = .ok (.goto (-46), 3) := by decide +kernel
theorem dX4_explainsNight_51 : decode cX4_explainsNight 51 = .ok (.iconst 1, 1) := by decide +kernel
theorem dX4_explainsNight_52 : decode cX4_explainsNight 52 = .ok (.ireturn, 1) := by decide +kernel
