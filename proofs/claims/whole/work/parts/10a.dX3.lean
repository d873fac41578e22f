theorem dX3_init_0 : decode cX3_init 0 = .ok (.aload_n 0, 1) := by decide +kernel
theorem dX3_init_1 : decode cX3_init 1 = .ok (.invokespecial 3, 3) := by decide +kernel
theorem dX3_init_4 : decode cX3_init 4 = .ok (.aload_n 0, 1) := by decide +kernel
theorem dX3_init_5 : decode cX3_init 5 = .ok (.bipush 12, 2) := by decide +kernel
theorem dX3_init_7 : decode cX3_init 7 = .ok (.newarray .int, 2) := by decide +kernel
theorem dX3_init_9 : decode cX3_init 9 = .ok (.putfield 9, 3) := by decide +kernel
theorem dX3_init_12 : decode cX3_init 12 = .ok (.aload_n 0, 1) := by decide +kernel
theorem dX3_init_13 : decode cX3_init 13 = .ok (.bipush 8, 2) := by decide +kernel
theorem dX3_init_15 : decode cX3_init 15 = .ok (.newarray .int, 2) := by decide +kernel
theorem dX3_init_17 : decode cX3_init 17 = .ok (.putfield 15, 3) := by decide +kernel
theorem dX3_init_20 : decode cX3_init 20 = .ok (.aload_n 0, 1) := by decide +kernel
theorem dX3_init_21 : decode cX3_init 21 = .ok (.bipush 8, 2) := by decide +kernel
theorem dX3_init_23 : decode cX3_init 23 = .ok (.newarray .int, 2) := by decide +kernel
theorem dX3_init_25 : decode cX3_init 25 = .ok (.putfield 18, 3) := by decide +kernel
theorem dX3_init_28 : decode cX3_init 28 = .ok (.aload_n 0, 1) := by decide +kernel
theorem dX3_init_29 : decode cX3_init 29 = .ok (.bipush 6, 2) := by decide +kernel
theorem dX3_init_31 : decode cX3_init 31 = .ok (.newarray .int, 2) := by decide +kernel
theorem dX3_init_33 : decode cX3_init 33 = .ok (.putfield 21, 3) := by decide +kernel
theorem dX3_init_36 : decode cX3_init 36 = .ok (.aload_n 0, 1) := by decide +kernel
theorem dX3_init_37 : decode cX3_init 37 = .ok (.bipush 6, 2) := by decide +kernel
theorem dX3_init_39 : decode cX3_init 39 = .ok (.newarray .int, 2) := by decide +kernel
theorem dX3_init_41 : decode cX3_init 41 = .ok (.putfield 24, 3) := by decide +kernel
theorem dX3_init_44 : decode cX3_init 44 = .ok (.aload_n 0, 1) := by decide +kernel
theorem dX3_init_45 : decode cX3_init 45 = .ok (.bipush 6, 2) := by decide +kernel
theorem dX3_init_47 : decode cX3_init 47 = .ok (.newarray .int, 2) := by decide +kernel
theorem dX3_init_49 : decode cX3_init 49 = .ok (.putfield 27, 3) := by decide +kernel
theorem dX3_init_52 : decode cX3_init 52 = .ok (.aload_n 0, 1) := by decide +kernel
theorem dX3_init_53 : decode cX3_init 53 = .ok (.bipush 6, 2) := by decide +kernel
theorem dX3_init_55 : decode cX3_init 55 = .ok (.newarray .int, 2) := by decide +kernel
theorem dX3_init_57 : decode cX3_init 57 = .ok (.putfield 30, 3) := by decide +kernel
theorem dX3_init_60 : decode cX3_init 60 = .ok (.aload_n 0, 1) := by decide +kernel
theorem dX3_init_61 : decode cX3_init 61 = .ok (.bipush 6, 2) := by decide +kernel
theorem dX3_init_63 : decode cX3_init 63 = .ok (.invokevirtual 33, 3) := by decide +kernel
theorem dX3_init_66 : decode cX3_init 66 = .ok (.return_, 1) := by decide +kernel
theorem dX3_layOut_0 : decode cX3_layOut 0 = .ok (.aload_n 0, 1) := by decide +kernel
theorem dX3_layOut_1 : decode cX3_layOut 1 = .ok (.iload_n 1, 1) := by decide +kernel
theorem dX3_layOut_2 : decode cX3_layOut 2 = .ok (.putfield 37, 3) := by decide +kernel
theorem dX3_layOut_5 : decode cX3_layOut 5 = .ok (.aload_n 0, 1) := by decide +kernel
theorem dX3_layOut_6 : decode cX3_layOut 6 = .ok (.iconst 0, 1) := by decide +kernel
theorem dX3_layOut_7 : decode cX3_layOut 7 = .ok (.putfield 41, 3) := by decide +kernel
theorem dX3_layOut_10 : decode cX3_layOut 10 = .ok (.aload_n 0, 1) := by decide +kernel
theorem dX3_layOut_11 : decode cX3_layOut 11 = .ok (.iconst 0, 1) := by decide +kernel
theorem dX3_layOut_12 : decode cX3_layOut 12 = .ok (.putfield 44, 3) := by decide +kernel
theorem dX3_layOut_15 : decode cX3_layOut 15 = .ok (.aload_n 0, 1) := by decide +kernel
theorem dX3_layOut_16 : decode cX3_layOut 16 = .ok (.iconst 1, 1) := by decide +kernel
theorem dX3_layOut_17 : decode cX3_layOut 17 = .ok (.putfield 47, 3) := by decide +kernel
theorem dX3_layOut_20 : decode cX3_layOut 20 = .ok (.aload_n 0, 1) := by decide +kernel
theorem dX3_layOut_21 : decode cX3_layOut 21 = .ok (.getfield 9, 3) := by decide +kernel
theorem dX3_layOut_24 : decode cX3_layOut 24 = .ok (.iconst 1, 1) := by decide +kernel
theorem dX3_layOut_25 : decode cX3_layOut 25 = .ok (.invokestatic 50, 3) := by decide +kernel
theorem dX3_layOut_28 : decode cX3_layOut 28 = .ok (.aload_n 0, 1) := by decide +kernel
theorem dX3_layOut_29 : decode cX3_layOut 29 = .ok (.invokevirtual 56, 3) := by decide +kernel
theorem dX3_layOut_32 : decode cX3_layOut 32 = .ok (.return_, 1) := by decide +kernel
theorem dX3_removeHouses_0 : decode cX3_removeHouses 0 = .ok (.aload_n 0, 1) := by decide +kernel
theorem dX3_removeHouses_1 : decode cX3_removeHouses 1 = .ok (.iconst 0, 1) := by decide +kernel
theorem dX3_removeHouses_2 : decode cX3_removeHouses 2 = .ok (.putfield 59, 3) := by decide +kernel
theorem dX3_removeHouses_5 : decode cX3_removeHouses 5 = .ok (.aload_n 0, 1) := by decide +kernel
theorem dX3_removeHouses_6 : decode cX3_removeHouses 6 = .ok (.iconst 0, 1) := by decide +kernel
theorem dX3_removeHouses_7 : decode cX3_removeHouses 7 = .ok (.putfield 62, 3) := by decide +kernel
theorem dX3_removeHouses_10 : decode cX3_removeHouses 10 = .ok (.aload_n 0, 1) := by decide +kernel
theorem dX3_removeHouses_11 : decode cX3_removeHouses 11 = .ok (.iconst 0, 1) := by decide +kernel
theorem dX3_removeHouses_12 : decode cX3_removeHouses 12 = .ok (.putfield 65, 3) := by decide +kernel
theorem dX3_removeHouses_15 : decode cX3_removeHouses 15 = .ok (.return_, 1) := by decide +kernel
theorem dX3_copyFrom_0 : decode cX3_copyFrom 0 = .ok (.aload_n 0, 1) := by decide +kernel
theorem dX3_copyFrom_1 : decode cX3_copyFrom 1 = .ok (.aload_n 1, 1) := by decide +kernel
theorem dX3_copyFrom_2 : decode cX3_copyFrom 2 = .ok (.getfield 37, 3) := by decide +kernel
theorem dX3_copyFrom_5 : decode cX3_copyFrom 5 = .ok (.putfield 37, 3) := by decide +kernel
theorem dX3_copyFrom_8 : decode cX3_copyFrom 8 = .ok (.aload_n 0, 1) := by decide +kernel
theorem dX3_copyFrom_9 : decode cX3_copyFrom 9 = .ok (.aload_n 1, 1) := by decide +kernel
theorem dX3_copyFrom_10 : decode cX3_copyFrom 10 = .ok (.getfield 59, 3) := by decide +kernel
theorem dX3_copyFrom_13 : decode cX3_copyFrom 13 = .ok (.putfield 59, 3) := by decide +kernel
theorem dX3_copyFrom_16 : decode cX3_copyFrom 16 = .ok (.aload_n 0, 1) := by decide +kernel
theorem dX3_copyFrom_17 : decode cX3_copyFrom 17 = .ok (.aload_n 1, 1) := by decide +kernel
theorem dX3_copyFrom_18 : decode cX3_copyFrom 18 = .ok (.getfield 41, 3) := by decide +kernel
theorem dX3_copyFrom_21 : decode cX3_copyFrom 21 = .ok (.putfield 41, 3) := by decide +kernel
theorem dX3_copyFrom_24 : decode cX3_copyFrom 24 = .ok (.aload_n 0, 1) := by decide +kernel
theorem dX3_copyFrom_25 : decode cX3_copyFrom 25 = .ok (.aload_n 1, 1) := by decide +kernel
theorem dX3_copyFrom_26 : decode cX3_copyFrom 26 = .ok (.getfield 62, 3) := by decide +kernel
theorem dX3_copyFrom_29 : decode cX3_copyFrom 29 = .ok (.putfield 62, 3) := by decide +kernel
theorem dX3_copyFrom_32 : decode cX3_copyFrom 32 = .ok (.aload_n 0, 1) := by decide +kernel
theorem dX3_copyFrom_33 : decode cX3_copyFrom 33 = .ok (.aload_n 1, 1) := by decide +kernel
theorem dX3_copyFrom_34 : decode cX3_copyFrom 34 = .ok (.getfield 44, 3) := by decide +kernel
theorem dX3_copyFrom_37 : decode cX3_copyFrom 37 = .ok (.putfield 44, 3) := by decide +kernel
theorem dX3_copyFrom_40 : decode cX3_copyFrom 40 = .ok (.aload_n 0, 1) := by decide +kernel
theorem dX3_copyFrom_41 : decode cX3_copyFrom 41 = .ok (.aload_n 1, 1) := by decide +kernel
theorem dX3_copyFrom_42 : decode cX3_copyFrom 42 = .ok (.getfield 47, 3) := by decide +kernel
theorem dX3_copyFrom_45 : decode cX3_copyFrom 45 = .ok (.putfield 47, 3) := by decide +kernel
theorem dX3_copyFrom_48 : decode cX3_copyFrom 48 = .ok (.aload_n 0, 1) := by decide +kernel
theorem dX3_copyFrom_49 : decode cX3_copyFrom 49 = .ok (.aload_n 1, 1) := by decide +kernel
theorem dX3_copyFrom_50 : decode cX3_copyFrom 50 = .ok (.getfield 65, 3) := by decide +kernel
theorem dX3_copyFrom_53 : decode cX3_copyFrom 53 = .ok (.putfield 65, 3) := by decide +kernel
theorem dX3_copyFrom_56 : decode cX3_copyFrom 56 = .ok (.aload_n 1, 1) := by decide +kernel
theorem dX3_copyFrom_57 : decode cX3_copyFrom 57 = .ok (.getfield 9, 3) := by decide +kernel
theorem dX3_copyFrom_60 : decode cX3_copyFrom 60 = .ok (.iconst 0, 1) := by decide +kernel
theorem dX3_copyFrom_61 : decode cX3_copyFrom 61 = .ok (.aload_n 0, 1) := by decide +kernel
theorem dX3_copyFrom_62 : decode cX3_copyFrom 62 = .ok (.getfield 9, 3) := by decide +kernel
theorem dX3_copyFrom_65 : decode cX3_copyFrom 65 = .ok (.iconst 0, 1) := by decide +kernel
theorem dX3_copyFrom_66 : decode cX3_copyFrom 66 = .ok (.bipush 12, 2) := by decide +kernel
theorem dX3_copyFrom_68 : decode cX3_copyFrom 68 = .ok (.invokestatic 68, 3) := by decide +kernel
theorem dX3_copyFrom_71 : decode cX3_copyFrom 71 = .ok (.aload_n 1, 1) := by decide +kernel
theorem dX3_copyFrom_72 : decode cX3_copyFrom 72 = .ok (.getfield 15, 3) := by decide +kernel
theorem dX3_copyFrom_75 : decode cX3_copyFrom 75 = .ok (.iconst 0, 1) := by decide +kernel
theorem dX3_copyFrom_76 : decode cX3_copyFrom 76 = .ok (.aload_n 0, 1) := by decide +kernel
theorem dX3_copyFrom_77 : decode cX3_copyFrom 77 = .ok (.getfield 15, 3) := by decide +kernel
theorem dX3_copyFrom_80 : decode cX3_copyFrom 80 = .ok (.iconst 0, 1) := by decide +kernel
theorem dX3_copyFrom_81 : decode cX3_copyFrom 81 = .ok (.bipush 8, 2) := by decide +kernel
theorem dX3_copyFrom_83 : decode cX3_copyFrom 83 = .ok (.invokestatic 68, 3) := by decide +kernel
theorem dX3_copyFrom_86 : decode cX3_copyFrom 86 = .ok (.aload_n 1, 1) := by decide +kernel
theorem dX3_copyFrom_87 : decode cX3_copyFrom 87 = .ok (.getfield 18, 3) := by decide +kernel
theorem dX3_copyFrom_90 : decode cX3_copyFrom 90 = .ok (.iconst 0, 1) := by decide +kernel
theorem dX3_copyFrom_91 : decode cX3_copyFrom 91 = .ok (.aload_n 0, 1) := by decide +kernel
theorem dX3_copyFrom_92 : decode cX3_copyFrom 92 = .ok (.getfield 18, 3) := by decide +kernel
theorem dX3_copyFrom_95 : decode cX3_copyFrom 95 = .ok (.iconst 0, 1) := by decide +kernel
theorem dX3_copyFrom_96 : decode cX3_copyFrom 96 = .ok (.bipush 8, 2) := by decide +kernel
theorem dX3_copyFrom_98 : decode cX3_copyFrom 98 = .ok (.invokestatic 68, 3) := by decide +kernel
theorem dX3_copyFrom_101 : decode cX3_copyFrom 101 = .ok (.aload_n 1, 1) := by decide +kernel
theorem dX3_copyFrom_102 : decode cX3_copyFrom 102 = .ok (.getfield 21, 3) := by decide +kernel
theorem dX3_copyFrom_105 : decode cX3_copyFrom 105 = .ok (.iconst 0, 1) := by decide +kernel
theorem dX3_copyFrom_106 : decode cX3_copyFrom 106 = .ok (.aload_n 0, 1) := by decide +kernel
theorem dX3_copyFrom_107 : decode cX3_copyFrom 107 = .ok (.getfield 21, 3) := by decide +kernel
theorem dX3_copyFrom_110 : decode cX3_copyFrom 110 = .ok (.iconst 0, 1) := by decide +kernel
theorem dX3_copyFrom_111 : decode cX3_copyFrom 111 = .ok (.bipush 6, 2) := by decide +kernel
theorem dX3_copyFrom_113 : decode cX3_copyFrom 113 = .ok (.invokestatic 68, 3) := by decide +kernel
theorem dX3_copyFrom_116 : decode cX3_copyFrom 116 = .ok (.aload_n 1, 1) := by decide +kernel
theorem dX3_copyFrom_117 : decode cX3_copyFrom 117 = .ok (.getfield 24, 3) := by decide +kernel
theorem dX3_copyFrom_120 : decode cX3_copyFrom 120 = .ok (.iconst 0, 1) := by decide +kernel
theorem dX3_copyFrom_121 : decode cX3_copyFrom 121 = .ok (.aload_n 0, 1) := by decide +kernel
theorem dX3_copyFrom_122 : decode cX3_copyFrom 122 = .ok (.getfield 24, 3) := by decide +kernel
theorem dX3_copyFrom_125 : decode cX3_copyFrom 125 = .ok (.iconst 0, 1) := by decide +kernel
theorem dX3_copyFrom_126 : decode cX3_copyFrom 126 = .ok (.bipush 6, 2) := by decide +kernel
theorem dX3_copyFrom_128 : decode cX3_copyFrom 128 = .ok (.invokestatic 68, 3) := by decide +kernel
theorem dX3_copyFrom_131 : decode cX3_copyFrom 131 = .ok (.aload_n 1, 1) := by decide +kernel
theorem dX3_copyFrom_132 : decode cX3_copyFrom 132 = .ok (.getfield 27, 3) := by decide +kernel
theorem dX3_copyFrom_135 : decode cX3_copyFrom 135 = .ok (.iconst 0, 1) := by decide +kernel
theorem dX3_copyFrom_136 : decode cX3_copyFrom 136 = .ok (.aload_n 0, 1) := by decide +kernel
theorem dX3_copyFrom_137 : decode cX3_copyFrom 137 = .ok (.getfield 27, 3) := by decide +kernel
theorem dX3_copyFrom_140 : decode cX3_copyFrom 140 = .ok (.iconst 0, 1) := by decide +kernel
theorem dX3_copyFrom_141 : decode cX3_copyFrom 141 = .ok (.bipush 6, 2) := by decide +kernel
theorem dX3_copyFrom_143 : decode cX3_copyFrom 143 = .ok (.invokestatic 68, 3) := by decide +kernel
theorem dX3_copyFrom_146 : decode cX3_copyFrom 146 = .ok (.aload_n 1, 1) := by decide +kernel
theorem dX3_copyFrom_147 : decode cX3_copyFrom 147 = .ok (.getfield 30, 3) := by decide +kernel
theorem dX3_copyFrom_150 : decode cX3_copyFrom 150 = .ok (.iconst 0, 1) := by decide +kernel
theorem dX3_copyFrom_151 : decode cX3_copyFrom 151 = .ok (.aload_n 0, 1) := by decide +kernel
theorem dX3_copyFrom_152 : decode cX3_copyFrom 152 = .ok (.getfield 30, 3) := by decide +kernel
theorem dX3_copyFrom_155 : decode cX3_copyFrom 155 = .ok (.iconst 0, 1) := by decide +kernel
theorem dX3_copyFrom_156 : decode cX3_copyFrom 156 = .ok (.bipush 6, 2) := by decide +kernel
theorem dX3_copyFrom_158 : decode cX3_copyFrom 158 = .ok (.invokestatic 68, 3) := by decide +kernel
theorem dX3_copyFrom_161 : decode cX3_copyFrom 161 = .ok (.return_, 1) := by decide +kernel
theorem dX3_next_0 : decode cX3_next 0 = .ok (.iload_n 1, 1) := by decide +kernel
theorem dX3_next_1 : decode cX3_next 1 = .ok (.iconst 1, 1) := by decide +kernel
theorem dX3_next_2 : decode cX3_next 2 = .ok (.iadd, 1) := by decide +kernel
theorem dX3_next_3 : decode cX3_next 3 = .ok (.aload_n 0, 1) := by decide +kernel
theorem dX3_next_4 : decode cX3_next 4 = .ok (.getfield 37, 3) := by decide +kernel
theorem dX3_next_7 : decode cX3_next 7 = .ok (.if_icmp .ge 9, 3) := by decide +kernel
theorem dX3_next_10 : decode cX3_next 10 = .ok (.iload_n 1, 1) := by decide +kernel
theorem dX3_next_11 : decode cX3_next 11 = .ok (.iconst 1, 1) := by decide +kernel
theorem dX3_next_12 : decode cX3_next 12 = .ok (.iadd, 1) := by decide +kernel
theorem dX3_next_13 : decode cX3_next 13 = .ok (.goto 4, 3) := by decide +kernel
theorem dX3_next_16 : decode cX3_next 16 = .ok (.iconst 0, 1) := by decide +kernel
theorem dX3_next_17 : decode cX3_next 17 = .ok (.ireturn, 1) := by decide +kernel
theorem dX3_previous_0 : decode cX3_previous 0 = .ok (.iload_n 1, 1) := by decide +kernel
theorem dX3_previous_1 : decode cX3_previous 1 = .ok (.ifCond .le 9, 3) := by decide +kernel
theorem dX3_previous_4 : decode cX3_previous 4 = .ok (.iload_n 1, 1) := by decide +kernel
theorem dX3_previous_5 : decode cX3_previous 5 = .ok (.iconst 1, 1) := by decide +kernel
theorem dX3_previous_6 : decode cX3_previous 6 = .ok (.isub, 1) := by decide +kernel
theorem dX3_previous_7 : decode cX3_previous 7 = .ok (.goto 9, 3) := by decide +kernel
theorem dX3_previous_10 : decode cX3_previous 10 = .ok (.aload_n 0, 1) := by decide +kernel
theorem dX3_previous_11 : decode cX3_previous 11 = .ok (.getfield 37, 3) := by decide +kernel
theorem dX3_previous_14 : decode cX3_previous 14 = .ok (.iconst 1, 1) := by decide +kernel
theorem dX3_previous_15 : decode cX3_previous 15 = .ok (.isub, 1) := by decide +kernel
theorem dX3_previous_16 : decode cX3_previous 16 = .ok (.ireturn, 1) := by decide +kernel
theorem dX3_allPlots_0 : decode cX3_allPlots 0 = .ok (.iconst 1, 1) := by decide +kernel
theorem dX3_allPlots_1 : decode cX3_allPlots 1 = .ok (.aload_n 0, 1) := by decide +kernel
theorem dX3_allPlots_2 : decode cX3_allPlots 2 = .ok (.getfield 37, 3) := by decide +kernel
theorem dX3_allPlots_5 : decode cX3_allPlots 5 = .ok (.ishl, 1) := by decide +kernel
theorem dX3_allPlots_6 : decode cX3_allPlots 6 = .ok (.iconst 1, 1) := by decide +kernel
theorem dX3_allPlots_7 : decode cX3_allPlots 7 = .ok (.isub, 1) := by decide +kernel
theorem dX3_allPlots_8 : decode cX3_allPlots 8 = .ok (.ireturn, 1) := by decide +kernel
theorem dX3_ground_0 : decode cX3_ground 0 = .ok (.iload_n 1, 1) := by decide +kernel
theorem dX3_ground_1 : decode cX3_ground 1 = .ok (.iconst 3, 1) := by decide +kernel
theorem dX3_ground_2 : decode cX3_ground 2 = .ok (.if_icmp .ne 17, 3) := by decide +kernel
theorem dX3_ground_5 : decode cX3_ground 5 = .ok (.iconst 1, 1) := by decide +kernel
theorem dX3_ground_6 : decode cX3_ground 6 = .ok (.iload_n 2, 1) := by decide +kernel
theorem dX3_ground_7 : decode cX3_ground 7 = .ok (.ishl, 1) := by decide +kernel
theorem dX3_ground_8 : decode cX3_ground 8 = .ok (.iconst 1, 1) := by decide +kernel
theorem dX3_ground_9 : decode cX3_ground 9 = .ok (.aload_n 0, 1) := by decide +kernel
theorem dX3_ground_10 : decode cX3_ground 10 = .ok (.iload_n 2, 1) := by decide +kernel
theorem dX3_ground_11 : decode cX3_ground 11 = .ok (.invokevirtual 74, 3) := by decide +kernel
theorem dX3_ground_14 : decode cX3_ground 14 = .ok (.ishl, 1) := by decide +kernel
theorem dX3_ground_15 : decode cX3_ground 15 = .ok (.ior, 1) := by decide +kernel
theorem dX3_ground_16 : decode cX3_ground 16 = .ok (.goto 6, 3) := by decide +kernel
theorem dX3_ground_19 : decode cX3_ground 19 = .ok (.iconst 1, 1) := by decide +kernel
theorem dX3_ground_20 : decode cX3_ground 20 = .ok (.iload_n 2, 1) := by decide +kernel
theorem dX3_ground_21 : decode cX3_ground 21 = .ok (.ishl, 1) := by decide +kernel
theorem dX3_ground_22 : decode cX3_ground 22 = .ok (.ireturn, 1) := by decide +kernel
theorem dX3_around_0 : decode cX3_around 0 = .ok (.iload_n 1, 1) := by decide +kernel
theorem dX3_around_1 : decode cX3_around 1 = .ok (.iconst 1, 1) := by decide +kernel
theorem dX3_around_2 : decode cX3_around 2 = .ok (.ishl, 1) := by decide +kernel
theorem dX3_around_3 : decode cX3_around 3 = .ok (.iload_n 1, 1) := by decide +kernel
theorem dX3_around_4 : decode cX3_around 4 = .ok (.aload_n 0, 1) := by decide +kernel
theorem dX3_around_5 : decode cX3_around 5 = .ok (.getfield 37, 3) := by decide +kernel
theorem dX3_around_8 : decode cX3_around 8 = .ok (.iconst 1, 1) := by decide +kernel
theorem dX3_around_9 : decode cX3_around 9 = .ok (.isub, 1) := by decide +kernel
theorem dX3_around_10 : decode cX3_around 10 = .ok (.ishr, 1) := by decide +kernel
theorem dX3_around_11 : decode cX3_around 11 = .ok (.ior, 1) := by decide +kernel
theorem dX3_around_12 : decode cX3_around 12 = .ok (.istore_n 2, 1) := by decide +kernel
theorem dX3_around_13 : decode cX3_around 13 = .ok (.iload_n 1, 1) := by decide +kernel
theorem dX3_around_14 : decode cX3_around 14 = .ok (.iconst 1, 1) := by decide +kernel
theorem dX3_around_15 : decode cX3_around 15 = .ok (.ishr, 1) := by decide +kernel
theorem dX3_around_16 : decode cX3_around 16 = .ok (.iload_n 1, 1) := by decide +kernel
theorem dX3_around_17 : decode cX3_around 17 = .ok (.aload_n 0, 1) := by decide +kernel
theorem dX3_around_18 : decode cX3_around 18 = .ok (.getfield 37, 3) := by decide +kernel
theorem dX3_around_21 : decode cX3_around 21 = .ok (.iconst 1, 1) := by decide +kernel
theorem dX3_around_22 : decode cX3_around 22 = .ok (.isub, 1) := by decide +kernel
theorem dX3_around_23 : decode cX3_around 23 = .ok (.ishl, 1) := by decide +kernel
theorem dX3_around_24 : decode cX3_around 24 = .ok (.ior, 1) := by decide +kernel
theorem dX3_around_25 : decode cX3_around 25 = .ok (.istore_n 3, 1) := by decide +kernel
theorem dX3_around_26 : decode cX3_around 26 = .ok (.iload_n 2, 1) := by decide +kernel
theorem dX3_around_27 : decode cX3_around 27 = .ok (.iload_n 3, 1) := by decide +kernel
theorem dX3_around_28 : decode cX3_around 28 = .ok (.ior, 1) := by decide +kernel
theorem dX3_around_29 : decode cX3_around 29 = .ok (.aload_n 0, 1) := by decide +kernel
theorem dX3_around_30 : decode cX3_around 30 = .ok (.invokevirtual 78, 3) := by decide +kernel
theorem dX3_around_33 : decode cX3_around 33 = .ok (.iand, 1) := by decide +kernel
theorem dX3_around_34 : decode cX3_around 34 = .ok (.ireturn, 1) := by decide +kernel
theorem dX3_stuckOnes_0 : decode cX3_stuckOnes 0 = .ok (.iconst 0, 1) := by decide +kernel
theorem dX3_stuckOnes_1 : decode cX3_stuckOnes 1 = .ok (.istore_n 1, 1) := by decide +kernel
theorem dX3_stuckOnes_2 : decode cX3_stuckOnes 2 = .ok (.iconst 0, 1) := by decide +kernel
theorem dX3_stuckOnes_3 : decode cX3_stuckOnes 3 = .ok (.istore_n 2, 1) := by decide +kernel
theorem dX3_stuckOnes_4 : decode cX3_stuckOnes 4 = .ok (.iload_n 2, 1) := by decide +kernel
theorem dX3_stuckOnes_5 : decode cX3_stuckOnes 5 = .ok (.aload_n 0, 1) := by decide +kernel
theorem dX3_stuckOnes_6 : decode cX3_stuckOnes 6 = .ok (.getfield 59, 3) := by decide +kernel
theorem dX3_stuckOnes_9 : decode cX3_stuckOnes 9 = .ok (.if_icmp .ge 25, 3) := by decide +kernel
theorem dX3_stuckOnes_12 : decode cX3_stuckOnes 12 = .ok (.aload_n 0, 1) := by decide +kernel
theorem dX3_stuckOnes_13 : decode cX3_stuckOnes 13 = .ok (.getfield 15, 3) := by decide +kernel
theorem dX3_stuckOnes_16 : decode cX3_stuckOnes 16 = .ok (.iload_n 2, 1) := by decide +kernel
theorem dX3_stuckOnes_17 : decode cX3_stuckOnes 17 = .ok (.iaload, 1) := by decide +kernel
theorem dX3_stuckOnes_18 : decode cX3_stuckOnes 18 = .ok (.iconst 2, 1) := by decide +kernel
theorem dX3_stuckOnes_19 : decode cX3_stuckOnes 19 = .ok (.if_icmp .ne 9, 3) := by decide +kernel
theorem dX3_stuckOnes_22 : decode cX3_stuckOnes 22 = .ok (.iload_n 1, 1) := by decide +kernel
theorem dX3_stuckOnes_23 : decode cX3_stuckOnes 23 = .ok (.iconst 1, 1) := by decide +kernel
theorem dX3_stuckOnes_24 : decode cX3_stuckOnes 24 = .ok (.iload_n 2, 1) := by decide +kernel
theorem dX3_stuckOnes_25 : decode cX3_stuckOnes 25 = .ok (.ishl, 1) := by decide +kernel
theorem dX3_stuckOnes_26 : decode cX3_stuckOnes 26 = .ok (.ior, 1) := by decide +kernel
theorem dX3_stuckOnes_27 : decode cX3_stuckOnes 27 = .ok (.istore_n 1, 1) := by decide +kernel
theorem dX3_stuckOnes_28 : decode cX3_stuckOnes 28 = .ok (.iinc 2 1, 3) := by decide +kernel
theorem dX3_stuckOnes_31 : decode cX3_stuckOnes 31 = .ok (.goto (-27), 3) := by decide +kernel
theorem dX3_stuckOnes_34 : decode cX3_stuckOnes 34 = .ok (.iload_n 1, 1) := by decide +kernel
theorem dX3_stuckOnes_35 : decode cX3_stuckOnes 35 = .ok (.ireturn, 1) := by decide +kernel
theorem dX3_settle_0 : decode cX3_settle 0 = .ok (.aload_n 0, 1) := by decide +kernel
theorem dX3_settle_1 : decode cX3_settle 1 = .ok (.iload_n 1, 1) := by decide +kernel
theorem dX3_settle_2 : decode cX3_settle 2 = .ok (.iload_n 2, 1) := by decide +kernel
theorem dX3_settle_3 : decode cX3_settle 3 = .ok (.invokevirtual 82, 3) := by decide +kernel
theorem dX3_settle_6 : decode cX3_settle 6 = .ok (.istore_n 3, 1) := by decide +kernel
theorem dX3_settle_7 : decode cX3_settle 7 = .ok (.aload_n 0, 1) := by decide +kernel
theorem dX3_settle_8 : decode cX3_settle 8 = .ok (.getfield 59, 3) := by decide +kernel
theorem dX3_settle_11 : decode cX3_settle 11 = .ok (.bipush 8, 2) := by decide +kernel
theorem dX3_settle_13 : decode cX3_settle 13 = .ok (.if_icmp .ge 25, 3) := by decide +kernel
theorem dX3_settle_16 : decode cX3_settle 16 = .ok (.aload_n 0, 1) := by decide +kernel
theorem dX3_settle_17 : decode cX3_settle 17 = .ok (.getfield 65, 3) := by decide +kernel
theorem dX3_settle_20 : decode cX3_settle 20 = .ok (.iload_n 3, 1) := by decide +kernel
theorem dX3_settle_21 : decode cX3_settle 21 = .ok (.iand, 1) := by decide +kernel
theorem dX3_settle_22 : decode cX3_settle 22 = .ok (.ifCond .ne 16, 3) := by decide +kernel
theorem dX3_settle_25 : decode cX3_settle 25 = .ok (.aload_n 0, 1) := by decide +kernel
theorem dX3_settle_26 : decode cX3_settle 26 = .ok (.getfield 65, 3) := by decide +kernel
theorem dX3_settle_29 : decode cX3_settle 29 = .ok (.iload_n 3, 1) := by decide +kernel
theorem dX3_settle_30 : decode cX3_settle 30 = .ok (.ior, 1) := by decide +kernel
theorem dX3_settle_31 : decode cX3_settle 31 = .ok (.aload_n 0, 1) := by decide +kernel
theorem dX3_settle_32 : decode cX3_settle 32 = .ok (.invokevirtual 78, 3) := by decide +kernel
theorem dX3_settle_35 : decode cX3_settle 35 = .ok (.if_icmp .ne 5, 3) := by decide +kernel
theorem dX3_settle_38 : decode cX3_settle 38 = .ok (.iconst 0, 1) := by decide +kernel
theorem dX3_settle_39 : decode cX3_settle 39 = .ok (.ireturn, 1) := by decide +kernel
theorem dX3_settle_40 : decode cX3_settle 40 = .ok (.aload_n 0, 1) := by decide +kernel
theorem dX3_settle_41 : decode cX3_settle 41 = .ok (.getfield 15, 3) := by decide +kernel
theorem dX3_settle_44 : decode cX3_settle 44 = .ok (.aload_n 0, 1) := by decide +kernel
theorem dX3_settle_45 : decode cX3_settle 45 = .ok (.getfield 59, 3) := by decide +kernel
theorem dX3_settle_48 : decode cX3_settle 48 = .ok (.iload_n 1, 1) := by decide +kernel
theorem dX3_settle_49 : decode cX3_settle 49 = .ok (.iastore, 1) := by decide +kernel
theorem dX3_settle_50 : decode cX3_settle 50 = .ok (.aload_n 0, 1) := by decide +kernel
theorem dX3_settle_51 : decode cX3_settle 51 = .ok (.getfield 18, 3) := by decide +kernel
theorem dX3_settle_54 : decode cX3_settle 54 = .ok (.aload_n 0, 1) := by decide +kernel
theorem dX3_settle_55 : decode cX3_settle 55 = .ok (.getfield 59, 3) := by decide +kernel
theorem dX3_settle_58 : decode cX3_settle 58 = .ok (.iload_n 2, 1) := by decide +kernel
theorem dX3_settle_59 : decode cX3_settle 59 = .ok (.iastore, 1) := by decide +kernel
theorem dX3_settle_60 : decode cX3_settle 60 = .ok (.aload_n 0, 1) := by decide +kernel
theorem dX3_settle_61 : decode cX3_settle 61 = .ok (.dup, 1) := by decide +kernel
theorem dX3_settle_62 : decode cX3_settle 62 = .ok (.getfield 59, 3) := by decide +kernel
theorem dX3_settle_65 : decode cX3_settle 65 = .ok (.iconst 1, 1) := by decide +kernel
theorem dX3_settle_66 : decode cX3_settle 66 = .ok (.iadd, 1) := by decide +kernel
theorem dX3_settle_67 : decode cX3_settle 67 = .ok (.putfield 59, 3) := by decide +kernel
theorem dX3_settle_70 : decode cX3_settle 70 = .ok (.aload_n 0, 1) := by decide +kernel
theorem dX3_settle_71 : decode cX3_settle 71 = .ok (.dup, 1) := by decide +kernel
theorem dX3_settle_72 : decode cX3_settle 72 = .ok (.getfield 65, 3) := by decide +kernel
theorem dX3_settle_75 : decode cX3_settle 75 = .ok (.iload_n 3, 1) := by decide +kernel
theorem dX3_settle_76 : decode cX3_settle 76 = .ok (.ior, 1) := by decide +kernel
theorem dX3_settle_77 : decode cX3_settle 77 = .ok (.putfield 65, 3) := by decide +kernel
theorem dX3_settle_80 : decode cX3_settle 80 = .ok (.iconst 1, 1) := by decide +kernel
theorem dX3_settle_81 : decode cX3_settle 81 = .ok (.ireturn, 1) := by decide +kernel
theorem dX3_addPath_0 : decode cX3_addPath 0 = .ok (.aload_n 0, 1) := by decide +kernel
theorem dX3_addPath_1 : decode cX3_addPath 1 = .ok (.getfield 41, 3) := by decide +kernel
theorem dX3_addPath_4 : decode cX3_addPath 4 = .ok (.bipush 6, 2) := by decide +kernel
theorem dX3_addPath_6 : decode cX3_addPath 6 = .ok (.if_icmp .ge 8, 3) := by decide +kernel
theorem dX3_addPath_9 : decode cX3_addPath 9 = .ok (.iload_n 1, 1) := by decide +kernel
theorem dX3_addPath_10 : decode cX3_addPath 10 = .ok (.iload_n 2, 1) := by decide +kernel
theorem dX3_addPath_11 : decode cX3_addPath 11 = .ok (.if_icmp .ne 5, 3) := by decide +kernel
theorem dX3_addPath_14 : decode cX3_addPath 14 = .ok (.iconst 0, 1) := by decide +kernel
theorem dX3_addPath_15 : decode cX3_addPath 15 = .ok (.ireturn, 1) := by decide +kernel
theorem dX3_addPath_16 : decode cX3_addPath 16 = .ok (.aload_n 0, 1) := by decide +kernel
theorem dX3_addPath_17 : decode cX3_addPath 17 = .ok (.getfield 21, 3) := by decide +kernel
theorem dX3_addPath_20 : decode cX3_addPath 20 = .ok (.aload_n 0, 1) := by decide +kernel
theorem dX3_addPath_21 : decode cX3_addPath 21 = .ok (.getfield 41, 3) := by decide +kernel
theorem dX3_addPath_24 : decode cX3_addPath 24 = .ok (.iload_n 1, 1) := by decide +kernel
theorem dX3_addPath_25 : decode cX3_addPath 25 = .ok (.iastore, 1) := by decide +kernel
theorem dX3_addPath_26 : decode cX3_addPath 26 = .ok (.aload_n 0, 1) := by decide +kernel
theorem dX3_addPath_27 : decode cX3_addPath 27 = .ok (.getfield 24, 3) := by decide +kernel
theorem dX3_addPath_30 : decode cX3_addPath 30 = .ok (.aload_n 0, 1) := by decide +kernel
theorem dX3_addPath_31 : decode cX3_addPath 31 = .ok (.getfield 41, 3) := by decide +kernel
theorem dX3_addPath_34 : decode cX3_addPath 34 = .ok (.iload_n 2, 1) := by decide +kernel
theorem dX3_addPath_35 : decode cX3_addPath 35 = .ok (.iastore, 1) := by decide +kernel
theorem dX3_addPath_36 : decode cX3_addPath 36 = .ok (.aload_n 0, 1) := by decide +kernel
theorem dX3_addPath_37 : decode cX3_addPath 37 = .ok (.dup, 1) := by decide +kernel
theorem dX3_addPath_38 : decode cX3_addPath 38 = .ok (.getfield 41, 3) := by decide +kernel
theorem dX3_addPath_41 : decode cX3_addPath 41 = .ok (.iconst 1, 1) := by decide +kernel
theorem dX3_addPath_42 : decode cX3_addPath 42 = .ok (.iadd, 1) := by decide +kernel
theorem dX3_addPath_43 : decode cX3_addPath 43 = .ok (.putfield 41, 3) := by decide +kernel
theorem dX3_addPath_46 : decode cX3_addPath 46 = .ok (.iconst 1, 1) := by decide +kernel
theorem dX3_addPath_47 : decode cX3_addPath 47 = .ok (.ireturn, 1) := by decide +kernel
theorem dX3_addFeud_0 : decode cX3_addFeud 0 = .ok (.aload_n 0, 1) := by decide +kernel
theorem dX3_addFeud_1 : decode cX3_addFeud 1 = .ok (.getfield 62, 3) := by decide +kernel
theorem dX3_addFeud_4 : decode cX3_addFeud 4 = .ok (.bipush 6, 2) := by decide +kernel
theorem dX3_addFeud_6 : decode cX3_addFeud 6 = .ok (.if_icmp .ge 8, 3) := by decide +kernel
theorem dX3_addFeud_9 : decode cX3_addFeud 9 = .ok (.iload_n 1, 1) := by decide +kernel
theorem dX3_addFeud_10 : decode cX3_addFeud 10 = .ok (.iload_n 2, 1) := by decide +kernel
theorem dX3_addFeud_11 : decode cX3_addFeud 11 = .ok (.if_icmp .ne 5, 3) := by decide +kernel
theorem dX3_addFeud_14 : decode cX3_addFeud 14 = .ok (.iconst 0, 1) := by decide +kernel
theorem dX3_addFeud_15 : decode cX3_addFeud 15 = .ok (.ireturn, 1) := by decide +kernel
theorem dX3_addFeud_16 : decode cX3_addFeud 16 = .ok (.aload_n 0, 1) := by decide +kernel
theorem dX3_addFeud_17 : decode cX3_addFeud 17 = .ok (.getfield 27, 3) := by decide +kernel
theorem dX3_addFeud_20 : decode cX3_addFeud 20 = .ok (.aload_n 0, 1) := by decide +kernel
theorem dX3_addFeud_21 : decode cX3_addFeud 21 = .ok (.getfield 62, 3) := by decide +kernel
theorem dX3_addFeud_24 : decode cX3_addFeud 24 = .ok (.iload_n 1, 1) := by decide +kernel
theorem dX3_addFeud_25 : decode cX3_addFeud 25 = .ok (.iastore, 1) := by decide +kernel
theorem dX3_addFeud_26 : decode cX3_addFeud 26 = .ok (.aload_n 0, 1) := by decide +kernel
theorem dX3_addFeud_27 : decode cX3_addFeud 27 = .ok (.getfield 30, 3) := by decide +kernel
theorem dX3_addFeud_30 : decode cX3_addFeud 30 = .ok (.aload_n 0, 1) := by decide +kernel
theorem dX3_addFeud_31 : decode cX3_addFeud 31 = .ok (.getfield 62, 3) := by decide +kernel
theorem dX3_addFeud_34 : decode cX3_addFeud 34 = .ok (.iload_n 2, 1) := by decide +kernel
theorem dX3_addFeud_35 : decode cX3_addFeud 35 = .ok (.iastore, 1) := by decide +kernel
theorem dX3_addFeud_36 : decode cX3_addFeud 36 = .ok (.aload_n 0, 1) := by decide +kernel
theorem dX3_addFeud_37 : decode cX3_addFeud 37 = .ok (.dup, 1) := by decide +kernel
theorem dX3_addFeud_38 : decode cX3_addFeud 38 = .ok (.getfield 62, 3) := by decide +kernel
theorem dX3_addFeud_41 : decode cX3_addFeud 41 = .ok (.iconst 1, 1) := by decide +kernel
theorem dX3_addFeud_42 : decode cX3_addFeud 42 = .ok (.iadd, 1) := by decide +kernel
theorem dX3_addFeud_43 : decode cX3_addFeud 43 = .ok (.putfield 62, 3) := by decide +kernel
theorem dX3_addFeud_46 : decode cX3_addFeud 46 = .ok (.iconst 1, 1) := by decide +kernel
theorem dX3_addFeud_47 : decode cX3_addFeud 47 = .ok (.ireturn, 1) := by decide +kernel
theorem dX3_otherEnd_0 : decode cX3_otherEnd 0 = .ok (.aload_n 0, 1) := by decide +kernel
theorem dX3_otherEnd_1 : decode cX3_otherEnd 1 = .ok (.getfield 21, 3) := by decide +kernel
theorem dX3_otherEnd_4 : decode cX3_otherEnd 4 = .ok (.iload_n 1, 1) := by decide +kernel
theorem dX3_otherEnd_5 : decode cX3_otherEnd 5 = .ok (.iaload, 1) := by decide +kernel
theorem dX3_otherEnd_6 : decode cX3_otherEnd 6 = .ok (.iload_n 2, 1) := by decide +kernel
theorem dX3_otherEnd_7 : decode cX3_otherEnd 7 = .ok (.if_icmp .ne 10, 3) := by decide +kernel
theorem dX3_otherEnd_10 : decode cX3_otherEnd 10 = .ok (.aload_n 0, 1) := by decide +kernel
theorem dX3_otherEnd_11 : decode cX3_otherEnd 11 = .ok (.getfield 24, 3) := by decide +kernel
theorem dX3_otherEnd_14 : decode cX3_otherEnd 14 = .ok (.iload_n 1, 1) := by decide +kernel
theorem dX3_otherEnd_15 : decode cX3_otherEnd 15 = .ok (.iaload, 1) := by decide +kernel
theorem dX3_otherEnd_16 : decode cX3_otherEnd 16 = .ok (.ireturn, 1) := by decide +kernel
theorem dX3_otherEnd_17 : decode cX3_otherEnd 17 = .ok (.aload_n 0, 1) := by decide +kernel
theorem dX3_otherEnd_18 : decode cX3_otherEnd 18 = .ok (.getfield 24, 3) := by decide +kernel
theorem dX3_otherEnd_21 : decode cX3_otherEnd 21 = .ok (.iload_n 1, 1) := by decide +kernel
theorem dX3_otherEnd_22 : decode cX3_otherEnd 22 = .ok (.iaload, 1) := by decide +kernel
theorem dX3_otherEnd_23 : decode cX3_otherEnd 23 = .ok (.iload_n 2, 1) := by decide +kernel
theorem dX3_otherEnd_24 : decode cX3_otherEnd 24 = .ok (.if_icmp .ne 12, 3) := by decide +kernel
theorem dX3_otherEnd_27 : decode cX3_otherEnd 27 = .ok (.aload_n 0, 1) := by decide +kernel
theorem dX3_otherEnd_28 : decode cX3_otherEnd 28 = .ok (.getfield 21, 3) := by decide +kernel
theorem dX3_otherEnd_31 : decode cX3_otherEnd 31 = .ok (.iload_n 1, 1) := by decide +kernel
theorem dX3_otherEnd_32 : decode cX3_otherEnd 32 = .ok (.iaload, 1) := by decide +kernel
theorem dX3_otherEnd_33 : decode cX3_otherEnd 33 = .ok (.goto 4, 3) := by decide +kernel
theorem dX3_otherEnd_36 : decode cX3_otherEnd 36 = .ok (.iconst (-1), 1) := by decide +kernel
theorem dX3_otherEnd_37 : decode cX3_otherEnd 37 = .ok (.ireturn, 1) := by decide +kernel
