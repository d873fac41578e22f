theorem dX5_house_10 : decode cX5_house 10 = .ok (.ireturn, 1) := by decide +kernel
theorem dX5_house_11 : decode cX5_house 11 = .ok (.iload_n 2, 1) := by decide +kernel
theorem dX5_house_12 : decode cX5_house 12 = .ok (.tableswitch 79 0 2 #[28, 35, 42], 28) := by decide +kernel
theorem dX5_house_40 : decode cX5_house 40 = .ok (.aload_n 0, 1) := by decide +kernel
theorem dX5_house_41 : decode cX5_house 41 = .ok (.getfield 17, 3) := by decide +kernel
theorem dX5_house_44 : decode cX5_house 44 = .ok (.iload_n 1, 1) := by decide +kernel
theorem dX5_house_45 : decode cX5_house 45 = .ok (.iaload, 1) := by decide +kernel
theorem dX5_house_46 : decode cX5_house 46 = .ok (.ireturn, 1) := by decide +kernel
theorem dX5_house_47 : decode cX5_house 47 = .ok (.aload_n 0, 1) := by decide +kernel
theorem dX5_house_48 : decode cX5_house 48 = .ok (.getfield 38, 3) := by decide +kernel
theorem dX5_house_51 : decode cX5_house 51 = .ok (.iload_n 1, 1) := by decide +kernel
theorem dX5_house_52 : decode cX5_house 52 = .ok (.iaload, 1) := by decide +kernel
theorem dX5_house_53 : decode cX5_house 53 = .ok (.ireturn, 1) := by decide +kernel
theorem dX5_house_54 : decode cX5_house 54 = .ok (.aload_n 0, 1) := by decide +kernel
theorem dX5_house_55 : decode cX5_house 55 = .ok (.getfield 38, 3) := by decide +kernel
theorem dX5_house_58 : decode cX5_house 58 = .ok (.bipush 8, 2) := by decide +kernel
theorem dX5_house_60 : decode cX5_house 60 = .ok (.iload_n 1, 1) := by decide +kernel
theorem dX5_house_61 : decode cX5_house 61 = .ok (.iadd, 1) := by decide +kernel
theorem dX5_house_62 : decode cX5_house 62 = .ok (.iaload, 1) := by decide +kernel
theorem dX5_house_63 : decode cX5_house 63 = .ok (.iconst (-1), 1) := by decide +kernel
theorem dX5_house_64 : decode cX5_house 64 = .ok (.if_icmp .ne 7, 3) := by decide +kernel
theorem dX5_house_67 : decode cX5_house 67 = .ok (.iconst (-1), 1) := by decide +kernel
theorem dX5_house_68 : decode cX5_house 68 = .ok (.goto 22, 3) := by decide +kernel
theorem dX5_house_71 : decode cX5_house 71 = .ok (.aload_n 0, 1) := by decide +kernel
theorem dX5_house_72 : decode cX5_house 72 = .ok (.getfield 38, 3) := by decide +kernel
theorem dX5_house_75 : decode cX5_house 75 = .ok (.bipush 16, 2) := by decide +kernel
theorem dX5_house_77 : decode cX5_house 77 = .ok (.iaload, 1) := by decide +kernel
theorem dX5_house_78 : decode cX5_house 78 = .ok (.aload_n 0, 1) := by decide +kernel
theorem dX5_house_79 : decode cX5_house 79 = .ok (.getfield 38, 3) := by decide +kernel
theorem dX5_house_82 : decode cX5_house 82 = .ok (.bipush 8, 2) := by decide +kernel
theorem dX5_house_84 : decode cX5_house 84 = .ok (.iload_n 1, 1) := by decide +kernel
theorem dX5_house_85 : decode cX5_house 85 = .ok (.iadd, 1) := by decide +kernel
theorem dX5_house_86 : decode cX5_house 86 = .ok (.iaload, 1) := by decide +kernel
theorem dX5_house_87 : decode cX5_house 87 = .ok (.isub, 1) := by decide +kernel
theorem dX5_house_88 : decode cX5_house 88 = .ok (.iconst 1, 1) := by decide +kernel
theorem dX5_house_89 : decode cX5_house 89 = .ok (.isub, 1) := by decide +kernel
theorem dX5_house_90 : decode cX5_house 90 = .ok (.ireturn, 1) := by decide +kernel
theorem dX5_house_91 : decode cX5_house 91 = .ok (.bipush (-3), 2) := by decide +kernel
theorem dX5_house_93 : decode cX5_house 93 = .ok (.ireturn, 1) := by decide +kernel
theorem dX5_as_0 : decode cX5_as 0 = .ok (.aload_n 0, 1) := by decide +kernel
theorem dX5_as_1 : decode cX5_as 1 = .ok (.iload_n 1, 1) := by decide +kernel
theorem dX5_as_2 : decode cX5_as 2 = .ok (.invokevirtual 239, 3) := by decide +kernel
theorem dX5_as_5 : decode cX5_as 5 = .ok (.ifCond .ne 6, 3) := by decide +kernel
theorem dX5_as_8 : decode cX5_as 8 = .ok (.bipush (-2), 2) := by decide +kernel
theorem dX5_as_10 : decode cX5_as 10 = .ok (.ireturn, 1) := by decide +kernel
theorem dX5_as_11 : decode cX5_as 11 = .ok (.iload_n 2, 1) := by decide +kernel
theorem dX5_as_12 : decode cX5_as 12 = .ok (.iconst 0, 1) := by decide +kernel
theorem dX5_as_13 : decode cX5_as 13 = .ok (.iconst 4, 1) := by decide +kernel
theorem dX5_as_14 : decode cX5_as 14 = .ok (.invokestatic 81, 3) := by decide +kernel
theorem dX5_as_17 : decode cX5_as 17 = .ok (.ifCond .ne 6, 3) := by decide +kernel
theorem dX5_as_20 : decode cX5_as 20 = .ok (.bipush (-3), 2) := by decide +kernel
theorem dX5_as_22 : decode cX5_as 22 = .ok (.ireturn, 1) := by decide +kernel
theorem dX5_as_23 : decode cX5_as 23 = .ok (.iload_n 2, 1) := by decide +kernel
theorem dX5_as_24 : decode cX5_as 24 = .ok (.ifCond .eq 67, 3) := by decide +kernel
theorem dX5_as_27 : decode cX5_as 27 = .ok (.iload_n 2, 1) := by decide +kernel
theorem dX5_as_28 : decode cX5_as 28 = .ok (.iconst 1, 1) := by decide +kernel
theorem dX5_as_29 : decode cX5_as 29 = .ok (.if_icmp .ne 16, 3) := by decide +kernel
theorem dX5_as_32 : decode cX5_as 32 = .ok (.aload_n 0, 1) := by decide +kernel
theorem dX5_as_33 : decode cX5_as 33 = .ok (.getfield 17, 3) := by decide +kernel
theorem dX5_as_36 : decode cX5_as 36 = .ok (.iload_n 1, 1) := by decide +kernel
theorem dX5_as_37 : decode cX5_as 37 = .ok (.iaload, 1) := by decide +kernel
theorem dX5_as_38 : decode cX5_as 38 = .ok (.iconst 3, 1) := by decide +kernel
theorem dX5_as_39 : decode cX5_as 39 = .ok (.if_icmp .ge 56, 3) := by decide +kernel
theorem dX5_as_42 : decode cX5_as 42 = .ok (.goto 49, 3) := by decide +kernel
theorem dX5_as_45 : decode cX5_as 45 = .ok (.iload_n 2, 1) := by decide +kernel
theorem dX5_as_46 : decode cX5_as 46 = .ok (.iconst 2, 1) := by decide +kernel
theorem dX5_as_47 : decode cX5_as 47 = .ok (.if_icmp .ne 16, 3) := by decide +kernel
theorem dX5_as_50 : decode cX5_as 50 = .ok (.aload_n 0, 1) := by decide +kernel
theorem dX5_as_51 : decode cX5_as 51 = .ok (.getfield 17, 3) := by decide +kernel
theorem dX5_as_54 : decode cX5_as 54 = .ok (.iload_n 1, 1) := by decide +kernel
theorem dX5_as_55 : decode cX5_as 55 = .ok (.iaload, 1) := by decide +kernel
theorem dX5_as_56 : decode cX5_as 56 = .ok (.iconst 1, 1) := by decide +kernel
theorem dX5_as_57 : decode cX5_as 57 = .ok (.if_icmp .ne 38, 3) := by decide +kernel
theorem dX5_as_60 : decode cX5_as 60 = .ok (.goto 31, 3) := by decide +kernel
theorem dX5_as_63 : decode cX5_as 63 = .ok (.iload_n 2, 1) := by decide +kernel
theorem dX5_as_64 : decode cX5_as 64 = .ok (.iconst 3, 1) := by decide +kernel
theorem dX5_as_65 : decode cX5_as 65 = .ok (.if_icmp .ne 16, 3) := by decide +kernel
theorem dX5_as_68 : decode cX5_as 68 = .ok (.aload_n 0, 1) := by decide +kernel
theorem dX5_as_69 : decode cX5_as 69 = .ok (.getfield 17, 3) := by decide +kernel
theorem dX5_as_72 : decode cX5_as 72 = .ok (.iload_n 1, 1) := by decide +kernel
theorem dX5_as_73 : decode cX5_as 73 = .ok (.iaload, 1) := by decide +kernel
theorem dX5_as_74 : decode cX5_as 74 = .ok (.iconst 2, 1) := by decide +kernel
theorem dX5_as_75 : decode cX5_as 75 = .ok (.if_icmp .ne 20, 3) := by decide +kernel
theorem dX5_as_78 : decode cX5_as 78 = .ok (.goto 13, 3) := by decide +kernel
theorem dX5_as_81 : decode cX5_as 81 = .ok (.aload_n 0, 1) := by decide +kernel
theorem dX5_as_82 : decode cX5_as 82 = .ok (.getfield 17, 3) := by decide +kernel
theorem dX5_as_85 : decode cX5_as 85 = .ok (.iload_n 1, 1) := by decide +kernel
theorem dX5_as_86 : decode cX5_as 86 = .ok (.iaload, 1) := by decide +kernel
theorem dX5_as_87 : decode cX5_as 87 = .ok (.iconst 3, 1) := by decide +kernel
theorem dX5_as_88 : decode cX5_as 88 = .ok (.if_icmp .ne 7, 3) := by decide +kernel
theorem dX5_as_91 : decode cX5_as 91 = .ok (.iconst 1, 1) := by decide +kernel
theorem dX5_as_92 : decode cX5_as 92 = .ok (.goto 4, 3) := by decide +kernel
theorem dX5_as_95 : decode cX5_as 95 = .ok (.iconst 0, 1) := by decide +kernel
theorem dX5_as_96 : decode cX5_as 96 = .ok (.istore_n 3, 1) := by decide +kernel
theorem dX5_as_97 : decode cX5_as 97 = .ok (.aload_n 0, 1) := by decide +kernel
theorem dX5_as_98 : decode cX5_as 98 = .ok (.iload_n 1, 1) := by decide +kernel
theorem dX5_as_99 : decode cX5_as 99 = .ok (.invokevirtual 242, 3) := by decide +kernel
theorem dX5_as_102 : decode cX5_as 102 = .ok (.iload_n 3, 1) := by decide +kernel
theorem dX5_as_103 : decode cX5_as 103 = .ok (.ifCond .eq 10, 3) := by decide +kernel
theorem dX5_as_106 : decode cX5_as 106 = .ok (.aload_n 0, 1) := by decide +kernel
theorem dX5_as_107 : decode cX5_as 107 = .ok (.getfield 225, 3) := by decide +kernel
theorem dX5_as_110 : decode cX5_as 110 = .ok (.goto 5, 3) := by decide +kernel
theorem dX5_as_113 : decode cX5_as 113 = .ok (.bipush (-4), 2) := by decide +kernel
theorem dX5_as_115 : decode cX5_as 115 = .ok (.ireturn, 1) := by decide +kernel
theorem dX5_can_0 : decode cX5_can 0 = .ok (.aload_n 0, 1) := by decide +kernel
theorem dX5_can_1 : decode cX5_can 1 = .ok (.iload_n 1, 1) := by decide +kernel
theorem dX5_can_2 : decode cX5_can 2 = .ok (.invokevirtual 239, 3) := by decide +kernel
theorem dX5_can_5 : decode cX5_can 5 = .ok (.ifCond .ne 6, 3) := by decide +kernel
theorem dX5_can_8 : decode cX5_can 8 = .ok (.bipush (-2), 2) := by decide +kernel
theorem dX5_can_10 : decode cX5_can 10 = .ok (.ireturn, 1) := by decide +kernel
theorem dX5_can_11 : decode cX5_can 11 = .ok (.iload_n 2, 1) := by decide +kernel
theorem dX5_can_12 : decode cX5_can 12 = .ok (.ifCond .ge 6, 3) := by decide +kernel
theorem dX5_can_15 : decode cX5_can 15 = .ok (.bipush (-3), 2) := by decide +kernel
theorem dX5_can_17 : decode cX5_can 17 = .ok (.ireturn, 1) := by decide +kernel
theorem dX5_can_18 : decode cX5_can 18 = .ok (.aload_n 0, 1) := by decide +kernel
theorem dX5_can_19 : decode cX5_can 19 = .ok (.iload_n 1, 1) := by decide +kernel
theorem dX5_can_20 : decode cX5_can 20 = .ok (.invokevirtual 242, 3) := by decide +kernel
theorem dX5_can_23 : decode cX5_can 23 = .ok (.iload_n 2, 1) := by decide +kernel
theorem dX5_can_24 : decode cX5_can 24 = .ok (.aload_n 0, 1) := by decide +kernel
theorem dX5_can_25 : decode cX5_can 25 = .ok (.getfield 225, 3) := by decide +kernel
theorem dX5_can_28 : decode cX5_can 28 = .ok (.if_icmp .ge 12, 3) := by decide +kernel
theorem dX5_can_31 : decode cX5_can 31 = .ok (.aload_n 0, 1) := by decide +kernel
theorem dX5_can_32 : decode cX5_can 32 = .ok (.getfield 54, 3) := by decide +kernel
theorem dX5_can_35 : decode cX5_can 35 = .ok (.iload_n 2, 1) := by decide +kernel
theorem dX5_can_36 : decode cX5_can 36 = .ok (.iaload, 1) := by decide +kernel
theorem dX5_can_37 : decode cX5_can 37 = .ok (.goto 4, 3) := by decide +kernel
theorem dX5_can_40 : decode cX5_can 40 = .ok (.iconst (-1), 1) := by decide +kernel
theorem dX5_can_41 : decode cX5_can 41 = .ok (.ireturn, 1) := by decide +kernel
theorem dX5_rollTo_0 : decode cX5_rollTo 0 = .ok (.aload_n 0, 1) := by decide +kernel
theorem dX5_rollTo_1 : decode cX5_rollTo 1 = .ok (.getfield 38, 3) := by decide +kernel
theorem dX5_rollTo_4 : decode cX5_rollTo 4 = .ok (.iload_n 1, 1) := by decide +kernel
theorem dX5_rollTo_5 : decode cX5_rollTo 5 = .ok (.iload_n 2, 1) := by decide +kernel
theorem dX5_rollTo_6 : decode cX5_rollTo 6 = .ok (.iastore, 1) := by decide +kernel
theorem dX5_rollTo_7 : decode cX5_rollTo 7 = .ok (.aload_n 0, 1) := by decide +kernel
theorem dX5_rollTo_8 : decode cX5_rollTo 8 = .ok (.getfield 38, 3) := by decide +kernel
theorem dX5_rollTo_11 : decode cX5_rollTo 11 = .ok (.bipush 8, 2) := by decide +kernel
theorem dX5_rollTo_13 : decode cX5_rollTo 13 = .ok (.iload_n 1, 1) := by decide +kernel
theorem dX5_rollTo_14 : decode cX5_rollTo 14 = .ok (.iadd, 1) := by decide +kernel
theorem dX5_rollTo_15 : decode cX5_rollTo 15 = .ok (.aload_n 0, 1) := by decide +kernel
theorem dX5_rollTo_16 : decode cX5_rollTo 16 = .ok (.getfield 38, 3) := by decide +kernel
theorem dX5_rollTo_19 : decode cX5_rollTo 19 = .ok (.bipush 16, 2) := by decide +kernel
theorem dX5_rollTo_21 : decode cX5_rollTo 21 = .ok (.iaload, 1) := by decide +kernel
theorem dX5_rollTo_22 : decode cX5_rollTo 22 = .ok (.iastore, 1) := by decide +kernel
theorem dX5_rollTo_23 : decode cX5_rollTo 23 = .ok (.return_, 1) := by decide +kernel
theorem dX5_rolls_0 : decode cX5_rolls 0 = .ok (.iconst (-1), 1) := by decide +kernel
theorem dX5_rolls_1 : decode cX5_rolls 1 = .ok (.istore_n 1, 1) := by decide +kernel
theorem dX5_rolls_2 : decode cX5_rolls 2 = .ok (.iconst 0, 1) := by decide +kernel
theorem dX5_rolls_3 : decode cX5_rolls 3 = .ok (.istore_n 2, 1) := by decide +kernel
theorem dX5_rolls_4 : decode cX5_rolls 4 = .ok (.iload_n 2, 1) := by decide +kernel
theorem dX5_rolls_5 : decode cX5_rolls 5 = .ok (.aload_n 0, 1) := by decide +kernel
theorem dX5_rolls_6 : decode cX5_rolls 6 = .ok (.getfield 78, 3) := by decide +kernel
theorem dX5_rolls_9 : decode cX5_rolls 9 = .ok (.if_icmp .ge 100, 3) := by decide +kernel
theorem dX5_rolls_12 : decode cX5_rolls 12 = .ok (.aload_n 0, 1) := by decide +kernel
theorem dX5_rolls_13 : decode cX5_rolls 13 = .ok (.getfield 245, 3) := by decide +kernel
theorem dX5_rolls_16 : decode cX5_rolls 16 = .ok (.iconst 1, 1) := by decide +kernel
theorem dX5_rolls_17 : decode cX5_rolls 17 = .ok (.if_icmp .ne 20, 3) := by decide +kernel
theorem dX5_rolls_20 : decode cX5_rolls 20 = .ok (.aload_n 0, 1) := by decide +kernel
theorem dX5_rolls_21 : decode cX5_rolls 21 = .ok (.getfield 38, 3) := by decide +kernel
theorem dX5_rolls_24 : decode cX5_rolls 24 = .ok (.bipush 17, 2) := by decide +kernel
theorem dX5_rolls_26 : decode cX5_rolls 26 = .ok (.iaload, 1) := by decide +kernel
theorem dX5_rolls_27 : decode cX5_rolls 27 = .ok (.iload_n 2, 1) := by decide +kernel
theorem dX5_rolls_28 : decode cX5_rolls 28 = .ok (.iadd, 1) := by decide +kernel
theorem dX5_rolls_29 : decode cX5_rolls 29 = .ok (.aload_n 0, 1) := by decide +kernel
theorem dX5_rolls_30 : decode cX5_rolls 30 = .ok (.getfield 78, 3) := by decide +kernel
theorem dX5_rolls_33 : decode cX5_rolls 33 = .ok (.irem, 1) := by decide +kernel
theorem dX5_rolls_34 : decode cX5_rolls 34 = .ok (.goto 4, 3) := by decide +kernel
theorem dX5_rolls_37 : decode cX5_rolls 37 = .ok (.iload_n 2, 1) := by decide +kernel
theorem dX5_rolls_38 : decode cX5_rolls 38 = .ok (.istore_n 3, 1) := by decide +kernel
theorem dX5_rolls_39 : decode cX5_rolls 39 = .ok (.aload_n 0, 1) := by decide +kernel
theorem dX5_rolls_40 : decode cX5_rolls 40 = .ok (.iload_n 3, 1) := by decide +kernel
theorem dX5_rolls_41 : decode cX5_rolls 41 = .ok (.invokevirtual 242, 3) := by decide +kernel
theorem dX5_rolls_44 : decode cX5_rolls 44 = .ok (.aload_n 0, 1) := by decide +kernel
theorem dX5_rolls_45 : decode cX5_rolls 45 = .ok (.getfield 225, 3) := by decide +kernel
theorem dX5_rolls_48 : decode cX5_rolls 48 = .ok (.ifCond .le 41, 3) := by decide +kernel
theorem dX5_rolls_51 : decode cX5_rolls 51 = .ok (.iload_n 1, 1) := by decide +kernel
theorem dX5_rolls_52 : decode cX5_rolls 52 = .ok (.iconst (-1), 1) := by decide +kernel
theorem dX5_rolls_53 : decode cX5_rolls 53 = .ok (.if_icmp .eq 32, 3) := by decide +kernel
theorem dX5_rolls_56 : decode cX5_rolls 56 = .ok (.aload_n 0, 1) := by decide +kernel
theorem dX5_rolls_57 : decode cX5_rolls 57 = .ok (.getfield 245, 3) := by decide +kernel
theorem dX5_rolls_60 : decode cX5_rolls 60 = .ok (.iconst 2, 1) := by decide +kernel
theorem dX5_rolls_61 : decode cX5_rolls 61 = .ok (.if_icmp .ne 28, 3) := by decide +kernel
theorem dX5_rolls_64 : decode cX5_rolls 64 = .ok (.aload_n 0, 1) := by decide +kernel
theorem dX5_rolls_65 : decode cX5_rolls 65 = .ok (.getfield 38, 3) := by decide +kernel
theorem dX5_rolls_68 : decode cX5_rolls 68 = .ok (.bipush 8, 2) := by decide +kernel
theorem dX5_rolls_70 : decode cX5_rolls 70 = .ok (.iload_n 3, 1) := by decide +kernel
theorem dX5_rolls_71 : decode cX5_rolls 71 = .ok (.iadd, 1) := by decide +kernel
theorem dX5_rolls_72 : decode cX5_rolls 72 = .ok (.iaload, 1) := by decide +kernel
theorem dX5_rolls_73 : decode cX5_rolls 73 = .ok (.aload_n 0, 1) := by decide +kernel
theorem dX5_rolls_74 : decode cX5_rolls 74 = .ok (.getfield 38, 3) := by decide +kernel
theorem dX5_rolls_77 : decode cX5_rolls 77 = .ok (.bipush 8, 2) := by decide +kernel
theorem dX5_rolls_79 : decode cX5_rolls 79 = .ok (.iload_n 1, 1) := by decide +kernel
theorem dX5_rolls_80 : decode cX5_rolls 80 = .ok (.iadd, 1) := by decide +kernel
theorem dX5_rolls_81 : decode cX5_rolls 81 = .ok (.iaload, 1) := by decide +kernel
theorem dX5_rolls_82 : decode cX5_rolls 82 = .ok (.if_icmp .ge 7, 3) := by decide +kernel
theorem dX5_rolls_85 : decode cX5_rolls 85 = .ok (.iconst 1, 1) := by decide +kernel
theorem dX5_rolls_86 : decode cX5_rolls 86 = .ok (.goto 4, 3) := by decide +kernel
theorem dX5_rolls_89 : decode cX5_rolls 89 = .ok (.iconst 0, 1) := by decide +kernel
theorem dX5_rolls_90 : decode cX5_rolls 90 = .ok (.istore 4, 2) := by decide +kernel
theorem dX5_rolls_92 : decode cX5_rolls 92 = .ok (.iload 4, 2) := by decide +kernel
theorem dX5_rolls_94 : decode cX5_rolls 94 = .ok (.ifCond .eq 7, 3) := by decide +kernel
theorem dX5_rolls_97 : decode cX5_rolls 97 = .ok (.iload_n 3, 1) := by decide +kernel
theorem dX5_rolls_98 : decode cX5_rolls 98 = .ok (.goto 4, 3) := by decide +kernel
theorem dX5_rolls_101 : decode cX5_rolls 101 = .ok (.iload_n 1, 1) := by decide +kernel
theorem dX5_rolls_102 : decode cX5_rolls 102 = .ok (.istore_n 1, 1) := by decide +kernel
theorem dX5_rolls_103 : decode cX5_rolls 103 = .ok (.iinc 2 1, 3) := by decide +kernel
theorem dX5_rolls_106 : decode cX5_rolls 106 = .ok (.goto (-102), 3) := by decide +kernel
theorem dX5_rolls_109 : decode cX5_rolls 109 = .ok (.iload_n 1, 1) := by decide +kernel
theorem dX5_rolls_110 : decode cX5_rolls 110 = .ok (.ireturn, 1) := by decide +kernel
theorem dX5_goLot_0 : decode cX5_goLot 0 = .ok (.iconst 0, 1) := by decide +kernel
theorem dX5_goLot_1 : decode cX5_goLot 1 = .ok (.istore_n 1, 1) := by decide +kernel
theorem dX5_goLot_2 : decode cX5_goLot 2 = .ok (.iconst 0, 1) := by decide +kernel
theorem dX5_goLot_3 : decode cX5_goLot 3 = .ok (.istore_n 2, 1) := by decide +kernel
theorem dX5_goLot_4 : decode cX5_goLot 4 = .ok (.iload_n 2, 1) := by decide +kernel
theorem dX5_goLot_5 : decode cX5_goLot 5 = .ok (.aload_n 0, 1) := by decide +kernel
theorem dX5_goLot_6 : decode cX5_goLot 6 = .ok (.getfield 78, 3) := by decide +kernel
theorem dX5_goLot_9 : decode cX5_goLot 9 = .ok (.if_icmp .ge 21, 3) := by decide +kernel
theorem dX5_goLot_12 : decode cX5_goLot 12 = .ok (.aload_n 0, 1) := by decide +kernel
theorem dX5_goLot_13 : decode cX5_goLot 13 = .ok (.iload_n 2, 1) := by decide +kernel
theorem dX5_goLot_14 : decode cX5_goLot 14 = .ok (.invokevirtual 242, 3) := by decide +kernel
theorem dX5_goLot_17 : decode cX5_goLot 17 = .ok (.iload_n 1, 1) := by decide +kernel
theorem dX5_goLot_18 : decode cX5_goLot 18 = .ok (.aload_n 0, 1) := by decide +kernel
theorem dX5_goLot_19 : decode cX5_goLot 19 = .ok (.getfield 225, 3) := by decide +kernel
theorem dX5_goLot_22 : decode cX5_goLot 22 = .ok (.iadd, 1) := by decide +kernel
theorem dX5_goLot_23 : decode cX5_goLot 23 = .ok (.istore_n 1, 1) := by decide +kernel
theorem dX5_goLot_24 : decode cX5_goLot 24 = .ok (.iinc 2 1, 3) := by decide +kernel
theorem dX5_goLot_27 : decode cX5_goLot 27 = .ok (.goto (-23), 3) := by decide +kernel
theorem dX5_goLot_30 : decode cX5_goLot 30 = .ok (.iload_n 1, 1) := by decide +kernel
theorem dX5_goLot_31 : decode cX5_goLot 31 = .ok (.ifCond .ne 4, 3) := by decide +kernel
theorem dX5_goLot_34 : decode cX5_goLot 34 = .ok (.return_, 1) := by decide +kernel
theorem dX5_goLot_35 : decode cX5_goLot 35 = .ok (.aload_n 0, 1) := by decide +kernel
theorem dX5_goLot_36 : decode cX5_goLot 36 = .ok (.getfield 38, 3) := by decide +kernel
theorem dX5_goLot_39 : decode cX5_goLot 39 = .ok (.bipush 18, 2) := by decide +kernel
theorem dX5_goLot_41 : decode cX5_goLot 41 = .ok (.sipush 16807, 3) := by decide +kernel
theorem dX5_goLot_44 : decode cX5_goLot 44 = .ok (.aload_n 0, 1) := by decide +kernel
theorem dX5_goLot_45 : decode cX5_goLot 45 = .ok (.getfield 38, 3) := by decide +kernel
theorem dX5_goLot_48 : decode cX5_goLot 48 = .ok (.bipush 18, 2) := by decide +kernel
theorem dX5_goLot_50 : decode cX5_goLot 50 = .ok (.iaload, 1) := by decide +kernel
theorem dX5_goLot_51 : decode cX5_goLot 51 = .ok (.imul, 1) := by decide +kernel
theorem dX5_goLot_52 : decode cX5_goLot 52 = .ok (.ldc 248, 2) := by decide +kernel
theorem dX5_goLot_54 : decode cX5_goLot 54 = .ok (.irem, 1) := by decide +kernel
theorem dX5_goLot_55 : decode cX5_goLot 55 = .ok (.iastore, 1) := by decide +kernel
theorem dX5_goLot_56 : decode cX5_goLot 56 = .ok (.aload_n 0, 1) := by decide +kernel
theorem dX5_goLot_57 : decode cX5_goLot 57 = .ok (.getfield 38, 3) := by decide +kernel
theorem dX5_goLot_60 : decode cX5_goLot 60 = .ok (.bipush 18, 2) := by decide +kernel
theorem dX5_goLot_62 : decode cX5_goLot 62 = .ok (.iaload, 1) := by decide +kernel
theorem dX5_goLot_63 : decode cX5_goLot 63 = .ok (.iload_n 1, 1) := by decide +kernel
theorem dX5_goLot_64 : decode cX5_goLot 64 = .ok (.irem, 1) := by decide +kernel
theorem dX5_goLot_65 : decode cX5_goLot 65 = .ok (.istore_n 2, 1) := by decide +kernel
theorem dX5_goLot_66 : decode cX5_goLot 66 = .ok (.iconst 0, 1) := by decide +kernel
theorem dX5_goLot_67 : decode cX5_goLot 67 = .ok (.istore_n 3, 1) := by decide +kernel
theorem dX5_goLot_68 : decode cX5_goLot 68 = .ok (.iload_n 3, 1) := by decide +kernel
theorem dX5_goLot_69 : decode cX5_goLot 69 = .ok (.aload_n 0, 1) := by decide +kernel
theorem dX5_goLot_70 : decode cX5_goLot 70 = .ok (.getfield 78, 3) := by decide +kernel
theorem dX5_goLot_73 : decode cX5_goLot 73 = .ok (.if_icmp .ge 45, 3) := by decide +kernel
theorem dX5_goLot_76 : decode cX5_goLot 76 = .ok (.aload_n 0, 1) := by decide +kernel
theorem dX5_goLot_77 : decode cX5_goLot 77 = .ok (.iload_n 3, 1) := by decide +kernel
theorem dX5_goLot_78 : decode cX5_goLot 78 = .ok (.invokevirtual 242, 3) := by decide +kernel
theorem dX5_goLot_81 : decode cX5_goLot 81 = .ok (.iload_n 2, 1) := by decide +kernel
theorem dX5_goLot_82 : decode cX5_goLot 82 = .ok (.ifCond .lt 23, 3) := by decide +kernel
theorem dX5_goLot_85 : decode cX5_goLot 85 = .ok (.iload_n 2, 1) := by decide +kernel
theorem dX5_goLot_86 : decode cX5_goLot 86 = .ok (.aload_n 0, 1) := by decide +kernel
theorem dX5_goLot_87 : decode cX5_goLot 87 = .ok (.getfield 225, 3) := by decide +kernel
theorem dX5_goLot_90 : decode cX5_goLot 90 = .ok (.if_icmp .ge 15, 3) := by decide +kernel
theorem dX5_goLot_93 : decode cX5_goLot 93 = .ok (.aload_n 0, 1) := by decide +kernel
theorem dX5_goLot_94 : decode cX5_goLot 94 = .ok (.iload_n 3, 1) := by decide +kernel
theorem dX5_goLot_95 : decode cX5_goLot 95 = .ok (.aload_n 0, 1) := by decide +kernel
theorem dX5_goLot_96 : decode cX5_goLot 96 = .ok (.getfield 54, 3) := by decide +kernel
theorem dX5_goLot_99 : decode cX5_goLot 99 = .ok (.iload_n 2, 1) := by decide +kernel
theorem dX5_goLot_100 : decode cX5_goLot 100 = .ok (.iaload, 1) := by decide +kernel
theorem dX5_goLot_101 : decode cX5_goLot 101 = .ok (.invokevirtual 249, 3) := by decide +kernel
theorem dX5_goLot_104 : decode cX5_goLot 104 = .ok (.return_, 1) := by decide +kernel
theorem dX5_goLot_105 : decode cX5_goLot 105 = .ok (.iload_n 2, 1) := by decide +kernel
theorem dX5_goLot_106 : decode cX5_goLot 106 = .ok (.aload_n 0, 1) := by decide +kernel
theorem dX5_goLot_107 : decode cX5_goLot 107 = .ok (.getfield 225, 3) := by decide +kernel
theorem dX5_goLot_110 : decode cX5_goLot 110 = .ok (.isub, 1) := by decide +kernel
theorem dX5_goLot_111 : decode cX5_goLot 111 = .ok (.istore_n 2, 1) := by decide +kernel
theorem dX5_goLot_112 : decode cX5_goLot 112 = .ok (.iinc 3 1, 3) := by decide +kernel
theorem dX5_goLot_115 : decode cX5_goLot 115 = .ok (.goto (-47), 3) := by decide +kernel
theorem dX5_goLot_118 : decode cX5_goLot 118 = .ok (.return_, 1) := by decide +kernel
theorem dX5_goNight_0 : decode cX5_goNight 0 = .ok (.aload_n 0, 1) := by decide +kernel
theorem dX5_goNight_1 : decode cX5_goNight 1 = .ok (.getfield 245, 3) := by decide +kernel
theorem dX5_goNight_4 : decode cX5_goNight 4 = .ok (.iconst 3, 1) := by decide +kernel
theorem dX5_goNight_5 : decode cX5_goNight 5 = .ok (.if_icmp .ne 10, 3) := by decide +kernel
theorem dX5_goNight_8 : decode cX5_goNight 8 = .ok (.aload_n 0, 1) := by decide +kernel
theorem dX5_goNight_9 : decode cX5_goNight 9 = .ok (.invokevirtual 253, 3) := by decide +kernel
theorem dX5_goNight_12 : decode cX5_goNight 12 = .ok (.goto 62, 3) := by decide +kernel
theorem dX5_goNight_15 : decode cX5_goNight 15 = .ok (.aload_n 0, 1) := by decide +kernel
theorem dX5_goNight_16 : decode cX5_goNight 16 = .ok (.invokevirtual 256, 3) := by decide +kernel
theorem dX5_goNight_19 : decode cX5_goNight 19 = .ok (.istore_n 1, 1) := by decide +kernel
theorem dX5_goNight_20 : decode cX5_goNight 20 = .ok (.iload_n 1, 1) := by decide +kernel
theorem dX5_goNight_21 : decode cX5_goNight 21 = .ok (.iconst (-1), 1) := by decide +kernel
theorem dX5_goNight_22 : decode cX5_goNight 22 = .ok (.if_icmp .eq 52, 3) := by decide +kernel
theorem dX5_goNight_25 : decode cX5_goNight 25 = .ok (.aload_n 0, 1) := by decide +kernel
theorem dX5_goNight_26 : decode cX5_goNight 26 = .ok (.iload_n 1, 1) := by decide +kernel
theorem dX5_goNight_27 : decode cX5_goNight 27 = .ok (.invokevirtual 242, 3) := by decide +kernel
theorem dX5_goNight_30 : decode cX5_goNight 30 = .ok (.aload_n 0, 1) := by decide +kernel
theorem dX5_goNight_31 : decode cX5_goNight 31 = .ok (.iload_n 1, 1) := by decide +kernel
theorem dX5_goNight_32 : decode cX5_goNight 32 = .ok (.aload_n 0, 1) := by decide +kernel
theorem dX5_goNight_33 : decode cX5_goNight 33 = .ok (.getfield 54, 3) := by decide +kernel
theorem dX5_goNight_36 : decode cX5_goNight 36 = .ok (.iconst 0, 1) := by decide +kernel
theorem dX5_goNight_37 : decode cX5_goNight 37 = .ok (.iaload, 1) := by decide +kernel
theorem dX5_goNight_38 : decode cX5_goNight 38 = .ok (.invokevirtual 249, 3) := by decide +kernel
theorem dX5_goNight_41 : decode cX5_goNight 41 = .ok (.aload_n 0, 1) := by decide +kernel
theorem dX5_goNight_42 : decode cX5_goNight 42 = .ok (.getfield 38, 3) := by decide +kernel
theorem dX5_goNight_45 : decode cX5_goNight 45 = .ok (.bipush 17, 2) := by decide +kernel
theorem dX5_goNight_47 : decode cX5_goNight 47 = .ok (.aload_n 0, 1) := by decide +kernel
theorem dX5_goNight_48 : decode cX5_goNight 48 = .ok (.getfield 245, 3) := by decide +kernel
theorem dX5_goNight_51 : decode cX5_goNight 51 = .ok (.iconst 1, 1) := by decide +kernel
theorem dX5_goNight_52 : decode cX5_goNight 52 = .ok (.if_icmp .ne 14, 3) := by decide +kernel
theorem dX5_goNight_55 : decode cX5_goNight 55 = .ok (.iload_n 1, 1) := by decide +kernel
theorem dX5_goNight_56 : decode cX5_goNight 56 = .ok (.iconst 1, 1) := by decide +kernel
theorem dX5_goNight_57 : decode cX5_goNight 57 = .ok (.iadd, 1) := by decide +kernel
theorem dX5_goNight_58 : decode cX5_goNight 58 = .ok (.aload_n 0, 1) := by decide +kernel
theorem dX5_goNight_59 : decode cX5_goNight 59 = .ok (.getfield 78, 3) := by decide +kernel
theorem dX5_goNight_62 : decode cX5_goNight 62 = .ok (.irem, 1) := by decide +kernel
theorem dX5_goNight_63 : decode cX5_goNight 63 = .ok (.goto 10, 3) := by decide +kernel
theorem dX5_goNight_66 : decode cX5_goNight 66 = .ok (.aload_n 0, 1) := by decide +kernel
theorem dX5_goNight_67 : decode cX5_goNight 67 = .ok (.getfield 38, 3) := by decide +kernel
theorem dX5_goNight_70 : decode cX5_goNight 70 = .ok (.bipush 17, 2) := by decide +kernel
theorem dX5_goNight_72 : decode cX5_goNight 72 = .ok (.iaload, 1) := by decide +kernel
theorem dX5_goNight_73 : decode cX5_goNight 73 = .ok (.iastore, 1) := by decide +kernel
theorem dX5_goNight_74 : decode cX5_goNight 74 = .ok (.aload_n 0, 1) := by decide +kernel
theorem dX5_goNight_75 : decode cX5_goNight 75 = .ok (.getfield 38, 3) := by decide +kernel
theorem dX5_goNight_78 : decode cX5_goNight 78 = .ok (.bipush 16, 2) := by decide +kernel
theorem dX5_goNight_80 : decode cX5_goNight 80 = .ok (.dup2, 1) := by decide +kernel
theorem dX5_goNight_81 : decode cX5_goNight 81 = .ok (.iaload, 1) := by decide +kernel
theorem dX5_goNight_82 : decode cX5_goNight 82 = .ok (.iconst 1, 1) := by decide +kernel
theorem dX5_goNight_83 : decode cX5_goNight 83 = .ok (.iadd, 1) := by decide +kernel
theorem dX5_goNight_84 : decode cX5_goNight 84 = .ok (.iastore, 1) := by decide +kernel
theorem dX5_goNight_85 : decode cX5_goNight 85 = .ok (.return_, 1) := by decide +kernel
theorem dX5_go_0 : decode cX5_go 0 = .ok (.iload_n 1, 1) := by decide +kernel
theorem dX5_go_1 : decode cX5_go 1 = .ok (.iconst 1, 1) := by decide +kernel
theorem dX5_go_2 : decode cX5_go 2 = .ok (.bipush 99, 2) := by decide +kernel
theorem dX5_go_4 : decode cX5_go 4 = .ok (.invokestatic 81, 3) := by decide +kernel
theorem dX5_go_7 : decode cX5_go 7 = .ok (.ifCond .ne 6, 3) := by decide +kernel
theorem dX5_go_10 : decode cX5_go 10 = .ok (.bipush (-3), 2) := by decide +kernel
theorem dX5_go_12 : decode cX5_go 12 = .ok (.ireturn, 1) := by decide +kernel
theorem dX5_go_13 : decode cX5_go 13 = .ok (.aload_n 0, 1) := by decide +kernel
theorem dX5_go_14 : decode cX5_go 14 = .ok (.getfield 38, 3) := by decide +kernel
theorem dX5_go_17 : decode cX5_go 17 = .ok (.bipush 16, 2) := by decide +kernel
theorem dX5_go_19 : decode cX5_go 19 = .ok (.iaload, 1) := by decide +kernel
theorem dX5_go_20 : decode cX5_go 20 = .ok (.iload_n 1, 1) := by decide +kernel
theorem dX5_go_21 : decode cX5_go 21 = .ok (.iadd, 1) := by decide +kernel
theorem dX5_go_22 : decode cX5_go 22 = .ok (.sipush 9999, 3) := by decide +kernel
theorem dX5_go_25 : decode cX5_go 25 = .ok (.if_icmp .le 6, 3) := by decide +kernel
theorem dX5_go_28 : decode cX5_go 28 = .ok (.bipush (-5), 2) := by decide +kernel
theorem dX5_go_30 : decode cX5_go 30 = .ok (.ireturn, 1) := by decide +kernel
theorem dX5_go_31 : decode cX5_go 31 = .ok (.aload_n 0, 1) := by decide +kernel
theorem dX5_go_32 : decode cX5_go 32 = .ok (.aload_n 0, 1) := by decide +kernel
theorem dX5_go_33 : decode cX5_go 33 = .ok (.getfield 91, 3) := by decide +kernel
theorem dX5_go_36 : decode cX5_go 36 = .ok (.putfield 245, 3) := by decide +kernel
theorem dX5_go_39 : decode cX5_go 39 = .ok (.iconst 0, 1) := by decide +kernel
theorem dX5_go_40 : decode cX5_go 40 = .ok (.istore_n 2, 1) := by decide +kernel
theorem dX5_go_41 : decode cX5_go 41 = .ok (.iload_n 2, 1) := by decide +kernel
theorem dX5_go_42 : decode cX5_go 42 = .ok (.iload_n 1, 1) := by decide +kernel
theorem dX5_go_43 : decode cX5_go 43 = .ok (.if_icmp .ge 13, 3) := by decide +kernel
theorem dX5_go_46 : decode cX5_go 46 = .ok (.aload_n 0, 1) := by decide +kernel
theorem dX5_go_47 : decode cX5_go 47 = .ok (.invokevirtual 259, 3) := by decide +kernel
theorem dX5_go_50 : decode cX5_go 50 = .ok (.iinc 2 1, 3) := by decide +kernel
theorem dX5_go_53 : decode cX5_go 53 = .ok (.goto (-12), 3) := by decide +kernel
theorem dX5_go_56 : decode cX5_go 56 = .ok (.aload_n 0, 1) := by decide +kernel
theorem dX5_go_57 : decode cX5_go 57 = .ok (.getfield 38, 3) := by decide +kernel
theorem dX5_go_60 : decode cX5_go 60 = .ok (.bipush 16, 2) := by decide +kernel
theorem dX5_go_62 : decode cX5_go 62 = .ok (.iaload, 1) := by decide +kernel
theorem dX5_go_63 : decode cX5_go 63 = .ok (.ireturn, 1) := by decide +kernel
theorem dX5_roll_0 : decode cX5_roll 0 = .ok (.aload_n 0, 1) := by decide +kernel
theorem dX5_roll_1 : decode cX5_roll 1 = .ok (.iload_n 1, 1) := by decide +kernel
theorem dX5_roll_2 : decode cX5_roll 2 = .ok (.invokevirtual 239, 3) := by decide +kernel
theorem dX5_roll_5 : decode cX5_roll 5 = .ok (.ifCond .eq 11, 3) := by decide +kernel
theorem dX5_roll_8 : decode cX5_roll 8 = .ok (.aload_n 0, 1) := by decide +kernel
theorem dX5_roll_9 : decode cX5_roll 9 = .ok (.iload_n 2, 1) := by decide +kernel
theorem dX5_roll_10 : decode cX5_roll 10 = .ok (.invokevirtual 219, 3) := by decide +kernel
theorem dX5_roll_13 : decode cX5_roll 13 = .ok (.ifCond .ne 6, 3) := by decide +kernel
theorem dX5_roll_16 : decode cX5_roll 16 = .ok (.bipush (-2), 2) := by decide +kernel
theorem dX5_roll_18 : decode cX5_roll 18 = .ok (.ireturn, 1) := by decide +kernel
theorem dX5_roll_19 : decode cX5_roll 19 = .ok (.aload_n 0, 1) := by decide +kernel
theorem dX5_roll_20 : decode cX5_roll 20 = .ok (.iload_n 1, 1) := by decide +kernel
theorem dX5_roll_21 : decode cX5_roll 21 = .ok (.invokevirtual 242, 3) := by decide +kernel
theorem dX5_roll_24 : decode cX5_roll 24 = .ok (.iconst 0, 1) := by decide +kernel
theorem dX5_roll_25 : decode cX5_roll 25 = .ok (.istore_n 3, 1) := by decide +kernel
theorem dX5_roll_26 : decode cX5_roll 26 = .ok (.iconst 0, 1) := by decide +kernel
theorem dX5_roll_27 : decode cX5_roll 27 = .ok (.istore 4, 2) := by decide +kernel
theorem dX5_roll_29 : decode cX5_roll 29 = .ok (.iload 4, 2) := by decide +kernel
theorem dX5_roll_31 : decode cX5_roll 31 = .ok (.aload_n 0, 1) := by decide +kernel
theorem dX5_roll_32 : decode cX5_roll 32 = .ok (.getfield 225, 3) := by decide +kernel
theorem dX5_roll_35 : decode cX5_roll 35 = .ok (.if_icmp .ge 30, 3) := by decide +kernel
theorem dX5_roll_38 : decode cX5_roll 38 = .ok (.iload_n 3, 1) := by decide +kernel
theorem dX5_roll_39 : decode cX5_roll 39 = .ok (.ifCond .ne 14, 3) := by decide +kernel
theorem dX5_roll_42 : decode cX5_roll 42 = .ok (.aload_n 0, 1) := by decide +kernel
theorem dX5_roll_43 : decode cX5_roll 43 = .ok (.getfield 54, 3) := by decide +kernel
theorem dX5_roll_46 : decode cX5_roll 46 = .ok (.iload 4, 2) := by decide +kernel
theorem dX5_roll_48 : decode cX5_roll 48 = .ok (.iaload, 1) := by decide +kernel
theorem dX5_roll_49 : decode cX5_roll 49 = .ok (.iload_n 2, 1) := by decide +kernel
theorem dX5_roll_50 : decode cX5_roll 50 = .ok (.if_icmp .ne 7, 3) := by decide +kernel
theorem dX5_roll_53 : decode cX5_roll 53 = .ok (.iconst 1, 1) := by decide +kernel
theorem dX5_roll_54 : decode cX5_roll 54 = .ok (.goto 4, 3) := by decide +kernel
theorem dX5_roll_57 : decode cX5_roll 57 = .ok (.iconst 0, 1) := by decide +kernel
theorem dX5_roll_58 : decode cX5_roll 58 = .ok (.istore_n 3, 1) := by decide +kernel
theorem dX5_roll_59 : decode cX5_roll 59 = .ok (.iinc 4 1, 3) := by decide +kernel
theorem dX5_roll_62 : decode cX5_roll 62 = .ok (.goto (-33), 3) := by decide +kernel
theorem dX5_roll_65 : decode cX5_roll 65 = .ok (.iload_n 3, 1) := by decide +kernel
theorem dX5_roll_66 : decode cX5_roll 66 = .ok (.ifCond .ne 6, 3) := by decide +kernel
theorem dX5_roll_69 : decode cX5_roll 69 = .ok (.bipush (-4), 2) := by decide +kernel
theorem dX5_roll_71 : decode cX5_roll 71 = .ok (.ireturn, 1) := by decide +kernel
theorem dX5_roll_72 : decode cX5_roll 72 = .ok (.aload_n 0, 1) := by decide +kernel
theorem dX5_roll_73 : decode cX5_roll 73 = .ok (.getfield 38, 3) := by decide +kernel
theorem dX5_roll_76 : decode cX5_roll 76 = .ok (.bipush 16, 2) := by decide +kernel
theorem dX5_roll_78 : decode cX5_roll 78 = .ok (.iaload, 1) := by decide +kernel
theorem dX5_roll_79 : decode cX5_roll 79 = .ok (.sipush 9999, 3) := by decide +kernel
theorem dX5_roll_82 : decode cX5_roll 82 = .ok (.if_icmp .ne 6, 3) := by decide +kernel
theorem dX5_roll_85 : decode cX5_roll 85 = .ok (.bipush (-5), 2) := by decide +kernel
theorem dX5_roll_87 : decode cX5_roll 87 = .ok (.ireturn, 1) := by decide +kernel
theorem dX5_roll_88 : decode cX5_roll 88 = .ok (.aload_n 0, 1) := by decide +kernel
theorem dX5_roll_89 : decode cX5_roll 89 = .ok (.iload_n 1, 1) := by decide +kernel
theorem dX5_roll_90 : decode cX5_roll 90 = .ok (.iload_n 2, 1) := by decide +kernel
theorem dX5_roll_91 : decode cX5_roll 91 = .ok (.invokevirtual 249, 3) := by decide +kernel
theorem dX5_roll_94 : decode cX5_roll 94 = .ok (.aload_n 0, 1) := by decide +kernel
theorem dX5_roll_95 : decode cX5_roll 95 = .ok (.getfield 38, 3) := by decide +kernel
theorem dX5_roll_98 : decode cX5_roll 98 = .ok (.bipush 17, 2) := by decide +kernel
theorem dX5_roll_100 : decode cX5_roll 100 = .ok (.aload_n 0, 1) := by decide +kernel
theorem dX5_roll_101 : decode cX5_roll 101 = .ok (.getfield 91, 3) := by decide +kernel
theorem dX5_roll_104 : decode cX5_roll 104 = .ok (.iconst 1, 1) := by decide +kernel
theorem dX5_roll_105 : decode cX5_roll 105 = .ok (.if_icmp .ne 14, 3) := by decide +kernel
theorem dX5_roll_108 : decode cX5_roll 108 = .ok (.iload_n 1, 1) := by decide +kernel
theorem dX5_roll_109 : decode cX5_roll 109 = .ok (.iconst 1, 1) := by decide +kernel
theorem dX5_roll_110 : decode cX5_roll 110 = .ok (.iadd, 1) := by decide +kernel
theorem dX5_roll_111 : decode cX5_roll 111 = .ok (.aload_n 0, 1) := by decide +kernel
theorem dX5_roll_112 : decode cX5_roll 112 = .ok (.getfield 78, 3) := by decide +kernel
theorem dX5_roll_115 : decode cX5_roll 115 = .ok (.irem, 1) := by decide +kernel
theorem dX5_roll_116 : decode cX5_roll 116 = .ok (.goto 10, 3) := by decide +kernel
theorem dX5_roll_119 : decode cX5_roll 119 = .ok (.aload_n 0, 1) := by decide +kernel
theorem dX5_roll_120 : decode cX5_roll 120 = .ok (.getfield 38, 3) := by decide +kernel
theorem dX5_roll_123 : decode cX5_roll 123 = .ok (.bipush 17, 2) := by decide +kernel
theorem dX5_roll_125 : decode cX5_roll 125 = .ok (.iaload, 1) := by decide +kernel
theorem dX5_roll_126 : decode cX5_roll 126 = .ok (.iastore, 1) := by decide +kernel
theorem dX5_roll_127 : decode cX5_roll 127 = .ok (.aload_n 0, 1) := by decide +kernel
theorem dX5_roll_128 : decode cX5_roll 128 = .ok (.getfield 38, 3) := by decide +kernel
theorem dX5_roll_131 : decode cX5_roll 131 = .ok (.bipush 16, 2) := by decide +kernel
theorem dX5_roll_133 : decode cX5_roll 133 = .ok (.dup2, 1) := by decide +kernel
theorem dX5_roll_134 : decode cX5_roll 134 = .ok (.iaload, 1) := by decide +kernel
theorem dX5_roll_135 : decode cX5_roll 135 = .ok (.iconst 1, 1) := by decide +kernel
theorem dX5_roll_136 : decode cX5_roll 136 = .ok (.iadd, 1) := by decide +kernel
theorem dX5_roll_137 : decode cX5_roll 137 = .ok (.iastore, 1) := by decide +kernel
theorem dX5_roll_138 : decode cX5_roll 138 = .ok (.aload_n 0, 1) := by decide +kernel
theorem dX5_roll_139 : decode cX5_roll 139 = .ok (.getfield 38, 3) := by decide +kernel
theorem dX5_roll_142 : decode cX5_roll 142 = .ok (.bipush 16, 2) := by decide +kernel
theorem dX5_roll_144 : decode cX5_roll 144 = .ok (.iaload, 1) := by decide +kernel
theorem dX5_roll_145 : decode cX5_roll 145 = .ok (.ireturn, 1) := by decide +kernel
theorem dX5_copy_0 : decode cX5_copy 0 = .ok (.iconst 0, 1) := by decide +kernel
theorem dX5_copy_1 : decode cX5_copy 1 = .ok (.istore 4, 2) := by decide +kernel
theorem dX5_copy_3 : decode cX5_copy 3 = .ok (.iload 4, 2) := by decide +kernel
theorem dX5_copy_5 : decode cX5_copy 5 = .ok (.bipush 19, 2) := by decide +kernel
theorem dX5_copy_7 : decode cX5_copy 7 = .ok (.if_icmp .ge 21, 3) := by decide +kernel
theorem dX5_copy_10 : decode cX5_copy 10 = .ok (.aload_n 2, 1) := by decide +kernel
theorem dX5_copy_11 : decode cX5_copy 11 = .ok (.iload_n 3, 1) := by decide +kernel
theorem dX5_copy_12 : decode cX5_copy 12 = .ok (.iload 4, 2) := by decide +kernel
theorem dX5_copy_14 : decode cX5_copy 14 = .ok (.iadd, 1) := by decide +kernel
theorem dX5_copy_15 : decode cX5_copy 15 = .ok (.aload_n 0, 1) := by decide +kernel
theorem dX5_copy_16 : decode cX5_copy 16 = .ok (.iload_n 1, 1) := by decide +kernel
theorem dX5_copy_17 : decode cX5_copy 17 = .ok (.iload 4, 2) := by decide +kernel
theorem dX5_copy_19 : decode cX5_copy 19 = .ok (.iadd, 1) := by decide +kernel
theorem dX5_copy_20 : decode cX5_copy 20 = .ok (.iaload, 1) := by decide +kernel
theorem dX5_copy_21 : decode cX5_copy 21 = .ok (.iastore, 1) := by decide +kernel
theorem dX5_copy_22 : decode cX5_copy 22 = .ok (.iinc 4 1, 3) := by decide +kernel
theorem dX5_copy_25 : decode cX5_copy 25 = .ok (.goto (-22), 3) := by decide +kernel
theorem dX5_copy_28 : decode cX5_copy 28 = .ok (.return_, 1) := by decide +kernel
theorem dX5_keep_0 : decode cX5_keep 0 = .ok (.iload_n 1, 1) := by decide +kernel
theorem dX5_keep_1 : decode cX5_keep 1 = .ok (.iconst 0, 1) := by decide +kernel
theorem dX5_keep_2 : decode cX5_keep 2 = .ok (.iconst 1, 1) := by decide +kernel
theorem dX5_keep_3 : decode cX5_keep 3 = .ok (.invokestatic 81, 3) := by decide +kernel
theorem dX5_keep_6 : decode cX5_keep 6 = .ok (.ifCond .ne 6, 3) := by decide +kernel
theorem dX5_keep_9 : decode cX5_keep 9 = .ok (.bipush (-2), 2) := by decide +kernel
theorem dX5_keep_11 : decode cX5_keep 11 = .ok (.ireturn, 1) := by decide +kernel
theorem dX5_keep_12 : decode cX5_keep 12 = .ok (.aload_n 0, 1) := by decide +kernel
theorem dX5_keep_13 : decode cX5_keep 13 = .ok (.getfield 38, 3) := by decide +kernel
theorem dX5_keep_16 : decode cX5_keep 16 = .ok (.iconst 0, 1) := by decide +kernel
theorem dX5_keep_17 : decode cX5_keep 17 = .ok (.aload_n 0, 1) := by decide +kernel
theorem dX5_keep_18 : decode cX5_keep 18 = .ok (.getfield 44, 3) := by decide +kernel
theorem dX5_keep_21 : decode cX5_keep 21 = .ok (.bipush 19, 2) := by decide +kernel
theorem dX5_keep_23 : decode cX5_keep 23 = .ok (.iload_n 1, 1) := by decide +kernel
theorem dX5_keep_24 : decode cX5_keep 24 = .ok (.imul, 1) := by decide +kernel
theorem dX5_keep_25 : decode cX5_keep 25 = .ok (.invokestatic 262, 3) := by decide +kernel
theorem dX5_keep_28 : decode cX5_keep 28 = .ok (.aload_n 0, 1) := by decide +kernel
theorem dX5_keep_29 : decode cX5_keep 29 = .ok (.getfield 47, 3) := by decide +kernel
theorem dX5_keep_32 : decode cX5_keep 32 = .ok (.iload_n 1, 1) := by decide +kernel
theorem dX5_keep_33 : decode cX5_keep 33 = .ok (.iconst 1, 1) := by decide +kernel
theorem dX5_keep_34 : decode cX5_keep 34 = .ok (.bastore, 1) := by decide +kernel
theorem dX5_keep_35 : decode cX5_keep 35 = .ok (.aload_n 0, 1) := by decide +kernel
theorem dX5_keep_36 : decode cX5_keep 36 = .ok (.getfield 38, 3) := by decide +kernel
theorem dX5_keep_39 : decode cX5_keep 39 = .ok (.bipush 16, 2) := by decide +kernel
theorem dX5_keep_41 : decode cX5_keep 41 = .ok (.iaload, 1) := by decide +kernel
theorem dX5_keep_42 : decode cX5_keep 42 = .ok (.ireturn, 1) := by decide +kernel
theorem dX5_back_0 : decode cX5_back 0 = .ok (.iload_n 1, 1) := by decide +kernel
theorem dX5_back_1 : decode cX5_back 1 = .ok (.iconst 0, 1) := by decide +kernel
theorem dX5_back_2 : decode cX5_back 2 = .ok (.iconst 1, 1) := by decide +kernel
theorem dX5_back_3 : decode cX5_back 3 = .ok (.invokestatic 81, 3) := by decide +kernel
theorem dX5_back_6 : decode cX5_back 6 = .ok (.ifCond .ne 6, 3) := by decide +kernel
theorem dX5_back_9 : decode cX5_back 9 = .ok (.bipush (-2), 2) := by decide +kernel
theorem dX5_back_11 : decode cX5_back 11 = .ok (.ireturn, 1) := by decide +kernel
theorem dX5_back_12 : decode cX5_back 12 = .ok (.aload_n 0, 1) := by decide +kernel
theorem dX5_back_13 : decode cX5_back 13 = .ok (.getfield 47, 3) := by decide +kernel
theorem dX5_back_16 : decode cX5_back 16 = .ok (.iload_n 1, 1) := by decide +kernel
theorem dX5_back_17 : decode cX5_back 17 = .ok (.baload, 1) := by decide +kernel
theorem dX5_back_18 : decode cX5_back 18 = .ok (.ifCond .ne 6, 3) := by decide +kernel
theorem dX5_back_21 : decode cX5_back 21 = .ok (.bipush (-4), 2) := by decide +kernel
theorem dX5_back_23 : decode cX5_back 23 = .ok (.ireturn, 1) := by decide +kernel
theorem dX5_back_24 : decode cX5_back 24 = .ok (.aload_n 0, 1) := by decide +kernel
theorem dX5_back_25 : decode cX5_back 25 = .ok (.getfield 44, 3) := by decide +kernel
theorem dX5_back_28 : decode cX5_back 28 = .ok (.bipush 19, 2) := by decide +kernel
theorem dX5_back_30 : decode cX5_back 30 = .ok (.iload_n 1, 1) := by decide +kernel
theorem dX5_back_31 : decode cX5_back 31 = .ok (.imul, 1) := by decide +kernel
theorem dX5_back_32 : decode cX5_back 32 = .ok (.aload_n 0, 1) := by decide +kernel
theorem dX5_back_33 : decode cX5_back 33 = .ok (.getfield 38, 3) := by decide +kernel
theorem dX5_back_36 : decode cX5_back 36 = .ok (.iconst 0, 1) := by decide +kernel
theorem dX5_back_37 : decode cX5_back 37 = .ok (.invokestatic 262, 3) := by decide +kernel
theorem dX5_back_40 : decode cX5_back 40 = .ok (.aload_n 0, 1) := by decide +kernel
theorem dX5_back_41 : decode cX5_back 41 = .ok (.getfield 38, 3) := by decide +kernel
theorem dX5_back_44 : decode cX5_back 44 = .ok (.bipush 16, 2) := by decide +kernel
theorem dX5_back_46 : decode cX5_back 46 = .ok (.iaload, 1) := by decide +kernel
theorem dX5_back_47 : decode cX5_back 47 = .ok (.ireturn, 1) := by decide +kernel
theorem dX5_putAside_0 : decode cX5_putAside 0 = .ok (.aload_n 0, 1) := by decide +kernel
theorem dX5_putAside_1 : decode cX5_putAside 1 = .ok (.getfield 38, 3) := by decide +kernel
theorem dX5_putAside_4 : decode cX5_putAside 4 = .ok (.iconst 0, 1) := by decide +kernel
theorem dX5_putAside_5 : decode cX5_putAside 5 = .ok (.aload_n 0, 1) := by decide +kernel
theorem dX5_putAside_6 : decode cX5_putAside 6 = .ok (.getfield 41, 3) := by decide +kernel
theorem dX5_putAside_9 : decode cX5_putAside 9 = .ok (.iconst 0, 1) := by decide +kernel
theorem dX5_putAside_10 : decode cX5_putAside 10 = .ok (.invokestatic 262, 3) := by decide +kernel
theorem dX5_putAside_13 : decode cX5_putAside 13 = .ok (.aload_n 0, 1) := by decide +kernel
theorem dX5_putAside_14 : decode cX5_putAside 14 = .ok (.aload_n 0, 1) := by decide +kernel
theorem dX5_putAside_15 : decode cX5_putAside 15 = .ok (.getfield 91, 3) := by decide +kernel
theorem dX5_putAside_18 : decode cX5_putAside 18 = .ok (.putfield 245, 3) := by decide +kernel
theorem dX5_putAside_21 : decode cX5_putAside 21 = .ok (.return_, 1) := by decide +kernel
theorem dX5_putBack_0 : decode cX5_putBack 0 = .ok (.aload_n 0, 1) := by decide +kernel
theorem dX5_putBack_1 : decode cX5_putBack 1 = .ok (.getfield 41, 3) := by decide +kernel
theorem dX5_putBack_4 : decode cX5_putBack 4 = .ok (.iconst 0, 1) := by decide +kernel
theorem dX5_putBack_5 : decode cX5_putBack 5 = .ok (.aload_n 0, 1) := by decide +kernel
theorem dX5_putBack_6 : decode cX5_putBack 6 = .ok (.getfield 38, 3) := by decide +kernel
theorem dX5_putBack_9 : decode cX5_putBack 9 = .ok (.iconst 0, 1) := by decide +kernel
theorem dX5_putBack_10 : decode cX5_putBack 10 = .ok (.invokestatic 262, 3) := by decide +kernel
theorem dX5_putBack_13 : decode cX5_putBack 13 = .ok (.return_, 1) := by decide +kernel
theorem dX5_later_0 : decode cX5_later 0 = .ok (.aload_n 0, 1) := by decide +kernel
theorem dX5_later_1 : decode cX5_later 1 = .ok (.iload_n 1, 1) := by decide +kernel
theorem dX5_later_2 : decode cX5_later 2 = .ok (.invokevirtual 239, 3) := by decide +kernel
theorem dX5_later_5 : decode cX5_later 5 = .ok (.ifCond .ne 6, 3) := by decide +kernel
theorem dX5_later_8 : decode cX5_later 8 = .ok (.bipush (-2), 2) := by decide +kernel
theorem dX5_later_10 : decode cX5_later 10 = .ok (.ireturn, 1) := by decide +kernel
theorem dX5_later_11 : decode cX5_later 11 = .ok (.iload_n 2, 1) := by decide +kernel
theorem dX5_later_12 : decode cX5_later 12 = .ok (.iconst 0, 1) := by decide +kernel
theorem dX5_later_13 : decode cX5_later 13 = .ok (.bipush 99, 2) := by decide +kernel
theorem dX5_later_15 : decode cX5_later 15 = .ok (.invokestatic 81, 3) := by decide +kernel
theorem dX5_later_18 : decode cX5_later 18 = .ok (.ifCond .ne 6, 3) := by decide +kernel
theorem dX5_later_21 : decode cX5_later 21 = .ok (.bipush (-3), 2) := by decide +kernel
theorem dX5_later_23 : decode cX5_later 23 = .ok (.ireturn, 1) := by decide +kernel
theorem dX5_later_24 : decode cX5_later 24 = .ok (.aload_n 0, 1) := by decide +kernel
theorem dX5_later_25 : decode cX5_later 25 = .ok (.invokevirtual 266, 3) := by decide +kernel
theorem dX5_later_28 : decode cX5_later 28 = .ok (.iconst 0, 1) := by decide +kernel
theorem dX5_later_29 : decode cX5_later 29 = .ok (.istore_n 3, 1) := by decide +kernel
theorem dX5_later_30 : decode cX5_later 30 = .ok (.iload_n 3, 1) := by decide +kernel
theorem dX5_later_31 : decode cX5_later 31 = .ok (.iload_n 2, 1) := by decide +kernel
theorem dX5_later_32 : decode cX5_later 32 = .ok (.if_icmp .ge 13, 3) := by decide +kernel
theorem dX5_later_35 : decode cX5_later 35 = .ok (.aload_n 0, 1) := by decide +kernel
theorem dX5_later_36 : decode cX5_later 36 = .ok (.invokevirtual 259, 3) := by decide +kernel
theorem dX5_later_39 : decode cX5_later 39 = .ok (.iinc 3 1, 3) := by decide +kernel
theorem dX5_later_42 : decode cX5_later 42 = .ok (.goto (-12), 3) := by decide +kernel
theorem dX5_later_45 : decode cX5_later 45 = .ok (.aload_n 0, 1) := by decide +kernel
theorem dX5_later_46 : decode cX5_later 46 = .ok (.getfield 38, 3) := by decide +kernel
theorem dX5_later_49 : decode cX5_later 49 = .ok (.iload_n 1, 1) := by decide +kernel
theorem dX5_later_50 : decode cX5_later 50 = .ok (.iaload, 1) := by decide +kernel
theorem dX5_later_51 : decode cX5_later 51 = .ok (.istore_n 3, 1) := by decide +kernel
theorem dX5_later_52 : decode cX5_later 52 = .ok (.aload_n 0, 1) := by decide +kernel
theorem dX5_later_53 : decode cX5_later 53 = .ok (.invokevirtual 269, 3) := by decide +kernel
theorem dX5_later_56 : decode cX5_later 56 = .ok (.iload_n 3, 1) := by decide +kernel
theorem dX5_later_57 : decode cX5_later 57 = .ok (.ireturn, 1) := by decide +kernel
theorem dX5_rankOf_0 : decode cX5_rankOf 0 = .ok (.iconst 0, 1) := by decide +kernel
theorem dX5_rankOf_1 : decode cX5_rankOf 1 = .ok (.istore_n 2, 1) := by decide +kernel
theorem dX5_rankOf_2 : decode cX5_rankOf 2 = .ok (.iconst 0, 1) := by decide +kernel
theorem dX5_rankOf_3 : decode cX5_rankOf 3 = .ok (.istore_n 3, 1) := by decide +kernel
theorem dX5_rankOf_4 : decode cX5_rankOf 4 = .ok (.iload_n 3, 1) := by decide +kernel
theorem dX5_rankOf_5 : decode cX5_rankOf 5 = .ok (.aload_n 0, 1) := by decide +kernel
theorem dX5_rankOf_6 : decode cX5_rankOf 6 = .ok (.getfield 78, 3) := by decide +kernel
theorem dX5_rankOf_9 : decode cX5_rankOf 9 = .ok (.if_icmp .ge 38, 3) := by decide +kernel
theorem dX5_rankOf_12 : decode cX5_rankOf 12 = .ok (.iload_n 2, 1) := by decide +kernel
theorem dX5_rankOf_13 : decode cX5_rankOf 13 = .ok (.aload_n 0, 1) := by decide +kernel
theorem dX5_rankOf_14 : decode cX5_rankOf 14 = .ok (.getfield 38, 3) := by decide +kernel
theorem dX5_rankOf_17 : decode cX5_rankOf 17 = .ok (.bipush 8, 2) := by decide +kernel
theorem dX5_rankOf_19 : decode cX5_rankOf 19 = .ok (.iload_n 3, 1) := by decide +kernel
theorem dX5_rankOf_20 : decode cX5_rankOf 20 = .ok (.iadd, 1) := by decide +kernel
theorem dX5_rankOf_21 : decode cX5_rankOf 21 = .ok (.iaload, 1) := by decide +kernel
theorem dX5_rankOf_22 : decode cX5_rankOf 22 = .ok (.aload_n 0, 1) := by decide +kernel
theorem dX5_rankOf_23 : decode cX5_rankOf 23 = .ok (.getfield 38, 3) := by decide +kernel
theorem dX5_rankOf_26 : decode cX5_rankOf 26 = .ok (.bipush 8, 2) := by decide +kernel
theorem dX5_rankOf_28 : decode cX5_rankOf 28 = .ok (.iload_n 1, 1) := by decide +kernel
theorem dX5_rankOf_29 : decode cX5_rankOf 29 = .ok (.iadd, 1) := by decide +kernel
theorem dX5_rankOf_30 : decode cX5_rankOf 30 = .ok (.iaload, 1) := by decide +kernel
theorem dX5_rankOf_31 : decode cX5_rankOf 31 = .ok (.if_icmp .ge 7, 3) := by decide +kernel
theorem dX5_rankOf_34 : decode cX5_rankOf 34 = .ok (.iconst 1, 1) := by decide +kernel
theorem dX5_rankOf_35 : decode cX5_rankOf 35 = .ok (.goto 4, 3) := by decide +kernel
theorem dX5_rankOf_38 : decode cX5_rankOf 38 = .ok (.iconst 0, 1) := by decide +kernel
theorem dX5_rankOf_39 : decode cX5_rankOf 39 = .ok (.iadd, 1) := by decide +kernel
theorem dX5_rankOf_40 : decode cX5_rankOf 40 = .ok (.istore_n 2, 1) := by decide +kernel
theorem dX5_rankOf_41 : decode cX5_rankOf 41 = .ok (.iinc 3 1, 3) := by decide +kernel
theorem dX5_rankOf_44 : decode cX5_rankOf 44 = .ok (.goto (-40), 3) := by decide +kernel
theorem dX5_rankOf_47 : decode cX5_rankOf 47 = .ok (.iload_n 2, 1) := by decide +kernel
theorem dX5_rankOf_48 : decode cX5_rankOf 48 = .ok (.ireturn, 1) := by decide +kernel
theorem dX5_layState_0 : decode cX5_layState 0 = .ok (.iconst 0, 1) := by decide +kernel
theorem dX5_layState_1 : decode cX5_layState 1 = .ok (.istore_n 2, 1) := by decide +kernel
theorem dX5_layState_2 : decode cX5_layState 2 = .ok (.iload_n 2, 1) := by decide +kernel
theorem dX5_layState_3 : decode cX5_layState 3 = .ok (.bipush 8, 2) := by decide +kernel
theorem dX5_layState_5 : decode cX5_layState 5 = .ok (.if_icmp .ge 77, 3) := by decide +kernel
theorem dX5_layState_8 : decode cX5_layState 8 = .ok (.aload_n 0, 1) := by decide +kernel
theorem dX5_layState_9 : decode cX5_layState 9 = .ok (.getfield 57, 3) := by decide +kernel
theorem dX5_layState_12 : decode cX5_layState 12 = .ok (.bipush 18, 2) := by decide +kernel
theorem dX5_layState_14 : decode cX5_layState 14 = .ok (.iload_n 1, 1) := by decide +kernel
theorem dX5_layState_15 : decode cX5_layState 15 = .ok (.imul, 1) := by decide +kernel
theorem dX5_layState_16 : decode cX5_layState 16 = .ok (.iload_n 2, 1) := by decide +kernel
theorem dX5_layState_17 : decode cX5_layState 17 = .ok (.iadd, 1) := by decide +kernel
theorem dX5_layState_18 : decode cX5_layState 18 = .ok (.iload_n 2, 1) := by decide +kernel
theorem dX5_layState_19 : decode cX5_layState 19 = .ok (.aload_n 0, 1) := by decide +kernel
theorem dX5_layState_20 : decode cX5_layState 20 = .ok (.getfield 78, 3) := by decide +kernel
theorem dX5_layState_23 : decode cX5_layState 23 = .ok (.if_icmp .ge 12, 3) := by decide +kernel
theorem dX5_layState_26 : decode cX5_layState 26 = .ok (.aload_n 0, 1) := by decide +kernel
theorem dX5_layState_27 : decode cX5_layState 27 = .ok (.getfield 38, 3) := by decide +kernel
theorem dX5_layState_30 : decode cX5_layState 30 = .ok (.iload_n 2, 1) := by decide +kernel
theorem dX5_layState_31 : decode cX5_layState 31 = .ok (.iaload, 1) := by decide +kernel
theorem dX5_layState_32 : decode cX5_layState 32 = .ok (.goto 4, 3) := by decide +kernel
theorem dX5_layState_35 : decode cX5_layState 35 = .ok (.iconst 0, 1) := by decide +kernel
theorem dX5_layState_36 : decode cX5_layState 36 = .ok (.iastore, 1) := by decide +kernel
theorem dX5_layState_37 : decode cX5_layState 37 = .ok (.aload_n 0, 1) := by decide +kernel
theorem dX5_layState_38 : decode cX5_layState 38 = .ok (.getfield 57, 3) := by decide +kernel
theorem dX5_layState_41 : decode cX5_layState 41 = .ok (.bipush 18, 2) := by decide +kernel
theorem dX5_layState_43 : decode cX5_layState 43 = .ok (.iload_n 1, 1) := by decide +kernel
theorem dX5_layState_44 : decode cX5_layState 44 = .ok (.imul, 1) := by decide +kernel
theorem dX5_layState_45 : decode cX5_layState 45 = .ok (.bipush 9, 2) := by decide +kernel
theorem dX5_layState_47 : decode cX5_layState 47 = .ok (.iadd, 1) := by decide +kernel
theorem dX5_layState_48 : decode cX5_layState 48 = .ok (.iload_n 2, 1) := by decide +kernel
theorem dX5_layState_49 : decode cX5_layState 49 = .ok (.iadd, 1) := by decide +kernel
theorem dX5_layState_50 : decode cX5_layState 50 = .ok (.iload_n 2, 1) := by decide +kernel
theorem dX5_layState_51 : decode cX5_layState 51 = .ok (.aload_n 0, 1) := by decide +kernel
theorem dX5_layState_52 : decode cX5_layState 52 = .ok (.getfield 78, 3) := by decide +kernel
theorem dX5_layState_55 : decode cX5_layState 55 = .ok (.if_icmp .ge 19, 3) := by decide +kernel
theorem dX5_layState_58 : decode cX5_layState 58 = .ok (.aload_n 0, 1) := by decide +kernel
theorem dX5_layState_59 : decode cX5_layState 59 = .ok (.getfield 91, 3) := by decide +kernel
theorem dX5_layState_62 : decode cX5_layState 62 = .ok (.iconst 2, 1) := by decide +kernel
theorem dX5_layState_63 : decode cX5_layState 63 = .ok (.if_icmp .ne 11, 3) := by decide +kernel
theorem dX5_layState_66 : decode cX5_layState 66 = .ok (.aload_n 0, 1) := by decide +kernel
theorem dX5_layState_67 : decode cX5_layState 67 = .ok (.iload_n 2, 1) := by decide +kernel
theorem dX5_layState_68 : decode cX5_layState 68 = .ok (.invokevirtual 272, 3) := by decide +kernel
theorem dX5_layState_71 : decode cX5_layState 71 = .ok (.goto 4, 3) := by decide +kernel
theorem dX5_layState_74 : decode cX5_layState 74 = .ok (.iconst 0, 1) := by decide +kernel
theorem dX5_layState_75 : decode cX5_layState 75 = .ok (.iastore, 1) := by decide +kernel
theorem dX5_layState_76 : decode cX5_layState 76 = .ok (.iinc 2 1, 3) := by decide +kernel
theorem dX5_layState_79 : decode cX5_layState 79 = .ok (.goto (-77), 3) := by decide +kernel
theorem dX5_layState_82 : decode cX5_layState 82 = .ok (.aload_n 0, 1) := by decide +kernel
theorem dX5_layState_83 : decode cX5_layState 83 = .ok (.getfield 57, 3) := by decide +kernel
theorem dX5_layState_86 : decode cX5_layState 86 = .ok (.bipush 18, 2) := by decide +kernel
theorem dX5_layState_88 : decode cX5_layState 88 = .ok (.iload_n 1, 1) := by decide +kernel
theorem dX5_layState_89 : decode cX5_layState 89 = .ok (.imul, 1) := by decide +kernel
theorem dX5_layState_90 : decode cX5_layState 90 = .ok (.bipush 8, 2) := by decide +kernel
theorem dX5_layState_92 : decode cX5_layState 92 = .ok (.iadd, 1) := by decide +kernel
theorem dX5_layState_93 : decode cX5_layState 93 = .ok (.aload_n 0, 1) := by decide +kernel
theorem dX5_layState_94 : decode cX5_layState 94 = .ok (.getfield 91, 3) := by decide +kernel
theorem dX5_layState_97 : decode cX5_layState 97 = .ok (.iconst 1, 1) := by decide +kernel
theorem dX5_layState_98 : decode cX5_layState 98 = .ok (.if_icmp .ne 13, 3) := by decide +kernel
theorem dX5_layState_101 : decode cX5_layState 101 = .ok (.aload_n 0, 1) := by decide +kernel
theorem dX5_layState_102 : decode cX5_layState 102 = .ok (.getfield 38, 3) := by decide +kernel
theorem dX5_layState_105 : decode cX5_layState 105 = .ok (.bipush 17, 2) := by decide +kernel
theorem dX5_layState_107 : decode cX5_layState 107 = .ok (.iaload, 1) := by decide +kernel
theorem dX5_layState_108 : decode cX5_layState 108 = .ok (.goto 4, 3) := by decide +kernel
theorem dX5_layState_111 : decode cX5_layState 111 = .ok (.iconst 0, 1) := by decide +kernel
theorem dX5_layState_112 : decode cX5_layState 112 = .ok (.iastore, 1) := by decide +kernel
theorem dX5_layState_113 : decode cX5_layState 113 = .ok (.aload_n 0, 1) := by decide +kernel
theorem dX5_layState_114 : decode cX5_layState 114 = .ok (.getfield 57, 3) := by decide +kernel
theorem dX5_layState_117 : decode cX5_layState 117 = .ok (.bipush 18, 2) := by decide +kernel
theorem dX5_layState_119 : decode cX5_layState 119 = .ok (.iload_n 1, 1) := by decide +kernel
theorem dX5_layState_120 : decode cX5_layState 120 = .ok (.imul, 1) := by decide +kernel
theorem dX5_layState_121 : decode cX5_layState 121 = .ok (.bipush 17, 2) := by decide +kernel
theorem dX5_layState_123 : decode cX5_layState 123 = .ok (.iadd, 1) := by decide +kernel
theorem dX5_layState_124 : decode cX5_layState 124 = .ok (.aload_n 0, 1) := by decide +kernel
theorem dX5_layState_125 : decode cX5_layState 125 = .ok (.getfield 91, 3) := by decide +kernel
theorem dX5_layState_128 : decode cX5_layState 128 = .ok (.iconst 3, 1) := by decide +kernel
theorem dX5_layState_129 : decode cX5_layState 129 = .ok (.if_icmp .ne 13, 3) := by decide +kernel
theorem dX5_layState_132 : decode cX5_layState 132 = .ok (.aload_n 0, 1) := by decide +kernel
theorem dX5_layState_133 : decode cX5_layState 133 = .ok (.getfield 38, 3) := by decide +kernel
theorem dX5_layState_136 : decode cX5_layState 136 = .ok (.bipush 18, 2) := by decide +kernel
theorem dX5_layState_138 : decode cX5_layState 138 = .ok (.iaload, 1) := by decide +kernel
theorem dX5_layState_139 : decode cX5_layState 139 = .ok (.goto 4, 3) := by decide +kernel
theorem dX5_layState_142 : decode cX5_layState 142 = .ok (.iconst 0, 1) := by decide +kernel
theorem dX5_layState_143 : decode cX5_layState 143 = .ok (.iastore, 1) := by decide +kernel
theorem dX5_layState_144 : decode cX5_layState 144 = .ok (.return_, 1) := by decide +kernel
theorem dX5_isLike_0 : decode cX5_isLike 0 = .ok (.iconst 1, 1) := by decide +kernel
theorem dX5_isLike_1 : decode cX5_isLike 1 = .ok (.istore_n 3, 1) := by decide +kernel
theorem dX5_isLike_2 : decode cX5_isLike 2 = .ok (.iconst 0, 1) := by decide +kernel
theorem dX5_isLike_3 : decode cX5_isLike 3 = .ok (.istore 4, 2) := by decide +kernel
theorem dX5_isLike_5 : decode cX5_isLike 5 = .ok (.iload 4, 2) := by decide +kernel
theorem dX5_isLike_7 : decode cX5_isLike 7 = .ok (.bipush 18, 2) := by decide +kernel
theorem dX5_isLike_9 : decode cX5_isLike 9 = .ok (.if_icmp .ge 46, 3) := by decide +kernel
theorem dX5_isLike_12 : decode cX5_isLike 12 = .ok (.iload_n 3, 1) := by decide +kernel
theorem dX5_isLike_13 : decode cX5_isLike 13 = .ok (.ifCond .eq 42, 3) := by decide +kernel
theorem dX5_isLike_16 : decode cX5_isLike 16 = .ok (.aload_n 0, 1) := by decide +kernel
theorem dX5_isLike_17 : decode cX5_isLike 17 = .ok (.getfield 57, 3) := by decide +kernel
theorem dX5_isLike_20 : decode cX5_isLike 20 = .ok (.bipush 18, 2) := by decide +kernel
theorem dX5_isLike_22 : decode cX5_isLike 22 = .ok (.iload_n 1, 1) := by decide +kernel
theorem dX5_isLike_23 : decode cX5_isLike 23 = .ok (.imul, 1) := by decide +kernel
theorem dX5_isLike_24 : decode cX5_isLike 24 = .ok (.iload 4, 2) := by decide +kernel
theorem dX5_isLike_26 : decode cX5_isLike 26 = .ok (.iadd, 1) := by decide +kernel
theorem dX5_isLike_27 : decode cX5_isLike 27 = .ok (.iaload, 1) := by decide +kernel
theorem dX5_isLike_28 : decode cX5_isLike 28 = .ok (.aload_n 0, 1) := by decide +kernel
theorem dX5_isLike_29 : decode cX5_isLike 29 = .ok (.getfield 57, 3) := by decide +kernel
theorem dX5_isLike_32 : decode cX5_isLike 32 = .ok (.bipush 18, 2) := by decide +kernel
theorem dX5_isLike_34 : decode cX5_isLike 34 = .ok (.iload_n 2, 1) := by decide +kernel
theorem dX5_isLike_35 : decode cX5_isLike 35 = .ok (.imul, 1) := by decide +kernel
theorem dX5_isLike_36 : decode cX5_isLike 36 = .ok (.iload 4, 2) := by decide +kernel
theorem dX5_isLike_38 : decode cX5_isLike 38 = .ok (.iadd, 1) := by decide +kernel
theorem dX5_isLike_39 : decode cX5_isLike 39 = .ok (.iaload, 1) := by decide +kernel
theorem dX5_isLike_40 : decode cX5_isLike 40 = .ok (.if_icmp .ne 7, 3) := by decide +kernel
theorem dX5_isLike_43 : decode cX5_isLike 43 = .ok (.iconst 1, 1) := by decide +kernel
theorem dX5_isLike_44 : decode cX5_isLike 44 = .ok (.goto 4, 3) := by decide +kernel
theorem dX5_isLike_47 : decode cX5_isLike 47 = .ok (.iconst 0, 1) := by decide +kernel
theorem dX5_isLike_48 : decode cX5_isLike 48 = .ok (.istore_n 3, 1) := by decide +kernel
theorem dX5_isLike_49 : decode cX5_isLike 49 = .ok (.iinc 4 1, 3) := by decide +kernel
theorem dX5_isLike_52 : decode cX5_isLike 52 = .ok (.goto (-47), 3) := by decide +kernel
theorem dX5_isLike_55 : decode cX5_isLike 55 = .ok (.iload_n 3, 1) := by decide +kernel
theorem dX5_isLike_56 : decode cX5_isLike 56 = .ok (.ireturn, 1) := by decide +kernel
theorem dX5_roundOf_0 : decode cX5_roundOf 0 = .ok (.aload_n 0, 1) := by decide +kernel
theorem dX5_roundOf_1 : decode cX5_roundOf 1 = .ok (.invokevirtual 266, 3) := by decide +kernel
theorem dX5_roundOf_4 : decode cX5_roundOf 4 = .ok (.iconst (-1), 1) := by decide +kernel
theorem dX5_roundOf_5 : decode cX5_roundOf 5 = .ok (.istore_n 1, 1) := by decide +kernel
theorem dX5_roundOf_6 : decode cX5_roundOf 6 = .ok (.iconst 0, 1) := by decide +kernel
theorem dX5_roundOf_7 : decode cX5_roundOf 7 = .ok (.istore_n 2, 1) := by decide +kernel
theorem dX5_roundOf_8 : decode cX5_roundOf 8 = .ok (.iload_n 2, 1) := by decide +kernel
theorem dX5_roundOf_9 : decode cX5_roundOf 9 = .ok (.sipush 500, 3) := by decide +kernel
theorem dX5_roundOf_12 : decode cX5_roundOf 12 = .ok (.if_icmp .gt 64, 3) := by decide +kernel
theorem dX5_roundOf_15 : decode cX5_roundOf 15 = .ok (.iload_n 1, 1) := by decide +kernel
theorem dX5_roundOf_16 : decode cX5_roundOf 16 = .ok (.iconst (-1), 1) := by decide +kernel
theorem dX5_roundOf_17 : decode cX5_roundOf 17 = .ok (.if_icmp .ne 59, 3) := by decide +kernel
theorem dX5_roundOf_20 : decode cX5_roundOf 20 = .ok (.aload_n 0, 1) := by decide +kernel
theorem dX5_roundOf_21 : decode cX5_roundOf 21 = .ok (.iload_n 2, 1) := by decide +kernel
theorem dX5_roundOf_22 : decode cX5_roundOf 22 = .ok (.invokevirtual 276, 3) := by decide +kernel
theorem dX5_roundOf_25 : decode cX5_roundOf 25 = .ok (.iconst 0, 1) := by decide +kernel
theorem dX5_roundOf_26 : decode cX5_roundOf 26 = .ok (.istore_n 3, 1) := by decide +kernel
theorem dX5_roundOf_27 : decode cX5_roundOf 27 = .ok (.iload_n 3, 1) := by decide +kernel
theorem dX5_roundOf_28 : decode cX5_roundOf 28 = .ok (.iload_n 2, 1) := by decide +kernel
theorem dX5_roundOf_29 : decode cX5_roundOf 29 = .ok (.if_icmp .ge 37, 3) := by decide +kernel
theorem dX5_roundOf_32 : decode cX5_roundOf 32 = .ok (.iload_n 1, 1) := by decide +kernel
theorem dX5_roundOf_33 : decode cX5_roundOf 33 = .ok (.iconst (-1), 1) := by decide +kernel
theorem dX5_roundOf_34 : decode cX5_roundOf 34 = .ok (.if_icmp .ne 32, 3) := by decide +kernel
theorem dX5_roundOf_37 : decode cX5_roundOf 37 = .ok (.aload_n 0, 1) := by decide +kernel
theorem dX5_roundOf_38 : decode cX5_roundOf 38 = .ok (.iload_n 3, 1) := by decide +kernel
theorem dX5_roundOf_39 : decode cX5_roundOf 39 = .ok (.iload_n 2, 1) := by decide +kernel
theorem dX5_roundOf_40 : decode cX5_roundOf 40 = .ok (.invokevirtual 279, 3) := by decide +kernel
theorem dX5_roundOf_43 : decode cX5_roundOf 43 = .ok (.ifCond .eq 15, 3) := by decide +kernel
theorem dX5_roundOf_46 : decode cX5_roundOf 46 = .ok (.sipush 501, 3) := by decide +kernel
theorem dX5_roundOf_49 : decode cX5_roundOf 49 = .ok (.iload_n 3, 1) := by decide +kernel
theorem dX5_roundOf_50 : decode cX5_roundOf 50 = .ok (.imul, 1) := by decide +kernel
theorem dX5_roundOf_51 : decode cX5_roundOf 51 = .ok (.iload_n 2, 1) := by decide +kernel
theorem dX5_roundOf_52 : decode cX5_roundOf 52 = .ok (.iadd, 1) := by decide +kernel
theorem dX5_roundOf_53 : decode cX5_roundOf 53 = .ok (.iload_n 3, 1) := by decide +kernel
theorem dX5_roundOf_54 : decode cX5_roundOf 54 = .ok (.isub, 1) := by decide +kernel
theorem dX5_roundOf_55 : decode cX5_roundOf 55 = .ok (.goto 4, 3) := by decide +kernel
theorem dX5_roundOf_58 : decode cX5_roundOf 58 = .ok (.iconst (-1), 1) := by decide +kernel
theorem dX5_roundOf_59 : decode cX5_roundOf 59 = .ok (.istore_n 1, 1) := by decide +kernel
theorem dX5_roundOf_60 : decode cX5_roundOf 60 = .ok (.iinc 3 1, 3) := by decide +kernel
theorem dX5_roundOf_63 : decode cX5_roundOf 63 = .ok (.goto (-36), 3) := by decide +kernel
theorem dX5_roundOf_66 : decode cX5_roundOf 66 = .ok (.aload_n 0, 1) := by decide +kernel
theorem dX5_roundOf_67 : decode cX5_roundOf 67 = .ok (.invokevirtual 259, 3) := by decide +kernel
theorem dX5_roundOf_70 : decode cX5_roundOf 70 = .ok (.iinc 2 1, 3) := by decide +kernel
theorem dX5_roundOf_73 : decode cX5_roundOf 73 = .ok (.goto (-65), 3) := by decide +kernel
theorem dX5_roundOf_76 : decode cX5_roundOf 76 = .ok (.aload_n 0, 1) := by decide +kernel
theorem dX5_roundOf_77 : decode cX5_roundOf 77 = .ok (.invokevirtual 269, 3) := by decide +kernel
theorem dX5_roundOf_80 : decode cX5_roundOf 80 = .ok (.iload_n 1, 1) := by decide +kernel
theorem dX5_roundOf_81 : decode cX5_roundOf 81 = .ok (.ireturn, 1) := by decide +kernel
theorem dX5_round_0 : decode cX5_round 0 = .ok (.iload_n 1, 1) := by decide +kernel
theorem dX5_round_1 : decode cX5_round 1 = .ok (.iconst 0, 1) := by decide +kernel
theorem dX5_round_2 : decode cX5_round 2 = .ok (.iconst 1, 1) := by decide +kernel
theorem dX5_round_3 : decode cX5_round 3 = .ok (.invokestatic 81, 3) := by decide +kernel
theorem dX5_round_6 : decode cX5_round 6 = .ok (.ifCond .ne 6, 3) := by decide +kernel
theorem dX5_round_9 : decode cX5_round 9 = .ok (.bipush (-3), 2) := by decide +kernel
theorem dX5_round_11 : decode cX5_round 11 = .ok (.ireturn, 1) := by decide +kernel
theorem dX5_round_12 : decode cX5_round 12 = .ok (.aload_n 0, 1) := by decide +kernel
theorem dX5_round_13 : decode cX5_round 13 = .ok (.invokevirtual 282, 3) := by decide +kernel
theorem dX5_round_16 : decode cX5_round 16 = .ok (.istore_n 2, 1) := by decide +kernel
theorem dX5_round_17 : decode cX5_round 17 = .ok (.iload_n 2, 1) := by decide +kernel
theorem dX5_round_18 : decode cX5_round 18 = .ok (.iconst (-1), 1) := by decide +kernel
theorem dX5_round_19 : decode cX5_round 19 = .ok (.if_icmp .ne 7, 3) := by decide +kernel
theorem dX5_round_22 : decode cX5_round 22 = .ok (.iconst (-1), 1) := by decide +kernel
theorem dX5_round_23 : decode cX5_round 23 = .ok (.goto 20, 3) := by decide +kernel
theorem dX5_round_26 : decode cX5_round 26 = .ok (.iload_n 1, 1) := by decide +kernel
theorem dX5_round_27 : decode cX5_round 27 = .ok (.ifCond .ne 11, 3) := by decide +kernel
theorem dX5_round_30 : decode cX5_round 30 = .ok (.iload_n 2, 1) := by decide +kernel
theorem dX5_round_31 : decode cX5_round 31 = .ok (.sipush 501, 3) := by decide +kernel
theorem dX5_round_34 : decode cX5_round 34 = .ok (.idiv, 1) := by decide +kernel
theorem dX5_round_35 : decode cX5_round 35 = .ok (.goto 8, 3) := by decide +kernel
theorem dX5_round_38 : decode cX5_round 38 = .ok (.iload_n 2, 1) := by decide +kernel
theorem dX5_round_39 : decode cX5_round 39 = .ok (.sipush 501, 3) := by decide +kernel
theorem dX5_round_42 : decode cX5_round 42 = .ok (.irem, 1) := by decide +kernel
theorem dX5_round_43 : decode cX5_round 43 = .ok (.ireturn, 1) := by decide +kernel
theorem dX5_areBeside_0 : decode cX5_areBeside 0 = .ok (.iconst 0, 1) := by decide +kernel
theorem dX5_areBeside_1 : decode cX5_areBeside 1 = .ok (.istore_n 3, 1) := by decide +kernel
theorem dX5_areBeside_2 : decode cX5_areBeside 2 = .ok (.iconst 0, 1) := by decide +kernel
theorem dX5_areBeside_3 : decode cX5_areBeside 3 = .ok (.istore 4, 2) := by decide +kernel
theorem dX5_areBeside_5 : decode cX5_areBeside 5 = .ok (.iload 4, 2) := by decide +kernel
theorem dX5_areBeside_7 : decode cX5_areBeside 7 = .ok (.aload_n 0, 1) := by decide +kernel
theorem dX5_areBeside_8 : decode cX5_areBeside 8 = .ok (.getfield 7, 3) := by decide +kernel
theorem dX5_areBeside_11 : decode cX5_areBeside 11 = .ok (.if_icmp .ge 59, 3) := by decide +kernel
theorem dX5_areBeside_14 : decode cX5_areBeside 14 = .ok (.iload_n 3, 1) := by decide +kernel
theorem dX5_areBeside_15 : decode cX5_areBeside 15 = .ok (.ifCond .ne 43, 3) := by decide +kernel
theorem dX5_areBeside_18 : decode cX5_areBeside 18 = .ok (.aload_n 0, 1) := by decide +kernel
theorem dX5_areBeside_19 : decode cX5_areBeside 19 = .ok (.iload_n 1, 1) := by decide +kernel
theorem dX5_areBeside_20 : decode cX5_areBeside 20 = .ok (.iload 4, 2) := by decide +kernel
theorem dX5_areBeside_22 : decode cX5_areBeside 22 = .ok (.invokevirtual 222, 3) := by decide +kernel
theorem dX5_areBeside_25 : decode cX5_areBeside 25 = .ok (.ifCond .eq 37, 3) := by decide +kernel
theorem dX5_areBeside_28 : decode cX5_areBeside 28 = .ok (.aload_n 0, 1) := by decide +kernel
theorem dX5_areBeside_29 : decode cX5_areBeside 29 = .ok (.iload_n 2, 1) := by decide +kernel
theorem dX5_areBeside_30 : decode cX5_areBeside 30 = .ok (.aload_n 0, 1) := by decide +kernel
theorem dX5_areBeside_31 : decode cX5_areBeside 31 = .ok (.iload 4, 2) := by decide +kernel
theorem dX5_areBeside_33 : decode cX5_areBeside 33 = .ok (.iconst 1, 1) := by decide +kernel
theorem dX5_areBeside_34 : decode cX5_areBeside 34 = .ok (.invokevirtual 215, 3) := by decide +kernel
theorem dX5_areBeside_37 : decode cX5_areBeside 37 = .ok (.invokevirtual 222, 3) := by decide +kernel
theorem dX5_areBeside_40 : decode cX5_areBeside 40 = .ok (.ifCond .ne 18, 3) := by decide +kernel
theorem dX5_areBeside_43 : decode cX5_areBeside 43 = .ok (.aload_n 0, 1) := by decide +kernel
theorem dX5_areBeside_44 : decode cX5_areBeside 44 = .ok (.iload_n 2, 1) := by decide +kernel
theorem dX5_areBeside_45 : decode cX5_areBeside 45 = .ok (.aload_n 0, 1) := by decide +kernel
theorem dX5_areBeside_46 : decode cX5_areBeside 46 = .ok (.iload 4, 2) := by decide +kernel
theorem dX5_areBeside_48 : decode cX5_areBeside 48 = .ok (.iconst (-1), 1) := by decide +kernel
theorem dX5_areBeside_49 : decode cX5_areBeside 49 = .ok (.invokevirtual 215, 3) := by decide +kernel
theorem dX5_areBeside_52 : decode cX5_areBeside 52 = .ok (.invokevirtual 222, 3) := by decide +kernel
theorem dX5_areBeside_55 : decode cX5_areBeside 55 = .ok (.ifCond .eq 7, 3) := by decide +kernel
theorem dX5_areBeside_58 : decode cX5_areBeside 58 = .ok (.iconst 1, 1) := by decide +kernel
theorem dX5_areBeside_59 : decode cX5_areBeside 59 = .ok (.goto 4, 3) := by decide +kernel
theorem dX5_areBeside_62 : decode cX5_areBeside 62 = .ok (.iconst 0, 1) := by decide +kernel
theorem dX5_areBeside_63 : decode cX5_areBeside 63 = .ok (.istore_n 3, 1) := by decide +kernel
theorem dX5_areBeside_64 : decode cX5_areBeside 64 = .ok (.iinc 4 1, 3) := by decide +kernel
theorem dX5_areBeside_67 : decode cX5_areBeside 67 = .ok (.goto (-62), 3) := by decide +kernel
theorem dX5_areBeside_70 : decode cX5_areBeside 70 = .ok (.iload_n 3, 1) := by decide +kernel
theorem dX5_areBeside_71 : decode cX5_areBeside 71 = .ok (.ireturn, 1) := by decide +kernel
theorem dX5_doTouch_0 : decode cX5_doTouch 0 = .ok (.iload_n 3, 1) := by decide +kernel
theorem dX5_doTouch_1 : decode cX5_doTouch 1 = .ok (.ifCond .ne 10, 3) := by decide +kernel
theorem dX5_doTouch_4 : decode cX5_doTouch 4 = .ok (.aload_n 0, 1) := by decide +kernel
theorem dX5_doTouch_5 : decode cX5_doTouch 5 = .ok (.iload_n 1, 1) := by decide +kernel
theorem dX5_doTouch_6 : decode cX5_doTouch 6 = .ok (.iload_n 2, 1) := by decide +kernel
theorem dX5_doTouch_7 : decode cX5_doTouch 7 = .ok (.invokevirtual 285, 3) := by decide +kernel
theorem dX5_doTouch_10 : decode cX5_doTouch 10 = .ok (.ireturn, 1) := by decide +kernel
theorem dX5_doTouch_11 : decode cX5_doTouch 11 = .ok (.aload_n 0, 1) := by decide +kernel
theorem dX5_doTouch_12 : decode cX5_doTouch 12 = .ok (.getfield 7, 3) := by decide +kernel
theorem dX5_doTouch_15 : decode cX5_doTouch 15 = .ok (.iconst 2, 1) := by decide +kernel
theorem dX5_doTouch_16 : decode cX5_doTouch 16 = .ok (.irem, 1) := by decide +kernel
theorem dX5_doTouch_17 : decode cX5_doTouch 17 = .ok (.ifCond .ne 32, 3) := by decide +kernel
theorem dX5_doTouch_20 : decode cX5_doTouch 20 = .ok (.aload_n 0, 1) := by decide +kernel
theorem dX5_doTouch_21 : decode cX5_doTouch 21 = .ok (.aload_n 0, 1) := by decide +kernel
theorem dX5_doTouch_22 : decode cX5_doTouch 22 = .ok (.getfield 38, 3) := by decide +kernel
theorem dX5_doTouch_25 : decode cX5_doTouch 25 = .ok (.iload_n 1, 1) := by decide +kernel
theorem dX5_doTouch_26 : decode cX5_doTouch 26 = .ok (.iaload, 1) := by decide +kernel
theorem dX5_doTouch_27 : decode cX5_doTouch 27 = .ok (.aload_n 0, 1) := by decide +kernel
theorem dX5_doTouch_28 : decode cX5_doTouch 28 = .ok (.getfield 7, 3) := by decide +kernel
theorem dX5_doTouch_31 : decode cX5_doTouch 31 = .ok (.iconst 2, 1) := by decide +kernel
theorem dX5_doTouch_32 : decode cX5_doTouch 32 = .ok (.idiv, 1) := by decide +kernel
theorem dX5_doTouch_33 : decode cX5_doTouch 33 = .ok (.invokevirtual 215, 3) := by decide +kernel
theorem dX5_doTouch_36 : decode cX5_doTouch 36 = .ok (.aload_n 0, 1) := by decide +kernel
theorem dX5_doTouch_37 : decode cX5_doTouch 37 = .ok (.getfield 38, 3) := by decide +kernel
theorem dX5_doTouch_40 : decode cX5_doTouch 40 = .ok (.iload_n 2, 1) := by decide +kernel
theorem dX5_doTouch_41 : decode cX5_doTouch 41 = .ok (.iaload, 1) := by decide +kernel
theorem dX5_doTouch_42 : decode cX5_doTouch 42 = .ok (.if_icmp .ne 7, 3) := by decide +kernel
theorem dX5_doTouch_45 : decode cX5_doTouch 45 = .ok (.iconst 1, 1) := by decide +kernel
theorem dX5_doTouch_46 : decode cX5_doTouch 46 = .ok (.goto 4, 3) := by decide +kernel
theorem dX5_doTouch_49 : decode cX5_doTouch 49 = .ok (.iconst 0, 1) := by decide +kernel
theorem dX5_doTouch_50 : decode cX5_doTouch 50 = .ok (.ireturn, 1) := by decide +kernel
theorem dX5_whyNot_0 : decode cX5_whyNot 0 = .ok (.aload_n 0, 1) := by decide +kernel
theorem dX5_whyNot_1 : decode cX5_whyNot 1 = .ok (.iload_n 1, 1) := by decide +kernel
theorem dX5_whyNot_2 : decode cX5_whyNot 2 = .ok (.invokevirtual 239, 3) := by decide +kernel
theorem dX5_whyNot_5 : decode cX5_whyNot 5 = .ok (.ifCond .eq 11, 3) := by decide +kernel
theorem dX5_whyNot_8 : decode cX5_whyNot 8 = .ok (.aload_n 0, 1) := by decide +kernel
theorem dX5_whyNot_9 : decode cX5_whyNot 9 = .ok (.iload_n 2, 1) := by decide +kernel
theorem dX5_whyNot_10 : decode cX5_whyNot 10 = .ok (.invokevirtual 239, 3) := by decide +kernel
theorem dX5_whyNot_13 : decode cX5_whyNot 13 = .ok (.ifCond .ne 8, 3) := by decide +kernel
theorem dX5_whyNot_16 : decode cX5_whyNot 16 = .ok (.bipush (-2), 2) := by decide +kernel
theorem dX5_whyNot_18 : decode cX5_whyNot 18 = .ok (.goto 18, 3) := by decide +kernel
theorem dX5_whyNot_21 : decode cX5_whyNot 21 = .ok (.iload_n 1, 1) := by decide +kernel
theorem dX5_whyNot_22 : decode cX5_whyNot 22 = .ok (.iload_n 2, 1) := by decide +kernel
theorem dX5_whyNot_23 : decode cX5_whyNot 23 = .ok (.if_icmp .eq 7, 3) := by decide +kernel
theorem dX5_whyNot_26 : decode cX5_whyNot 26 = .ok (.iload_n 3, 1) := by decide +kernel
theorem dX5_whyNot_27 : decode cX5_whyNot 27 = .ok (.ifCond .ne 8, 3) := by decide +kernel
theorem dX5_whyNot_30 : decode cX5_whyNot 30 = .ok (.bipush (-3), 2) := by decide +kernel
theorem dX5_whyNot_32 : decode cX5_whyNot 32 = .ok (.goto 4, 3) := by decide +kernel
theorem dX5_whyNot_35 : decode cX5_whyNot 35 = .ok (.iconst 0, 1) := by decide +kernel
theorem dX5_whyNot_36 : decode cX5_whyNot 36 = .ok (.ireturn, 1) := by decide +kernel
theorem dX5_touch_0 : decode cX5_touch 0 = .ok (.aload_n 0, 1) := by decide +kernel
theorem dX5_touch_1 : decode cX5_touch 1 = .ok (.iload_n 1, 1) := by decide +kernel
theorem dX5_touch_2 : decode cX5_touch 2 = .ok (.iload_n 2, 1) := by decide +kernel
theorem dX5_touch_3 : decode cX5_touch 3 = .ok (.iload_n 3, 1) := by decide +kernel
theorem dX5_touch_4 : decode cX5_touch 4 = .ok (.iconst 0, 1) := by decide +kernel
theorem dX5_touch_5 : decode cX5_touch 5 = .ok (.iconst 1, 1) := by decide +kernel
theorem dX5_touch_6 : decode cX5_touch 6 = .ok (.invokestatic 81, 3) := by decide +kernel
theorem dX5_touch_9 : decode cX5_touch 9 = .ok (.invokevirtual 288, 3) := by decide +kernel
theorem dX5_touch_12 : decode cX5_touch 12 = .ok (.istore 4, 2) := by decide +kernel
theorem dX5_touch_14 : decode cX5_touch 14 = .ok (.iload 4, 2) := by decide +kernel
theorem dX5_touch_16 : decode cX5_touch 16 = .ok (.ifCond .eq 8, 3) := by decide +kernel
theorem dX5_touch_19 : decode cX5_touch 19 = .ok (.iload 4, 2) := by decide +kernel
theorem dX5_touch_21 : decode cX5_touch 21 = .ok (.goto 18, 3) := by decide +kernel
theorem dX5_touch_24 : decode cX5_touch 24 = .ok (.aload_n 0, 1) := by decide +kernel
theorem dX5_touch_25 : decode cX5_touch 25 = .ok (.iload_n 1, 1) := by decide +kernel
theorem dX5_touch_26 : decode cX5_touch 26 = .ok (.iload_n 2, 1) := by decide +kernel
theorem dX5_touch_27 : decode cX5_touch 27 = .ok (.iload_n 3, 1) := by decide +kernel
theorem dX5_touch_28 : decode cX5_touch 28 = .ok (.invokevirtual 292, 3) := by decide +kernel
theorem dX5_touch_31 : decode cX5_touch 31 = .ok (.ifCond .eq 7, 3) := by decide +kernel
theorem dX5_touch_34 : decode cX5_touch 34 = .ok (.iconst 1, 1) := by decide +kernel
theorem dX5_touch_35 : decode cX5_touch 35 = .ok (.goto 4, 3) := by decide +kernel
theorem dX5_touch_38 : decode cX5_touch 38 = .ok (.iconst 0, 1) := by decide +kernel
theorem dX5_touch_39 : decode cX5_touch 39 = .ok (.ireturn, 1) := by decide +kernel
theorem dX5_when_0 : decode cX5_when 0 = .ok (.aload_n 0, 1) := by decide +kernel
theorem dX5_when_1 : decode cX5_when 1 = .ok (.iload_n 1, 1) := by decide +kernel
theorem dX5_when_2 : decode cX5_when 2 = .ok (.iload_n 2, 1) := by decide +kernel
theorem dX5_when_3 : decode cX5_when 3 = .ok (.iload_n 3, 1) := by decide +kernel
theorem dX5_when_4 : decode cX5_when 4 = .ok (.iconst 0, 1) := by decide +kernel
theorem dX5_when_5 : decode cX5_when 5 = .ok (.iconst 1, 1) := by decide +kernel
theorem dX5_when_6 : decode cX5_when 6 = .ok (.invokestatic 81, 3) := by decide +kernel
theorem dX5_when_9 : decode cX5_when 9 = .ok (.invokevirtual 288, 3) := by decide +kernel
theorem dX5_when_12 : decode cX5_when 12 = .ok (.istore 4, 2) := by decide +kernel
theorem dX5_when_14 : decode cX5_when 14 = .ok (.iload 4, 2) := by decide +kernel
theorem dX5_when_16 : decode cX5_when 16 = .ok (.ifCond .eq 6, 3) := by decide +kernel
theorem dX5_when_19 : decode cX5_when 19 = .ok (.iload 4, 2) := by decide +kernel
theorem dX5_when_21 : decode cX5_when 21 = .ok (.ireturn, 1) := by decide +kernel
theorem dX5_when_22 : decode cX5_when 22 = .ok (.aload_n 0, 1) := by decide +kernel
theorem dX5_when_23 : decode cX5_when 23 = .ok (.invokevirtual 266, 3) := by decide +kernel
theorem dX5_when_26 : decode cX5_when 26 = .ok (.iconst (-1), 1) := by decide +kernel
theorem dX5_when_27 : decode cX5_when 27 = .ok (.istore 5, 2) := by decide +kernel
theorem dX5_when_29 : decode cX5_when 29 = .ok (.iconst 0, 1) := by decide +kernel
theorem dX5_when_30 : decode cX5_when 30 = .ok (.istore 6, 2) := by decide +kernel
theorem dX5_when_32 : decode cX5_when 32 = .ok (.iload 6, 2) := by decide +kernel
theorem dX5_when_34 : decode cX5_when 34 = .ok (.sipush 400, 3) := by decide +kernel
theorem dX5_when_37 : decode cX5_when 37 = .ok (.if_icmp .ge 37, 3) := by decide +kernel
theorem dX5_when_40 : decode cX5_when 40 = .ok (.iload 5, 2) := by decide +kernel
theorem dX5_when_42 : decode cX5_when 42 = .ok (.iconst (-1), 1) := by decide +kernel
theorem dX5_when_43 : decode cX5_when 43 = .ok (.if_icmp .ne 31, 3) := by decide +kernel
theorem dX5_when_46 : decode cX5_when 46 = .ok (.aload_n 0, 1) := by decide +kernel
theorem dX5_when_47 : decode cX5_when 47 = .ok (.iload_n 1, 1) := by decide +kernel
theorem dX5_when_48 : decode cX5_when 48 = .ok (.iload_n 2, 1) := by decide +kernel
theorem dX5_when_49 : decode cX5_when 49 = .ok (.iload_n 3, 1) := by decide +kernel
theorem dX5_when_50 : decode cX5_when 50 = .ok (.invokevirtual 292, 3) := by decide +kernel
theorem dX5_when_53 : decode cX5_when 53 = .ok (.ifCond .eq 8, 3) := by decide +kernel
theorem dX5_when_56 : decode cX5_when 56 = .ok (.iload 6, 2) := by decide +kernel
theorem dX5_when_58 : decode cX5_when 58 = .ok (.goto 4, 3) := by decide +kernel
theorem dX5_when_61 : decode cX5_when 61 = .ok (.iconst (-1), 1) := by decide +kernel
theorem dX5_when_62 : decode cX5_when 62 = .ok (.istore 5, 2) := by decide +kernel
theorem dX5_when_64 : decode cX5_when 64 = .ok (.aload_n 0, 1) := by decide +kernel
theorem dX5_when_65 : decode cX5_when 65 = .ok (.invokevirtual 259, 3) := by decide +kernel
theorem dX5_when_68 : decode cX5_when 68 = .ok (.iinc 6 1, 3) := by decide +kernel
theorem dX5_when_71 : decode cX5_when 71 = .ok (.goto (-39), 3) := by decide +kernel
theorem dX5_when_74 : decode cX5_when 74 = .ok (.aload_n 0, 1) := by decide +kernel
theorem dX5_when_75 : decode cX5_when 75 = .ok (.invokevirtual 269, 3) := by decide +kernel
theorem dX5_when_78 : decode cX5_when 78 = .ok (.iload 5, 2) := by decide +kernel
theorem dX5_when_80 : decode cX5_when 80 = .ok (.ireturn, 1) := by decide +kernel
theorem dX5_areDays_0 : decode cX5_areDays 0 = .ok (.iload_n 0, 1) := by decide +kernel
theorem dX5_areDays_1 : decode cX5_areDays 1 = .ok (.iconst 1, 1) := by decide +kernel
theorem dX5_areDays_2 : decode cX5_areDays 2 = .ok (.bipush 99, 2) := by decide +kernel
theorem dX5_areDays_4 : decode cX5_areDays 4 = .ok (.invokestatic 81, 3) := by decide +kernel
theorem dX5_areDays_7 : decode cX5_areDays 7 = .ok (.ireturn, 1) := by decide +kernel
theorem dX5_often_0 : decode cX5_often 0 = .ok (.aload_n 0, 1) := by decide +kernel
theorem dX5_often_1 : decode cX5_often 1 = .ok (.iload_n 1, 1) := by decide +kernel
theorem dX5_often_2 : decode cX5_often 2 = .ok (.iload_n 2, 1) := by decide +kernel
theorem dX5_often_3 : decode cX5_often 3 = .ok (.iload_n 3, 1) := by decide +kernel
theorem dX5_often_4 : decode cX5_often 4 = .ok (.iconst 0, 1) := by decide +kernel
theorem dX5_often_5 : decode cX5_often 5 = .ok (.iconst 1, 1) := by decide +kernel
theorem dX5_often_6 : decode cX5_often 6 = .ok (.invokestatic 81, 3) := by decide +kernel
theorem dX5_often_9 : decode cX5_often 9 = .ok (.ifCond .eq 15, 3) := by decide +kernel
theorem dX5_often_12 : decode cX5_often 12 = .ok (.iload 4, 2) := by decide +kernel
theorem dX5_often_14 : decode cX5_often 14 = .ok (.invokestatic 295, 3) := by decide +kernel
theorem dX5_often_17 : decode cX5_often 17 = .ok (.ifCond .eq 7, 3) := by decide +kernel
theorem dX5_often_20 : decode cX5_often 20 = .ok (.iconst 1, 1) := by decide +kernel
theorem dX5_often_21 : decode cX5_often 21 = .ok (.goto 4, 3) := by decide +kernel
theorem dX5_often_24 : decode cX5_often 24 = .ok (.iconst 0, 1) := by decide +kernel
theorem dX5_often_25 : decode cX5_often 25 = .ok (.invokevirtual 288, 3) := by decide +kernel
theorem dX5_often_28 : decode cX5_often 28 = .ok (.istore 5, 2) := by decide +kernel
theorem dX5_often_30 : decode cX5_often 30 = .ok (.iload 5, 2) := by decide +kernel
theorem dX5_often_32 : decode cX5_often 32 = .ok (.ifCond .eq 6, 3) := by decide +kernel
theorem dX5_often_35 : decode cX5_often 35 = .ok (.iload 5, 2) := by decide +kernel
theorem dX5_often_37 : decode cX5_often 37 = .ok (.ireturn, 1) := by decide +kernel
theorem dX5_often_38 : decode cX5_often 38 = .ok (.aload_n 0, 1) := by decide +kernel
theorem dX5_often_39 : decode cX5_often 39 = .ok (.invokevirtual 266, 3) := by decide +kernel
theorem dX5_often_42 : decode cX5_often 42 = .ok (.iconst 0, 1) := by decide +kernel
theorem dX5_often_43 : decode cX5_often 43 = .ok (.istore 6, 2) := by decide +kernel
theorem dX5_often_45 : decode cX5_often 45 = .ok (.iconst 0, 1) := by decide +kernel
theorem dX5_often_46 : decode cX5_often 46 = .ok (.istore 7, 2) := by decide +kernel
theorem dX5_often_48 : decode cX5_often 48 = .ok (.iload 7, 2) := by decide +kernel
theorem dX5_often_50 : decode cX5_often 50 = .ok (.iload 4, 2) := by decide +kernel
theorem dX5_often_52 : decode cX5_often 52 = .ok (.if_icmp .ge 33, 3) := by decide +kernel
theorem dX5_often_55 : decode cX5_often 55 = .ok (.iload 6, 2) := by decide +kernel
theorem dX5_often_57 : decode cX5_often 57 = .ok (.aload_n 0, 1) := by decide +kernel
theorem dX5_often_58 : decode cX5_often 58 = .ok (.iload_n 1, 1) := by decide +kernel
theorem dX5_often_59 : decode cX5_often 59 = .ok (.iload_n 2, 1) := by decide +kernel
theorem dX5_often_60 : decode cX5_often 60 = .ok (.iload_n 3, 1) := by decide +kernel
theorem dX5_often_61 : decode cX5_often 61 = .ok (.invokevirtual 292, 3) := by decide +kernel
theorem dX5_often_64 : decode cX5_often 64 = .ok (.ifCond .eq 7, 3) := by decide +kernel
theorem dX5_often_67 : decode cX5_often 67 = .ok (.iconst 1, 1) := by decide +kernel
theorem dX5_often_68 : decode cX5_often 68 = .ok (.goto 4, 3) := by decide +kernel
theorem dX5_often_71 : decode cX5_often 71 = .ok (.iconst 0, 1) := by decide +kernel
theorem dX5_often_72 : decode cX5_often 72 = .ok (.iadd, 1) := by decide +kernel
theorem dX5_often_73 : decode cX5_often 73 = .ok (.istore 6, 2) := by decide +kernel
theorem dX5_often_75 : decode cX5_often 75 = .ok (.aload_n 0, 1) := by decide +kernel
theorem dX5_often_76 : decode cX5_often 76 = .ok (.invokevirtual 259, 3) := by decide +kernel
theorem dX5_often_79 : decode cX5_often 79 = .ok (.iinc 7 1, 3) := by decide +kernel
theorem dX5_often_82 : decode cX5_often 82 = .ok (.goto (-34), 3) := by decide +kernel
theorem dX5_often_85 : decode cX5_often 85 = .ok (.aload_n 0, 1) := by decide +kernel
theorem dX5_often_86 : decode cX5_often 86 = .ok (.invokevirtual 269, 3) := by decide +kernel
theorem dX5_often_89 : decode cX5_often 89 = .ok (.iload 6, 2) := by decide +kernel
theorem dX5_often_91 : decode cX5_often 91 = .ok (.ireturn, 1) := by decide +kernel
theorem dX5_brings_0 : decode cX5_brings 0 = .ok (.aload_n 0, 1) := by decide +kernel
theorem dX5_brings_1 : decode cX5_brings 1 = .ok (.iload_n 1, 1) := by decide +kernel
theorem dX5_brings_2 : decode cX5_brings 2 = .ok (.invokevirtual 239, 3) := by decide +kernel
theorem dX5_brings_5 : decode cX5_brings 5 = .ok (.ifCond .ne 6, 3) := by decide +kernel
theorem dX5_brings_8 : decode cX5_brings 8 = .ok (.bipush (-2), 2) := by decide +kernel
theorem dX5_brings_10 : decode cX5_brings 10 = .ok (.ireturn, 1) := by decide +kernel
theorem dX5_brings_11 : decode cX5_brings 11 = .ok (.iload_n 2, 1) := by decide +kernel
theorem dX5_brings_12 : decode cX5_brings 12 = .ok (.invokestatic 295, 3) := by decide +kernel
theorem dX5_brings_15 : decode cX5_brings 15 = .ok (.ifCond .ne 6, 3) := by decide +kernel
theorem dX5_brings_18 : decode cX5_brings 18 = .ok (.bipush (-3), 2) := by decide +kernel
theorem dX5_brings_20 : decode cX5_brings 20 = .ok (.ireturn, 1) := by decide +kernel
theorem dX5_brings_21 : decode cX5_brings 21 = .ok (.aload_n 0, 1) := by decide +kernel
theorem dX5_brings_22 : decode cX5_brings 22 = .ok (.invokevirtual 266, 3) := by decide +kernel
theorem dX5_brings_25 : decode cX5_brings 25 = .ok (.iconst 0, 1) := by decide +kernel
theorem dX5_brings_26 : decode cX5_brings 26 = .ok (.istore_n 3, 1) := by decide +kernel
theorem dX5_brings_27 : decode cX5_brings 27 = .ok (.iconst 0, 1) := by decide +kernel
theorem dX5_brings_28 : decode cX5_brings 28 = .ok (.istore 4, 2) := by decide +kernel
theorem dX5_brings_30 : decode cX5_brings 30 = .ok (.iload 4, 2) := by decide +kernel
theorem dX5_brings_32 : decode cX5_brings 32 = .ok (.iload_n 2, 1) := by decide +kernel
theorem dX5_brings_33 : decode cX5_brings 33 = .ok (.if_icmp .ge 55, 3) := by decide +kernel
theorem dX5_brings_36 : decode cX5_brings 36 = .ok (.iconst 0, 1) := by decide +kernel
theorem dX5_brings_37 : decode cX5_brings 37 = .ok (.istore 5, 2) := by decide +kernel
theorem dX5_brings_39 : decode cX5_brings 39 = .ok (.iload 5, 2) := by decide +kernel
theorem dX5_brings_41 : decode cX5_brings 41 = .ok (.aload_n 0, 1) := by decide +kernel
theorem dX5_brings_42 : decode cX5_brings 42 = .ok (.getfield 7, 3) := by decide +kernel
theorem dX5_brings_45 : decode cX5_brings 45 = .ok (.if_icmp .ge 33, 3) := by decide +kernel
theorem dX5_brings_48 : decode cX5_brings 48 = .ok (.iload_n 3, 1) := by decide +kernel
theorem dX5_brings_49 : decode cX5_brings 49 = .ok (.aload_n 0, 1) := by decide +kernel
theorem dX5_brings_50 : decode cX5_brings 50 = .ok (.iload_n 1, 1) := by decide +kernel
theorem dX5_brings_51 : decode cX5_brings 51 = .ok (.iload 5, 2) := by decide +kernel
theorem dX5_brings_53 : decode cX5_brings 53 = .ok (.invokevirtual 222, 3) := by decide +kernel
theorem dX5_brings_56 : decode cX5_brings 56 = .ok (.ifCond .eq 13, 3) := by decide +kernel
theorem dX5_brings_59 : decode cX5_brings 59 = .ok (.aload_n 0, 1) := by decide +kernel
theorem dX5_brings_60 : decode cX5_brings 60 = .ok (.getfield 13, 3) := by decide +kernel
theorem dX5_brings_63 : decode cX5_brings 63 = .ok (.iload 5, 2) := by decide +kernel
theorem dX5_brings_65 : decode cX5_brings 65 = .ok (.iaload, 1) := by decide +kernel
theorem dX5_brings_66 : decode cX5_brings 66 = .ok (.goto 4, 3) := by decide +kernel
theorem dX5_brings_69 : decode cX5_brings 69 = .ok (.iconst 0, 1) := by decide +kernel
theorem dX5_brings_70 : decode cX5_brings 70 = .ok (.iadd, 1) := by decide +kernel
theorem dX5_brings_71 : decode cX5_brings 71 = .ok (.istore_n 3, 1) := by decide +kernel
theorem dX5_brings_72 : decode cX5_brings 72 = .ok (.iinc 5 1, 3) := by decide +kernel
theorem dX5_brings_75 : decode cX5_brings 75 = .ok (.goto (-36), 3) := by decide +kernel
theorem dX5_brings_78 : decode cX5_brings 78 = .ok (.aload_n 0, 1) := by decide +kernel
theorem dX5_brings_79 : decode cX5_brings 79 = .ok (.invokevirtual 259, 3) := by decide +kernel
theorem dX5_brings_82 : decode cX5_brings 82 = .ok (.iinc 4 1, 3) := by decide +kernel
theorem dX5_brings_85 : decode cX5_brings 85 = .ok (.goto (-55), 3) := by decide +kernel
theorem dX5_brings_88 : decode cX5_brings 88 = .ok (.aload_n 0, 1) := by decide +kernel
theorem dX5_brings_89 : decode cX5_brings 89 = .ok (.invokevirtual 269, 3) := by decide +kernel
theorem dX5_brings_92 : decode cX5_brings 92 = .ok (.iload_n 3, 1) := by decide +kernel
theorem dX5_brings_93 : decode cX5_brings 93 = .ok (.ireturn, 1) := by decide +kernel
theorem dX5_feuding_0 : decode cX5_feuding 0 = .ok (.iload_n 1, 1) := by decide +kernel
theorem dX5_feuding_1 : decode cX5_feuding 1 = .ok (.invokestatic 295, 3) := by decide +kernel
theorem dX5_feuding_4 : decode cX5_feuding 4 = .ok (.ifCond .ne 6, 3) := by decide +kernel
theorem dX5_feuding_7 : decode cX5_feuding 7 = .ok (.bipush (-3), 2) := by decide +kernel
theorem dX5_feuding_9 : decode cX5_feuding 9 = .ok (.ireturn, 1) := by decide +kernel
theorem dX5_feuding_10 : decode cX5_feuding 10 = .ok (.aload_n 0, 1) := by decide +kernel
theorem dX5_feuding_11 : decode cX5_feuding 11 = .ok (.invokevirtual 266, 3) := by decide +kernel
theorem dX5_feuding_14 : decode cX5_feuding 14 = .ok (.iconst 0, 1) := by decide +kernel
theorem dX5_feuding_15 : decode cX5_feuding 15 = .ok (.istore_n 2, 1) := by decide +kernel
theorem dX5_feuding_16 : decode cX5_feuding 16 = .ok (.iconst 0, 1) := by decide +kernel
theorem dX5_feuding_17 : decode cX5_feuding 17 = .ok (.istore_n 3, 1) := by decide +kernel
theorem dX5_feuding_18 : decode cX5_feuding 18 = .ok (.iload_n 3, 1) := by decide +kernel
theorem dX5_feuding_19 : decode cX5_feuding 19 = .ok (.iload_n 1, 1) := by decide +kernel
theorem dX5_feuding_20 : decode cX5_feuding 20 = .ok (.if_icmp .ge 86, 3) := by decide +kernel
theorem dX5_feuding_23 : decode cX5_feuding 23 = .ok (.iconst 0, 1) := by decide +kernel
theorem dX5_feuding_24 : decode cX5_feuding 24 = .ok (.istore 4, 2) := by decide +kernel
theorem dX5_feuding_26 : decode cX5_feuding 26 = .ok (.iconst 0, 1) := by decide +kernel
theorem dX5_feuding_27 : decode cX5_feuding 27 = .ok (.istore 5, 2) := by decide +kernel
theorem dX5_feuding_29 : decode cX5_feuding 29 = .ok (.iload 5, 2) := by decide +kernel
theorem dX5_feuding_31 : decode cX5_feuding 31 = .ok (.aload_n 0, 1) := by decide +kernel
theorem dX5_feuding_32 : decode cX5_feuding 32 = .ok (.getfield 88, 3) := by decide +kernel
theorem dX5_feuding_35 : decode cX5_feuding 35 = .ok (.if_icmp .ge 48, 3) := by decide +kernel
theorem dX5_feuding_38 : decode cX5_feuding 38 = .ok (.iload 4, 2) := by decide +kernel
theorem dX5_feuding_40 : decode cX5_feuding 40 = .ok (.ifCond .ne 30, 3) := by decide +kernel
theorem dX5_feuding_43 : decode cX5_feuding 43 = .ok (.aload_n 0, 1) := by decide +kernel
theorem dX5_feuding_44 : decode cX5_feuding 44 = .ok (.aload_n 0, 1) := by decide +kernel
theorem dX5_feuding_45 : decode cX5_feuding 45 = .ok (.getfield 26, 3) := by decide +kernel
theorem dX5_feuding_48 : decode cX5_feuding 48 = .ok (.iconst 2, 1) := by decide +kernel
theorem dX5_feuding_49 : decode cX5_feuding 49 = .ok (.iload 5, 2) := by decide +kernel
theorem dX5_feuding_51 : decode cX5_feuding 51 = .ok (.imul, 1) := by decide +kernel
theorem dX5_feuding_52 : decode cX5_feuding 52 = .ok (.iaload, 1) := by decide +kernel
theorem dX5_feuding_53 : decode cX5_feuding 53 = .ok (.aload_n 0, 1) := by decide +kernel
theorem dX5_feuding_54 : decode cX5_feuding 54 = .ok (.getfield 26, 3) := by decide +kernel
theorem dX5_feuding_57 : decode cX5_feuding 57 = .ok (.iconst 2, 1) := by decide +kernel
theorem dX5_feuding_58 : decode cX5_feuding 58 = .ok (.iload 5, 2) := by decide +kernel
theorem dX5_feuding_60 : decode cX5_feuding 60 = .ok (.imul, 1) := by decide +kernel
theorem dX5_feuding_61 : decode cX5_feuding 61 = .ok (.iconst 1, 1) := by decide +kernel
theorem dX5_feuding_62 : decode cX5_feuding 62 = .ok (.iadd, 1) := by decide +kernel
theorem dX5_feuding_63 : decode cX5_feuding 63 = .ok (.iaload, 1) := by decide +kernel
theorem dX5_feuding_64 : decode cX5_feuding 64 = .ok (.invokevirtual 285, 3) := by decide +kernel
theorem dX5_feuding_67 : decode cX5_feuding 67 = .ok (.ifCond .eq 7, 3) := by decide +kernel
theorem dX5_feuding_70 : decode cX5_feuding 70 = .ok (.iconst 1, 1) := by decide +kernel
theorem dX5_feuding_71 : decode cX5_feuding 71 = .ok (.goto 4, 3) := by decide +kernel
theorem dX5_feuding_74 : decode cX5_feuding 74 = .ok (.iconst 0, 1) := by decide +kernel
theorem dX5_feuding_75 : decode cX5_feuding 75 = .ok (.istore 4, 2) := by decide +kernel
theorem dX5_feuding_77 : decode cX5_feuding 77 = .ok (.iinc 5 1, 3) := by decide +kernel
theorem dX5_feuding_80 : decode cX5_feuding 80 = .ok (.goto (-51), 3) := by decide +kernel
theorem dX5_feuding_83 : decode cX5_feuding 83 = .ok (.iload_n 2, 1) := by decide +kernel
theorem dX5_feuding_84 : decode cX5_feuding 84 = .ok (.iload 4, 2) := by decide +kernel
theorem dX5_feuding_86 : decode cX5_feuding 86 = .ok (.ifCond .eq 7, 3) := by decide +kernel
theorem dX5_feuding_89 : decode cX5_feuding 89 = .ok (.iconst 1, 1) := by decide +kernel
theorem dX5_feuding_90 : decode cX5_feuding 90 = .ok (.goto 4, 3) := by decide +kernel
theorem dX5_feuding_93 : decode cX5_feuding 93 = .ok (.iconst 0, 1) := by decide +kernel
theorem dX5_feuding_94 : decode cX5_feuding 94 = .ok (.iadd, 1) := by decide +kernel
theorem dX5_feuding_95 : decode cX5_feuding 95 = .ok (.istore_n 2, 1) := by decide +kernel
theorem dX5_feuding_96 : decode cX5_feuding 96 = .ok (.aload_n 0, 1) := by decide +kernel
theorem dX5_feuding_97 : decode cX5_feuding 97 = .ok (.invokevirtual 259, 3) := by decide +kernel
theorem dX5_feuding_100 : decode cX5_feuding 100 = .ok (.iinc 3 1, 3) := by decide +kernel
theorem dX5_feuding_103 : decode cX5_feuding 103 = .ok (.goto (-85), 3) := by decide +kernel
theorem dX5_feuding_106 : decode cX5_feuding 106 = .ok (.aload_n 0, 1) := by decide +kernel
theorem dX5_feuding_107 : decode cX5_feuding 107 = .ok (.invokevirtual 269, 3) := by decide +kernel
theorem dX5_feuding_110 : decode cX5_feuding 110 = .ok (.iload_n 2, 1) := by decide +kernel
theorem dX5_feuding_111 : decode cX5_feuding 111 = .ok (.ireturn, 1) := by decide +kernel
theorem dX5_enter_0 : decode cX5_enter 0 = .ok (.iconst 0, 1) := by decide +kernel
theorem dX5_enter_1 : decode cX5_enter 1 = .ok (.istore_n 2, 1) := by decide +kernel
theorem dX5_enter_2 : decode cX5_enter 2 = .ok (.iload_n 2, 1) := by decide +kernel
theorem dX5_enter_3 : decode cX5_enter 3 = .ok (.bipush 8, 2) := by decide +kernel
theorem dX5_enter_5 : decode cX5_enter 5 = .ok (.if_icmp .ge 26, 3) := by decide +kernel
theorem dX5_enter_8 : decode cX5_enter 8 = .ok (.aload_n 0, 1) := by decide +kernel
theorem dX5_enter_9 : decode cX5_enter 9 = .ok (.getfield 60, 3) := by decide +kernel
theorem dX5_enter_12 : decode cX5_enter 12 = .ok (.bipush 8, 2) := by decide +kernel
theorem dX5_enter_14 : decode cX5_enter 14 = .ok (.iload_n 1, 1) := by decide +kernel
theorem dX5_enter_15 : decode cX5_enter 15 = .ok (.imul, 1) := by decide +kernel
theorem dX5_enter_16 : decode cX5_enter 16 = .ok (.iload_n 2, 1) := by decide +kernel
theorem dX5_enter_17 : decode cX5_enter 17 = .ok (.iadd, 1) := by decide +kernel
theorem dX5_enter_18 : decode cX5_enter 18 = .ok (.aload_n 0, 1) := by decide +kernel
theorem dX5_enter_19 : decode cX5_enter 19 = .ok (.getfield 38, 3) := by decide +kernel
theorem dX5_enter_22 : decode cX5_enter 22 = .ok (.iload_n 2, 1) := by decide +kernel
theorem dX5_enter_23 : decode cX5_enter 23 = .ok (.iaload, 1) := by decide +kernel
theorem dX5_enter_24 : decode cX5_enter 24 = .ok (.iastore, 1) := by decide +kernel
theorem dX5_enter_25 : decode cX5_enter 25 = .ok (.iinc 2 1, 3) := by decide +kernel
theorem dX5_enter_28 : decode cX5_enter 28 = .ok (.goto (-26), 3) := by decide +kernel
theorem dX5_enter_31 : decode cX5_enter 31 = .ok (.aload_n 0, 1) := by decide +kernel
theorem dX5_enter_32 : decode cX5_enter 32 = .ok (.getfield 63, 3) := by decide +kernel
theorem dX5_enter_35 : decode cX5_enter 35 = .ok (.iload_n 1, 1) := by decide +kernel
theorem dX5_enter_36 : decode cX5_enter 36 = .ok (.iconst 0, 1) := by decide +kernel
theorem dX5_enter_37 : decode cX5_enter 37 = .ok (.iastore, 1) := by decide +kernel
theorem dX5_enter_38 : decode cX5_enter 38 = .ok (.aload_n 0, 1) := by decide +kernel
theorem dX5_enter_39 : decode cX5_enter 39 = .ok (.getfield 66, 3) := by decide +kernel
theorem dX5_enter_42 : decode cX5_enter 42 = .ok (.iload_n 1, 1) := by decide +kernel
theorem dX5_enter_43 : decode cX5_enter 43 = .ok (.iconst 0, 1) := by decide +kernel
theorem dX5_enter_44 : decode cX5_enter 44 = .ok (.iastore, 1) := by decide +kernel
theorem dX5_enter_45 : decode cX5_enter 45 = .ok (.return_, 1) := by decide +kernel
theorem dX5_restore_0 : decode cX5_restore 0 = .ok (.iconst 0, 1) := by decide +kernel
theorem dX5_restore_1 : decode cX5_restore 1 = .ok (.istore_n 2, 1) := by decide +kernel
theorem dX5_restore_2 : decode cX5_restore 2 = .ok (.iload_n 2, 1) := by decide +kernel
theorem dX5_restore_3 : decode cX5_restore 3 = .ok (.bipush 8, 2) := by decide +kernel
theorem dX5_restore_5 : decode cX5_restore 5 = .ok (.if_icmp .ge 26, 3) := by decide +kernel
theorem dX5_restore_8 : decode cX5_restore 8 = .ok (.aload_n 0, 1) := by decide +kernel
theorem dX5_restore_9 : decode cX5_restore 9 = .ok (.getfield 38, 3) := by decide +kernel
theorem dX5_restore_12 : decode cX5_restore 12 = .ok (.iload_n 2, 1) := by decide +kernel
theorem dX5_restore_13 : decode cX5_restore 13 = .ok (.aload_n 0, 1) := by decide +kernel
theorem dX5_restore_14 : decode cX5_restore 14 = .ok (.getfield 60, 3) := by decide +kernel
theorem dX5_restore_17 : decode cX5_restore 17 = .ok (.bipush 8, 2) := by decide +kernel
theorem dX5_restore_19 : decode cX5_restore 19 = .ok (.iload_n 1, 1) := by decide +kernel
theorem dX5_restore_20 : decode cX5_restore 20 = .ok (.imul, 1) := by decide +kernel
theorem dX5_restore_21 : decode cX5_restore 21 = .ok (.iload_n 2, 1) := by decide +kernel
theorem dX5_restore_22 : decode cX5_restore 22 = .ok (.iadd, 1) := by decide +kernel
theorem dX5_restore_23 : decode cX5_restore 23 = .ok (.iaload, 1) := by decide +kernel
theorem dX5_restore_24 : decode cX5_restore 24 = .ok (.iastore, 1) := by decide +kernel
theorem dX5_restore_25 : decode cX5_restore 25 = .ok (.iinc 2 1, 3) := by decide +kernel
theorem dX5_restore_28 : decode cX5_restore 28 = .ok (.goto (-26), 3) := by decide +kernel
theorem dX5_restore_31 : decode cX5_restore 31 = .ok (.return_, 1) := by decide +kernel
theorem dX5_firstRow_0 : decode cX5_firstRow 0 = .ok (.iload_n 3, 1) := by decide +kernel
theorem dX5_firstRow_1 : decode cX5_firstRow 1 = .ok (.ifCond .ne 20, 3) := by decide +kernel
theorem dX5_firstRow_4 : decode cX5_firstRow 4 = .ok (.aload_n 0, 1) := by decide +kernel
theorem dX5_firstRow_5 : decode cX5_firstRow 5 = .ok (.iload_n 1, 1) := by decide +kernel
theorem dX5_firstRow_6 : decode cX5_firstRow 6 = .ok (.iload_n 2, 1) := by decide +kernel
theorem dX5_firstRow_7 : decode cX5_firstRow 7 = .ok (.invokevirtual 285, 3) := by decide +kernel
theorem dX5_firstRow_10 : decode cX5_firstRow 10 = .ok (.ifCond .eq 9, 3) := by decide +kernel
theorem dX5_firstRow_13 : decode cX5_firstRow 13 = .ok (.sipush 999, 3) := by decide +kernel
theorem dX5_firstRow_16 : decode cX5_firstRow 16 = .ok (.goto 4, 3) := by decide +kernel
theorem dX5_firstRow_19 : decode cX5_firstRow 19 = .ok (.iconst (-1), 1) := by decide +kernel
theorem dX5_firstRow_20 : decode cX5_firstRow 20 = .ok (.ireturn, 1) := by decide +kernel
theorem dX5_firstRow_21 : decode cX5_firstRow 21 = .ok (.iconst 0, 1) := by decide +kernel
theorem dX5_firstRow_22 : decode cX5_firstRow 22 = .ok (.istore 4, 2) := by decide +kernel
theorem dX5_firstRow_24 : decode cX5_firstRow 24 = .ok (.aload_n 0, 1) := by decide +kernel
theorem dX5_firstRow_25 : decode cX5_firstRow 25 = .ok (.iconst 0, 1) := by decide +kernel
theorem dX5_firstRow_26 : decode cX5_firstRow 26 = .ok (.invokevirtual 298, 3) := by decide +kernel
theorem dX5_firstRow_29 : decode cX5_firstRow 29 = .ok (.iload 4, 2) := by decide +kernel
theorem dX5_firstRow_31 : decode cX5_firstRow 31 = .ok (.ifCond .lt 188, 3) := by decide +kernel
theorem dX5_firstRow_34 : decode cX5_firstRow 34 = .ok (.aload_n 0, 1) := by decide +kernel
theorem dX5_firstRow_35 : decode cX5_firstRow 35 = .ok (.iload 4, 2) := by decide +kernel
theorem dX5_firstRow_37 : decode cX5_firstRow 37 = .ok (.invokevirtual 301, 3) := by decide +kernel
theorem dX5_firstRow_40 : decode cX5_firstRow 40 = .ok (.aload_n 0, 1) := by decide +kernel
theorem dX5_firstRow_41 : decode cX5_firstRow 41 = .ok (.getfield 63, 3) := by decide +kernel
theorem dX5_firstRow_44 : decode cX5_firstRow 44 = .ok (.iload 4, 2) := by decide +kernel
theorem dX5_firstRow_46 : decode cX5_firstRow 46 = .ok (.iaload, 1) := by decide +kernel
theorem dX5_firstRow_47 : decode cX5_firstRow 47 = .ok (.aload_n 0, 1) := by decide +kernel
theorem dX5_firstRow_48 : decode cX5_firstRow 48 = .ok (.getfield 78, 3) := by decide +kernel
theorem dX5_firstRow_51 : decode cX5_firstRow 51 = .ok (.if_icmp .ne 7, 3) := by decide +kernel
theorem dX5_firstRow_54 : decode cX5_firstRow 54 = .ok (.iconst 1, 1) := by decide +kernel
theorem dX5_firstRow_55 : decode cX5_firstRow 55 = .ok (.goto 4, 3) := by decide +kernel
theorem dX5_firstRow_58 : decode cX5_firstRow 58 = .ok (.iconst 0, 1) := by decide +kernel
theorem dX5_firstRow_59 : decode cX5_firstRow 59 = .ok (.istore 5, 2) := by decide +kernel
theorem dX5_firstRow_61 : decode cX5_firstRow 61 = .ok (.iload 5, 2) := by decide +kernel
theorem dX5_firstRow_63 : decode cX5_firstRow 63 = .ok (.ifCond .ne 14, 3) := by decide +kernel
theorem dX5_firstRow_66 : decode cX5_firstRow 66 = .ok (.aload_n 0, 1) := by decide +kernel
theorem dX5_firstRow_67 : decode cX5_firstRow 67 = .ok (.aload_n 0, 1) := by decide +kernel
theorem dX5_firstRow_68 : decode cX5_firstRow 68 = .ok (.getfield 63, 3) := by decide +kernel
theorem dX5_firstRow_71 : decode cX5_firstRow 71 = .ok (.iload 4, 2) := by decide +kernel
theorem dX5_firstRow_73 : decode cX5_firstRow 73 = .ok (.iaload, 1) := by decide +kernel
theorem dX5_firstRow_74 : decode cX5_firstRow 74 = .ok (.invokevirtual 242, 3) := by decide +kernel
theorem dX5_firstRow_77 : decode cX5_firstRow 77 = .ok (.iload 5, 2) := by decide +kernel
theorem dX5_firstRow_79 : decode cX5_firstRow 79 = .ok (.ifCond .eq 9, 3) := by decide +kernel
theorem dX5_firstRow_82 : decode cX5_firstRow 82 = .ok (.iinc 4 (-1), 3) := by decide +kernel
theorem dX5_firstRow_85 : decode cX5_firstRow 85 = .ok (.goto 131, 3) := by decide +kernel
theorem dX5_firstRow_88 : decode cX5_firstRow 88 = .ok (.aload_n 0, 1) := by decide +kernel
theorem dX5_firstRow_89 : decode cX5_firstRow 89 = .ok (.getfield 66, 3) := by decide +kernel
theorem dX5_firstRow_92 : decode cX5_firstRow 92 = .ok (.iload 4, 2) := by decide +kernel
theorem dX5_firstRow_94 : decode cX5_firstRow 94 = .ok (.iaload, 1) := by decide +kernel
theorem dX5_firstRow_95 : decode cX5_firstRow 95 = .ok (.aload_n 0, 1) := by decide +kernel
theorem dX5_firstRow_96 : decode cX5_firstRow 96 = .ok (.getfield 225, 3) := by decide +kernel
theorem dX5_firstRow_99 : decode cX5_firstRow 99 = .ok (.if_icmp .lt 25, 3) := by decide +kernel
theorem dX5_firstRow_102 : decode cX5_firstRow 102 = .ok (.aload_n 0, 1) := by decide +kernel
theorem dX5_firstRow_103 : decode cX5_firstRow 103 = .ok (.getfield 63, 3) := by decide +kernel
theorem dX5_firstRow_106 : decode cX5_firstRow 106 = .ok (.iload 4, 2) := by decide +kernel
theorem dX5_firstRow_108 : decode cX5_firstRow 108 = .ok (.dup2, 1) := by decide +kernel
theorem dX5_firstRow_109 : decode cX5_firstRow 109 = .ok (.iaload, 1) := by decide +kernel
theorem dX5_firstRow_110 : decode cX5_firstRow 110 = .ok (.iconst 1, 1) := by decide +kernel
theorem dX5_firstRow_111 : decode cX5_firstRow 111 = .ok (.iadd, 1) := by decide +kernel
theorem dX5_firstRow_112 : decode cX5_firstRow 112 = .ok (.iastore, 1) := by decide +kernel
theorem dX5_firstRow_113 : decode cX5_firstRow 113 = .ok (.aload_n 0, 1) := by decide +kernel
theorem dX5_firstRow_114 : decode cX5_firstRow 114 = .ok (.getfield 66, 3) := by decide +kernel
theorem dX5_firstRow_117 : decode cX5_firstRow 117 = .ok (.iload 4, 2) := by decide +kernel
theorem dX5_firstRow_119 : decode cX5_firstRow 119 = .ok (.iconst 0, 1) := by decide +kernel
theorem dX5_firstRow_120 : decode cX5_firstRow 120 = .ok (.iastore, 1) := by decide +kernel
theorem dX5_firstRow_121 : decode cX5_firstRow 121 = .ok (.goto 95, 3) := by decide +kernel
theorem dX5_firstRow_124 : decode cX5_firstRow 124 = .ok (.aload_n 0, 1) := by decide +kernel
theorem dX5_firstRow_125 : decode cX5_firstRow 125 = .ok (.getfield 54, 3) := by decide +kernel
theorem dX5_firstRow_128 : decode cX5_firstRow 128 = .ok (.aload_n 0, 1) := by decide +kernel
theorem dX5_firstRow_129 : decode cX5_firstRow 129 = .ok (.getfield 66, 3) := by decide +kernel
theorem dX5_firstRow_132 : decode cX5_firstRow 132 = .ok (.iload 4, 2) := by decide +kernel
theorem dX5_firstRow_134 : decode cX5_firstRow 134 = .ok (.iaload, 1) := by decide +kernel
theorem dX5_firstRow_135 : decode cX5_firstRow 135 = .ok (.iaload, 1) := by decide +kernel
theorem dX5_firstRow_136 : decode cX5_firstRow 136 = .ok (.istore 6, 2) := by decide +kernel
theorem dX5_firstRow_138 : decode cX5_firstRow 138 = .ok (.aload_n 0, 1) := by decide +kernel
theorem dX5_firstRow_139 : decode cX5_firstRow 139 = .ok (.getfield 69, 3) := by decide +kernel
theorem dX5_firstRow_142 : decode cX5_firstRow 142 = .ok (.iload 4, 2) := by decide +kernel
theorem dX5_firstRow_144 : decode cX5_firstRow 144 = .ok (.bipush 20, 2) := by decide +kernel
theorem dX5_firstRow_146 : decode cX5_firstRow 146 = .ok (.aload_n 0, 1) := by decide +kernel
theorem dX5_firstRow_147 : decode cX5_firstRow 147 = .ok (.getfield 63, 3) := by decide +kernel
theorem dX5_firstRow_150 : decode cX5_firstRow 150 = .ok (.iload 4, 2) := by decide +kernel
theorem dX5_firstRow_152 : decode cX5_firstRow 152 = .ok (.iaload, 1) := by decide +kernel
theorem dX5_firstRow_153 : decode cX5_firstRow 153 = .ok (.imul, 1) := by decide +kernel
theorem dX5_firstRow_154 : decode cX5_firstRow 154 = .ok (.iload 6, 2) := by decide +kernel
theorem dX5_firstRow_156 : decode cX5_firstRow 156 = .ok (.iadd, 1) := by decide +kernel
theorem dX5_firstRow_157 : decode cX5_firstRow 157 = .ok (.iastore, 1) := by decide +kernel
theorem dX5_firstRow_158 : decode cX5_firstRow 158 = .ok (.aload_n 0, 1) := by decide +kernel
theorem dX5_firstRow_159 : decode cX5_firstRow 159 = .ok (.getfield 38, 3) := by decide +kernel
theorem dX5_firstRow_162 : decode cX5_firstRow 162 = .ok (.aload_n 0, 1) := by decide +kernel
theorem dX5_firstRow_163 : decode cX5_firstRow 163 = .ok (.getfield 63, 3) := by decide +kernel
theorem dX5_firstRow_166 : decode cX5_firstRow 166 = .ok (.iload 4, 2) := by decide +kernel
theorem dX5_firstRow_168 : decode cX5_firstRow 168 = .ok (.iaload, 1) := by decide +kernel
theorem dX5_firstRow_169 : decode cX5_firstRow 169 = .ok (.iload 6, 2) := by decide +kernel
theorem dX5_firstRow_171 : decode cX5_firstRow 171 = .ok (.iastore, 1) := by decide +kernel
theorem dX5_firstRow_172 : decode cX5_firstRow 172 = .ok (.aload_n 0, 1) := by decide +kernel
theorem dX5_firstRow_173 : decode cX5_firstRow 173 = .ok (.getfield 66, 3) := by decide +kernel
theorem dX5_firstRow_176 : decode cX5_firstRow 176 = .ok (.iload 4, 2) := by decide +kernel
theorem dX5_firstRow_178 : decode cX5_firstRow 178 = .ok (.dup2, 1) := by decide +kernel
theorem dX5_firstRow_179 : decode cX5_firstRow 179 = .ok (.iaload, 1) := by decide +kernel
theorem dX5_firstRow_180 : decode cX5_firstRow 180 = .ok (.iconst 1, 1) := by decide +kernel
theorem dX5_firstRow_181 : decode cX5_firstRow 181 = .ok (.iadd, 1) := by decide +kernel
theorem dX5_firstRow_182 : decode cX5_firstRow 182 = .ok (.iastore, 1) := by decide +kernel
theorem dX5_firstRow_183 : decode cX5_firstRow 183 = .ok (.iload 4, 2) := by decide +kernel
theorem dX5_firstRow_185 : decode cX5_firstRow 185 = .ok (.iconst 1, 1) := by decide +kernel
theorem dX5_firstRow_186 : decode cX5_firstRow 186 = .ok (.iadd, 1) := by decide +kernel
theorem dX5_firstRow_187 : decode cX5_firstRow 187 = .ok (.iload_n 3, 1) := by decide +kernel
theorem dX5_firstRow_188 : decode cX5_firstRow 188 = .ok (.if_icmp .ne 19, 3) := by decide +kernel
theorem dX5_firstRow_191 : decode cX5_firstRow 191 = .ok (.aload_n 0, 1) := by decide +kernel
theorem dX5_firstRow_192 : decode cX5_firstRow 192 = .ok (.iload_n 1, 1) := by decide +kernel
theorem dX5_firstRow_193 : decode cX5_firstRow 193 = .ok (.iload_n 2, 1) := by decide +kernel
theorem dX5_firstRow_194 : decode cX5_firstRow 194 = .ok (.invokevirtual 285, 3) := by decide +kernel
theorem dX5_firstRow_197 : decode cX5_firstRow 197 = .ok (.ifCond .eq 19, 3) := by decide +kernel
theorem dX5_firstRow_200 : decode cX5_firstRow 200 = .ok (.aload_n 0, 1) := by decide +kernel
theorem dX5_firstRow_201 : decode cX5_firstRow 201 = .ok (.getfield 69, 3) := by decide +kernel
theorem dX5_firstRow_204 : decode cX5_firstRow 204 = .ok (.iconst 0, 1) := by decide +kernel
theorem dX5_firstRow_205 : decode cX5_firstRow 205 = .ok (.iaload, 1) := by decide +kernel
theorem dX5_firstRow_206 : decode cX5_firstRow 206 = .ok (.ireturn, 1) := by decide +kernel
theorem dX5_firstRow_207 : decode cX5_firstRow 207 = .ok (.iinc 4 1, 3) := by decide +kernel
theorem dX5_firstRow_210 : decode cX5_firstRow 210 = .ok (.aload_n 0, 1) := by decide +kernel
theorem dX5_firstRow_211 : decode cX5_firstRow 211 = .ok (.iload 4, 2) := by decide +kernel
theorem dX5_firstRow_213 : decode cX5_firstRow 213 = .ok (.invokevirtual 298, 3) := by decide +kernel
theorem dX5_firstRow_216 : decode cX5_firstRow 216 = .ok (.goto (-187), 3) := by decide +kernel
theorem dX5_firstRow_219 : decode cX5_firstRow 219 = .ok (.iconst (-1), 1) := by decide +kernel
theorem dX5_firstRow_220 : decode cX5_firstRow 220 = .ok (.ireturn, 1) := by decide +kernel
theorem dX5_nearest_0 : decode cX5_nearest 0 = .ok (.aload_n 0, 1) := by decide +kernel
theorem dX5_nearest_1 : decode cX5_nearest 1 = .ok (.iload_n 1, 1) := by decide +kernel
theorem dX5_nearest_2 : decode cX5_nearest 2 = .ok (.iload_n 2, 1) := by decide +kernel
theorem dX5_nearest_3 : decode cX5_nearest 3 = .ok (.iload_n 3, 1) := by decide +kernel
theorem dX5_nearest_4 : decode cX5_nearest 4 = .ok (.iconst 0, 1) := by decide +kernel
theorem dX5_nearest_5 : decode cX5_nearest 5 = .ok (.iconst 1, 1) := by decide +kernel
theorem dX5_nearest_6 : decode cX5_nearest 6 = .ok (.invokestatic 81, 3) := by decide +kernel
theorem dX5_nearest_9 : decode cX5_nearest 9 = .ok (.invokevirtual 288, 3) := by decide +kernel
theorem dX5_nearest_12 : decode cX5_nearest 12 = .ok (.istore 4, 2) := by decide +kernel
theorem dX5_nearest_14 : decode cX5_nearest 14 = .ok (.iload 4, 2) := by decide +kernel
theorem dX5_nearest_16 : decode cX5_nearest 16 = .ok (.ifCond .eq 6, 3) := by decide +kernel
theorem dX5_nearest_19 : decode cX5_nearest 19 = .ok (.iload 4, 2) := by decide +kernel
theorem dX5_nearest_21 : decode cX5_nearest 21 = .ok (.ireturn, 1) := by decide +kernel
theorem dX5_nearest_22 : decode cX5_nearest 22 = .ok (.aload_n 0, 1) := by decide +kernel
theorem dX5_nearest_23 : decode cX5_nearest 23 = .ok (.invokevirtual 266, 3) := by decide +kernel
theorem dX5_nearest_26 : decode cX5_nearest 26 = .ok (.iconst (-1), 1) := by decide +kernel
theorem dX5_nearest_27 : decode cX5_nearest 27 = .ok (.istore 5, 2) := by decide +kernel
theorem dX5_nearest_29 : decode cX5_nearest 29 = .ok (.iconst (-1), 1) := by decide +kernel
theorem dX5_nearest_30 : decode cX5_nearest 30 = .ok (.istore 6, 2) := by decide +kernel
theorem dX5_nearest_32 : decode cX5_nearest 32 = .ok (.iconst 0, 1) := by decide +kernel
theorem dX5_nearest_33 : decode cX5_nearest 33 = .ok (.istore 7, 2) := by decide +kernel
theorem dX5_nearest_35 : decode cX5_nearest 35 = .ok (.iload 7, 2) := by decide +kernel
theorem dX5_nearest_37 : decode cX5_nearest 37 = .ok (.bipush 6, 2) := by decide +kernel
theorem dX5_nearest_39 : decode cX5_nearest 39 = .ok (.if_icmp .ge 47, 3) := by decide +kernel
theorem dX5_nearest_42 : decode cX5_nearest 42 = .ok (.iload 5, 2) := by decide +kernel
theorem dX5_nearest_44 : decode cX5_nearest 44 = .ok (.iconst (-1), 1) := by decide +kernel
theorem dX5_nearest_45 : decode cX5_nearest 45 = .ok (.if_icmp .ne 41, 3) := by decide +kernel
theorem dX5_nearest_48 : decode cX5_nearest 48 = .ok (.aload_n 0, 1) := by decide +kernel
theorem dX5_nearest_49 : decode cX5_nearest 49 = .ok (.iload_n 1, 1) := by decide +kernel
theorem dX5_nearest_50 : decode cX5_nearest 50 = .ok (.iload_n 2, 1) := by decide +kernel
theorem dX5_nearest_51 : decode cX5_nearest 51 = .ok (.iload 7, 2) := by decide +kernel
theorem dX5_nearest_53 : decode cX5_nearest 53 = .ok (.invokevirtual 304, 3) := by decide +kernel
theorem dX5_nearest_56 : decode cX5_nearest 56 = .ok (.istore 8, 2) := by decide +kernel
theorem dX5_nearest_58 : decode cX5_nearest 58 = .ok (.aload_n 0, 1) := by decide +kernel
theorem dX5_nearest_59 : decode cX5_nearest 59 = .ok (.invokevirtual 269, 3) := by decide +kernel
theorem dX5_nearest_62 : decode cX5_nearest 62 = .ok (.iload 8, 2) := by decide +kernel
theorem dX5_nearest_64 : decode cX5_nearest 64 = .ok (.iconst (-1), 1) := by decide +kernel
theorem dX5_nearest_65 : decode cX5_nearest 65 = .ok (.if_icmp .ne 7, 3) := by decide +kernel
theorem dX5_nearest_68 : decode cX5_nearest 68 = .ok (.iconst (-1), 1) := by decide +kernel
theorem dX5_nearest_69 : decode cX5_nearest 69 = .ok (.goto 5, 3) := by decide +kernel
theorem dX5_nearest_72 : decode cX5_nearest 72 = .ok (.iload 7, 2) := by decide +kernel
theorem dX5_nearest_74 : decode cX5_nearest 74 = .ok (.istore 5, 2) := by decide +kernel
theorem dX5_nearest_76 : decode cX5_nearest 76 = .ok (.iload 8, 2) := by decide +kernel
theorem dX5_nearest_78 : decode cX5_nearest 78 = .ok (.istore 6, 2) := by decide +kernel
theorem dX5_nearest_80 : decode cX5_nearest 80 = .ok (.iinc 7 1, 3) := by decide +kernel
theorem dX5_nearest_83 : decode cX5_nearest 83 = .ok (.goto (-48), 3) := by decide +kernel
theorem dX5_nearest_86 : decode cX5_nearest 86 = .ok (.iload 5, 2) := by decide +kernel
theorem dX5_nearest_88 : decode cX5_nearest 88 = .ok (.iconst (-1), 1) := by decide +kernel
theorem dX5_nearest_89 : decode cX5_nearest 89 = .ok (.if_icmp .eq 7, 3) := by decide +kernel
theorem dX5_nearest_92 : decode cX5_nearest 92 = .ok (.iload_n 3, 1) := by decide +kernel
theorem dX5_nearest_93 : decode cX5_nearest 93 = .ok (.ifCond .ne 8, 3) := by decide +kernel
theorem dX5_nearest_96 : decode cX5_nearest 96 = .ok (.iload 5, 2) := by decide +kernel
theorem dX5_nearest_98 : decode cX5_nearest 98 = .ok (.goto 17, 3) := by decide +kernel
theorem dX5_nearest_101 : decode cX5_nearest 101 = .ok (.iload 6, 2) := by decide +kernel
theorem dX5_nearest_103 : decode cX5_nearest 103 = .ok (.sipush 999, 3) := by decide +kernel
theorem dX5_nearest_106 : decode cX5_nearest 106 = .ok (.if_icmp .ne 7, 3) := by decide +kernel
theorem dX5_nearest_109 : decode cX5_nearest 109 = .ok (.iconst (-1), 1) := by decide +kernel
theorem dX5_nearest_110 : decode cX5_nearest 110 = .ok (.goto 5, 3) := by decide +kernel
theorem dX5_nearest_113 : decode cX5_nearest 113 = .ok (.iload 6, 2) := by decide +kernel
theorem dX5_nearest_115 : decode cX5_nearest 115 = .ok (.ireturn, 1) := by decide +kernel
theorem dX5_doMeet_0 : decode cX5_doMeet 0 = .ok (.aload_n 0, 1) := by decide +kernel
theorem dX5_doMeet_1 : decode cX5_doMeet 1 = .ok (.invokevirtual 266, 3) := by decide +kernel
theorem dX5_doMeet_4 : decode cX5_doMeet 4 = .ok (.aload_n 0, 1) := by decide +kernel
theorem dX5_doMeet_5 : decode cX5_doMeet 5 = .ok (.iload_n 1, 1) := by decide +kernel
theorem dX5_doMeet_6 : decode cX5_doMeet 6 = .ok (.iload_n 2, 1) := by decide +kernel
theorem dX5_doMeet_7 : decode cX5_doMeet 7 = .ok (.invokevirtual 285, 3) := by decide +kernel
theorem dX5_doMeet_10 : decode cX5_doMeet 10 = .ok (.istore 4, 2) := by decide +kernel
theorem dX5_doMeet_12 : decode cX5_doMeet 12 = .ok (.iconst 0, 1) := by decide +kernel
theorem dX5_doMeet_13 : decode cX5_doMeet 13 = .ok (.istore 5, 2) := by decide +kernel
theorem dX5_doMeet_15 : decode cX5_doMeet 15 = .ok (.iload 5, 2) := by decide +kernel
theorem dX5_doMeet_17 : decode cX5_doMeet 17 = .ok (.iload_n 3, 1) := by decide +kernel
theorem dX5_doMeet_18 : decode cX5_doMeet 18 = .ok (.if_icmp .ge 26, 3) := by decide +kernel
theorem dX5_doMeet_21 : decode cX5_doMeet 21 = .ok (.iload 4, 2) := by decide +kernel
theorem dX5_doMeet_23 : decode cX5_doMeet 23 = .ok (.ifCond .ne 21, 3) := by decide +kernel
theorem dX5_doMeet_26 : decode cX5_doMeet 26 = .ok (.aload_n 0, 1) := by decide +kernel
theorem dX5_doMeet_27 : decode cX5_doMeet 27 = .ok (.invokevirtual 259, 3) := by decide +kernel
theorem dX5_doMeet_30 : decode cX5_doMeet 30 = .ok (.aload_n 0, 1) := by decide +kernel
theorem dX5_doMeet_31 : decode cX5_doMeet 31 = .ok (.iload_n 1, 1) := by decide +kernel
theorem dX5_doMeet_32 : decode cX5_doMeet 32 = .ok (.iload_n 2, 1) := by decide +kernel
theorem dX5_doMeet_33 : decode cX5_doMeet 33 = .ok (.invokevirtual 285, 3) := by decide +kernel
theorem dX5_doMeet_36 : decode cX5_doMeet 36 = .ok (.istore 4, 2) := by decide +kernel
theorem dX5_doMeet_38 : decode cX5_doMeet 38 = .ok (.iinc 5 1, 3) := by decide +kernel
theorem dX5_doMeet_41 : decode cX5_doMeet 41 = .ok (.goto (-26), 3) := by decide +kernel
theorem dX5_doMeet_44 : decode cX5_doMeet 44 = .ok (.aload_n 0, 1) := by decide +kernel
theorem dX5_doMeet_45 : decode cX5_doMeet 45 = .ok (.invokevirtual 269, 3) := by decide +kernel
theorem dX5_doMeet_48 : decode cX5_doMeet 48 = .ok (.iload 4, 2) := by decide +kernel
theorem dX5_doMeet_50 : decode cX5_doMeet 50 = .ok (.ireturn, 1) := by decide +kernel
theorem dX5_mends_0 : decode cX5_mends 0 = .ok (.aload_n 0, 1) := by decide +kernel
theorem dX5_mends_1 : decode cX5_mends 1 = .ok (.iload_n 1, 1) := by decide +kernel
theorem dX5_mends_2 : decode cX5_mends 2 = .ok (.iload_n 2, 1) := by decide +kernel
theorem dX5_mends_3 : decode cX5_mends 3 = .ok (.iload_n 3, 1) := by decide +kernel
theorem dX5_mends_4 : decode cX5_mends 4 = .ok (.iconst 0, 1) := by decide +kernel
theorem dX5_mends_5 : decode cX5_mends 5 = .ok (.bipush 99, 2) := by decide +kernel
theorem dX5_mends_7 : decode cX5_mends 7 = .ok (.invokestatic 81, 3) := by decide +kernel
theorem dX5_mends_10 : decode cX5_mends 10 = .ok (.ifCond .eq 17, 3) := by decide +kernel
theorem dX5_mends_13 : decode cX5_mends 13 = .ok (.iload 4, 2) := by decide +kernel
theorem dX5_mends_15 : decode cX5_mends 15 = .ok (.iconst 0, 1) := by decide +kernel
theorem dX5_mends_16 : decode cX5_mends 16 = .ok (.iconst 1, 1) := by decide +kernel
theorem dX5_mends_17 : decode cX5_mends 17 = .ok (.invokestatic 81, 3) := by decide +kernel
theorem dX5_mends_20 : decode cX5_mends 20 = .ok (.ifCond .eq 7, 3) := by decide +kernel
theorem dX5_mends_23 : decode cX5_mends 23 = .ok (.iconst 1, 1) := by decide +kernel
theorem dX5_mends_24 : decode cX5_mends 24 = .ok (.goto 4, 3) := by decide +kernel
theorem dX5_mends_27 : decode cX5_mends 27 = .ok (.iconst 0, 1) := by decide +kernel
theorem dX5_mends_28 : decode cX5_mends 28 = .ok (.invokevirtual 288, 3) := by decide +kernel
theorem dX5_mends_31 : decode cX5_mends 31 = .ok (.istore 5, 2) := by decide +kernel
theorem dX5_mends_33 : decode cX5_mends 33 = .ok (.iload 5, 2) := by decide +kernel
theorem dX5_mends_35 : decode cX5_mends 35 = .ok (.ifCond .eq 6, 3) := by decide +kernel
theorem dX5_mends_38 : decode cX5_mends 38 = .ok (.iload 5, 2) := by decide +kernel
theorem dX5_mends_40 : decode cX5_mends 40 = .ok (.ireturn, 1) := by decide +kernel
