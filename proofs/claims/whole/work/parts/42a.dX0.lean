theorem dX0_init_0 : decode cX0_init 0 = .ok (.aload_n 0, 1) := by decide +kernel
theorem dX0_init_1 : decode cX0_init 1 = .ok (.invokespecial 3, 3) := by decide +kernel
theorem dX0_init_4 : decode cX0_init 4 = .ok (.aload_n 0, 1) := by decide +kernel
theorem dX0_init_5 : decode cX0_init 5 = .ok (.bipush 6, 2) := by decide +kernel
theorem dX0_init_7 : decode cX0_init 7 = .ok (.bipush 8, 2) := by decide +kernel
theorem dX0_init_9 : decode cX0_init 9 = .ok (.multianewarray 9 2, 4) := by decide +kernel
theorem dX0_init_13 : decode cX0_init 13 = .ok (.putfield 11, 3) := by decide +kernel
theorem dX0_init_16 : decode cX0_init 16 = .ok (.aload_n 0, 1) := by decide +kernel
theorem dX0_init_17 : decode cX0_init 17 = .ok (.sipush 4096, 3) := by decide +kernel
theorem dX0_init_20 : decode cX0_init 20 = .ok (.newarray .long, 2) := by decide +kernel
theorem dX0_init_22 : decode cX0_init 22 = .ok (.putfield 16, 3) := by decide +kernel
theorem dX0_init_25 : decode cX0_init 25 = .ok (.aload_n 0, 1) := by decide +kernel
theorem dX0_init_26 : decode cX0_init 26 = .ok (.aload_n 1, 1) := by decide +kernel
theorem dX0_init_27 : decode cX0_init 27 = .ok (.putfield 20, 3) := by decide +kernel
theorem dX0_init_30 : decode cX0_init 30 = .ok (.return_, 1) := by decide +kernel
theorem dX0_prepare_0 : decode cX0_prepare 0 = .ok (.aload_n 0, 1) := by decide +kernel
theorem dX0_prepare_1 : decode cX0_prepare 1 = .ok (.iload_n 1, 1) := by decide +kernel
theorem dX0_prepare_2 : decode cX0_prepare 2 = .ok (.putfield 24, 3) := by decide +kernel
theorem dX0_prepare_5 : decode cX0_prepare 5 = .ok (.aload_n 0, 1) := by decide +kernel
theorem dX0_prepare_6 : decode cX0_prepare 6 = .ok (.iload_n 2, 1) := by decide +kernel
theorem dX0_prepare_7 : decode cX0_prepare 7 = .ok (.putfield 28, 3) := by decide +kernel
theorem dX0_prepare_10 : decode cX0_prepare 10 = .ok (.aload_n 0, 1) := by decide +kernel
theorem dX0_prepare_11 : decode cX0_prepare 11 = .ok (.iconst (-1), 1) := by decide +kernel
theorem dX0_prepare_12 : decode cX0_prepare 12 = .ok (.putfield 31, 3) := by decide +kernel
theorem dX0_prepare_15 : decode cX0_prepare 15 = .ok (.aload_n 0, 1) := by decide +kernel
theorem dX0_prepare_16 : decode cX0_prepare 16 = .ok (.getfield 16, 3) := by decide +kernel
theorem dX0_prepare_19 : decode cX0_prepare 19 = .ok (.lconst 0, 1) := by decide +kernel
theorem dX0_prepare_20 : decode cX0_prepare 20 = .ok (.invokestatic 34, 3) := by decide +kernel
theorem dX0_prepare_23 : decode cX0_prepare 23 = .ok (.return_, 1) := by decide +kernel
theorem dX0_reaches_0 : decode cX0_reaches 0 = .ok (.iload_n 1, 1) := by decide +kernel
theorem dX0_reaches_1 : decode cX0_reaches 1 = .ok (.iconst 1, 1) := by decide +kernel
theorem dX0_reaches_2 : decode cX0_reaches 2 = .ok (.if_icmp .lt 8, 3) := by decide +kernel
theorem dX0_reaches_5 : decode cX0_reaches 5 = .ok (.iload_n 1, 1) := by decide +kernel
theorem dX0_reaches_6 : decode cX0_reaches 6 = .ok (.iconst 5, 1) := by decide +kernel
theorem dX0_reaches_7 : decode cX0_reaches 7 = .ok (.if_icmp .le 5, 3) := by decide +kernel
theorem dX0_reaches_10 : decode cX0_reaches 10 = .ok (.iconst 0, 1) := by decide +kernel
theorem dX0_reaches_11 : decode cX0_reaches 11 = .ok (.ireturn, 1) := by decide +kernel
theorem dX0_reaches_12 : decode cX0_reaches 12 = .ok (.aload_n 0, 1) := by decide +kernel
theorem dX0_reaches_13 : decode cX0_reaches 13 = .ok (.getfield 20, 3) := by decide +kernel
theorem dX0_reaches_16 : decode cX0_reaches 16 = .ok (.invokevirtual 40, 3) := by decide +kernel
theorem dX0_reaches_19 : decode cX0_reaches 19 = .ok (.ldc2_w 46, 3) := by decide +kernel
theorem dX0_reaches_22 : decode cX0_reaches 22 = .ok (.lmul, 1) := by decide +kernel
theorem dX0_reaches_23 : decode cX0_reaches 23 = .ok (.iload_n 1, 1) := by decide +kernel
theorem dX0_reaches_24 : decode cX0_reaches 24 = .ok (.i2l, 1) := by decide +kernel
theorem dX0_reaches_25 : decode cX0_reaches 25 = .ok (.ladd, 1) := by decide +kernel
theorem dX0_reaches_26 : decode cX0_reaches 26 = .ok (.lstore_n 2, 1) := by decide +kernel
theorem dX0_reaches_27 : decode cX0_reaches 27 = .ok (.lload_n 2, 1) := by decide +kernel
theorem dX0_reaches_28 : decode cX0_reaches 28 = .ok (.ldc2_w 48, 3) := by decide +kernel
theorem dX0_reaches_31 : decode cX0_reaches 31 = .ok (.lmul, 1) := by decide +kernel
theorem dX0_reaches_32 : decode cX0_reaches 32 = .ok (.bipush 52, 2) := by decide +kernel
theorem dX0_reaches_34 : decode cX0_reaches 34 = .ok (.lushr, 1) := by decide +kernel
theorem dX0_reaches_35 : decode cX0_reaches 35 = .ok (.l2i, 1) := by decide +kernel
theorem dX0_reaches_36 : decode cX0_reaches 36 = .ok (.istore 4, 2) := by decide +kernel
theorem dX0_reaches_38 : decode cX0_reaches 38 = .ok (.aload_n 0, 1) := by decide +kernel
theorem dX0_reaches_39 : decode cX0_reaches 39 = .ok (.getfield 16, 3) := by decide +kernel
theorem dX0_reaches_42 : decode cX0_reaches 42 = .ok (.iload 4, 2) := by decide +kernel
theorem dX0_reaches_44 : decode cX0_reaches 44 = .ok (.laload, 1) := by decide +kernel
theorem dX0_reaches_45 : decode cX0_reaches 45 = .ok (.lload_n 2, 1) := by decide +kernel
theorem dX0_reaches_46 : decode cX0_reaches 46 = .ok (.lcmp, 1) := by decide +kernel
theorem dX0_reaches_47 : decode cX0_reaches 47 = .ok (.ifCond .ne 5, 3) := by decide +kernel
theorem dX0_reaches_50 : decode cX0_reaches 50 = .ok (.iconst 0, 1) := by decide +kernel
theorem dX0_reaches_51 : decode cX0_reaches 51 = .ok (.ireturn, 1) := by decide +kernel
theorem dX0_reaches_52 : decode cX0_reaches 52 = .ok (.iconst 0, 1) := by decide +kernel
theorem dX0_reaches_53 : decode cX0_reaches 53 = .ok (.istore 5, 2) := by decide +kernel
theorem dX0_reaches_55 : decode cX0_reaches 55 = .ok (.iload 5, 2) := by decide +kernel
theorem dX0_reaches_57 : decode cX0_reaches 57 = .ok (.aload_n 0, 1) := by decide +kernel
theorem dX0_reaches_58 : decode cX0_reaches 58 = .ok (.getfield 20, 3) := by decide +kernel
theorem dX0_reaches_61 : decode cX0_reaches 61 = .ok (.getfield 50, 3) := by decide +kernel
theorem dX0_reaches_64 : decode cX0_reaches 64 = .ok (.getfield 54, 3) := by decide +kernel
theorem dX0_reaches_67 : decode cX0_reaches 67 = .ok (.if_icmp .ge 31, 3) := by decide +kernel
theorem dX0_reaches_70 : decode cX0_reaches 70 = .ok (.aload_n 0, 1) := by decide +kernel
theorem dX0_reaches_71 : decode cX0_reaches 71 = .ok (.iload 5, 2) := by decide +kernel
theorem dX0_reaches_73 : decode cX0_reaches 73 = .ok (.iload_n 1, 1) := by decide +kernel
theorem dX0_reaches_74 : decode cX0_reaches 74 = .ok (.invokevirtual 59, 3) := by decide +kernel
theorem dX0_reaches_77 : decode cX0_reaches 77 = .ok (.ifCond .eq 15, 3) := by decide +kernel
theorem dX0_reaches_80 : decode cX0_reaches 80 = .ok (.aload_n 0, 1) := by decide +kernel
theorem dX0_reaches_81 : decode cX0_reaches 81 = .ok (.iload 5, 2) := by decide +kernel
theorem dX0_reaches_83 : decode cX0_reaches 83 = .ok (.iload_n 1, 1) := by decide +kernel
theorem dX0_reaches_84 : decode cX0_reaches 84 = .ok (.invokestatic 63, 3) := by decide +kernel
theorem dX0_reaches_87 : decode cX0_reaches 87 = .ok (.ifCond .eq 5, 3) := by decide +kernel
theorem dX0_reaches_90 : decode cX0_reaches 90 = .ok (.iconst 1, 1) := by decide +kernel
theorem dX0_reaches_91 : decode cX0_reaches 91 = .ok (.ireturn, 1) := by decide +kernel
theorem dX0_reaches_92 : decode cX0_reaches 92 = .ok (.iinc 5 1, 3) := by decide +kernel
theorem dX0_reaches_95 : decode cX0_reaches 95 = .ok (.goto (-40), 3) := by decide +kernel
theorem dX0_reaches_98 : decode cX0_reaches 98 = .ok (.aload_n 0, 1) := by decide +kernel
theorem dX0_reaches_99 : decode cX0_reaches 99 = .ok (.getfield 16, 3) := by decide +kernel
theorem dX0_reaches_102 : decode cX0_reaches 102 = .ok (.iload 4, 2) := by decide +kernel
theorem dX0_reaches_104 : decode cX0_reaches 104 = .ok (.lload_n 2, 1) := by decide +kernel
theorem dX0_reaches_105 : decode cX0_reaches 105 = .ok (.lastore, 1) := by decide +kernel
theorem dX0_reaches_106 : decode cX0_reaches 106 = .ok (.iconst 0, 1) := by decide +kernel
theorem dX0_reaches_107 : decode cX0_reaches 107 = .ok (.ireturn, 1) := by decide +kernel
theorem dX0_reachesBy_0 : decode cX0_reachesBy 0 = .ok (.aload_n 0, 1) := by decide +kernel
theorem dX0_reachesBy_1 : decode cX0_reachesBy 1 = .ok (.getfield 11, 3) := by decide +kernel
theorem dX0_reachesBy_4 : decode cX0_reachesBy 4 = .ok (.iload_n 2, 1) := by decide +kernel
theorem dX0_reachesBy_5 : decode cX0_reachesBy 5 = .ok (.aaload, 1) := by decide +kernel
theorem dX0_reachesBy_6 : decode cX0_reachesBy 6 = .ok (.astore_n 3, 1) := by decide +kernel
theorem dX0_reachesBy_7 : decode cX0_reachesBy 7 = .ok (.aload_n 0, 1) := by decide +kernel
theorem dX0_reachesBy_8 : decode cX0_reachesBy 8 = .ok (.getfield 20, 3) := by decide +kernel
theorem dX0_reachesBy_11 : decode cX0_reachesBy 11 = .ok (.getfield 67, 3) := by decide +kernel
theorem dX0_reachesBy_14 : decode cX0_reachesBy 14 = .ok (.iload_n 1, 1) := by decide +kernel
theorem dX0_reachesBy_15 : decode cX0_reachesBy 15 = .ok (.iaload, 1) := by decide +kernel
theorem dX0_reachesBy_16 : decode cX0_reachesBy 16 = .ok (.istore 4, 2) := by decide +kernel
theorem dX0_reachesBy_18 : decode cX0_reachesBy 18 = .ok (.aload_n 0, 1) := by decide +kernel
theorem dX0_reachesBy_19 : decode cX0_reachesBy 19 = .ok (.getfield 20, 3) := by decide +kernel
theorem dX0_reachesBy_22 : decode cX0_reachesBy 22 = .ok (.iload_n 1, 1) := by decide +kernel
theorem dX0_reachesBy_23 : decode cX0_reachesBy 23 = .ok (.aload_n 3, 1) := by decide +kernel
theorem dX0_reachesBy_24 : decode cX0_reachesBy 24 = .ok (.invokevirtual 71, 3) := by decide +kernel
theorem dX0_reachesBy_27 : decode cX0_reachesBy 27 = .ok (.istore 5, 2) := by decide +kernel
theorem dX0_reachesBy_29 : decode cX0_reachesBy 29 = .ok (.iconst 0, 1) := by decide +kernel
theorem dX0_reachesBy_30 : decode cX0_reachesBy 30 = .ok (.istore 6, 2) := by decide +kernel
theorem dX0_reachesBy_32 : decode cX0_reachesBy 32 = .ok (.iload 6, 2) := by decide +kernel
theorem dX0_reachesBy_34 : decode cX0_reachesBy 34 = .ok (.iload 5, 2) := by decide +kernel
theorem dX0_reachesBy_36 : decode cX0_reachesBy 36 = .ok (.if_icmp .ge 90, 3) := by decide +kernel
theorem dX0_reachesBy_39 : decode cX0_reachesBy 39 = .ok (.iload 6, 2) := by decide +kernel
theorem dX0_reachesBy_41 : decode cX0_reachesBy 41 = .ok (.aload_n 3, 1) := by decide +kernel
theorem dX0_reachesBy_42 : decode cX0_reachesBy 42 = .ok (.arraylength, 1) := by decide +kernel
theorem dX0_reachesBy_43 : decode cX0_reachesBy 43 = .ok (.if_icmp .ge 83, 3) := by decide +kernel
theorem dX0_reachesBy_46 : decode cX0_reachesBy 46 = .ok (.aload_n 0, 1) := by decide +kernel
theorem dX0_reachesBy_47 : decode cX0_reachesBy 47 = .ok (.getfield 20, 3) := by decide +kernel
theorem dX0_reachesBy_50 : decode cX0_reachesBy 50 = .ok (.iload_n 1, 1) := by decide +kernel
theorem dX0_reachesBy_51 : decode cX0_reachesBy 51 = .ok (.aload_n 3, 1) := by decide +kernel
theorem dX0_reachesBy_52 : decode cX0_reachesBy 52 = .ok (.iload 6, 2) := by decide +kernel
theorem dX0_reachesBy_54 : decode cX0_reachesBy 54 = .ok (.iaload, 1) := by decide +kernel
theorem dX0_reachesBy_55 : decode cX0_reachesBy 55 = .ok (.invokevirtual 75, 3) := by decide +kernel
theorem dX0_reachesBy_58 : decode cX0_reachesBy 58 = .ok (.iload_n 2, 1) := by decide +kernel
theorem dX0_reachesBy_59 : decode cX0_reachesBy 59 = .ok (.iconst 1, 1) := by decide +kernel
theorem dX0_reachesBy_60 : decode cX0_reachesBy 60 = .ok (.if_icmp .ne 21, 3) := by decide +kernel
theorem dX0_reachesBy_63 : decode cX0_reachesBy 63 = .ok (.aload_n 0, 1) := by decide +kernel
theorem dX0_reachesBy_64 : decode cX0_reachesBy 64 = .ok (.getfield 20, 3) := by decide +kernel
theorem dX0_reachesBy_67 : decode cX0_reachesBy 67 = .ok (.aload_n 0, 1) := by decide +kernel
theorem dX0_reachesBy_68 : decode cX0_reachesBy 68 = .ok (.getfield 24, 3) := by decide +kernel
theorem dX0_reachesBy_71 : decode cX0_reachesBy 71 = .ok (.aload_n 0, 1) := by decide +kernel
theorem dX0_reachesBy_72 : decode cX0_reachesBy 72 = .ok (.getfield 28, 3) := by decide +kernel
theorem dX0_reachesBy_75 : decode cX0_reachesBy 75 = .ok (.invokevirtual 79, 3) := by decide +kernel
theorem dX0_reachesBy_78 : decode cX0_reachesBy 78 = .ok (.goto 10, 3) := by decide +kernel
theorem dX0_reachesBy_81 : decode cX0_reachesBy 81 = .ok (.aload_n 0, 1) := by decide +kernel
theorem dX0_reachesBy_82 : decode cX0_reachesBy 82 = .ok (.iload_n 2, 1) := by decide +kernel
theorem dX0_reachesBy_83 : decode cX0_reachesBy 83 = .ok (.iconst 1, 1) := by decide +kernel
theorem dX0_reachesBy_84 : decode cX0_reachesBy 84 = .ok (.isub, 1) := by decide +kernel
theorem dX0_reachesBy_85 : decode cX0_reachesBy 85 = .ok (.invokestatic 82, 3) := by decide +kernel
theorem dX0_reachesBy_88 : decode cX0_reachesBy 88 = .ok (.istore 7, 2) := by decide +kernel
theorem dX0_reachesBy_90 : decode cX0_reachesBy 90 = .ok (.aload_n 0, 1) := by decide +kernel
theorem dX0_reachesBy_91 : decode cX0_reachesBy 91 = .ok (.getfield 20, 3) := by decide +kernel
theorem dX0_reachesBy_94 : decode cX0_reachesBy 94 = .ok (.iload_n 1, 1) := by decide +kernel
theorem dX0_reachesBy_95 : decode cX0_reachesBy 95 = .ok (.iload 4, 2) := by decide +kernel
theorem dX0_reachesBy_97 : decode cX0_reachesBy 97 = .ok (.invokevirtual 75, 3) := by decide +kernel
theorem dX0_reachesBy_100 : decode cX0_reachesBy 100 = .ok (.iload 7, 2) := by decide +kernel
theorem dX0_reachesBy_102 : decode cX0_reachesBy 102 = .ok (.ifCond .eq 18, 3) := by decide +kernel
theorem dX0_reachesBy_105 : decode cX0_reachesBy 105 = .ok (.aload_n 0, 1) := by decide +kernel
theorem dX0_reachesBy_106 : decode cX0_reachesBy 106 = .ok (.bipush 20, 2) := by decide +kernel
theorem dX0_reachesBy_108 : decode cX0_reachesBy 108 = .ok (.iload_n 1, 1) := by decide +kernel
theorem dX0_reachesBy_109 : decode cX0_reachesBy 109 = .ok (.imul, 1) := by decide +kernel
theorem dX0_reachesBy_110 : decode cX0_reachesBy 110 = .ok (.aload_n 3, 1) := by decide +kernel
theorem dX0_reachesBy_111 : decode cX0_reachesBy 111 = .ok (.iload 6, 2) := by decide +kernel
theorem dX0_reachesBy_113 : decode cX0_reachesBy 113 = .ok (.iaload, 1) := by decide +kernel
theorem dX0_reachesBy_114 : decode cX0_reachesBy 114 = .ok (.iadd, 1) := by decide +kernel
theorem dX0_reachesBy_115 : decode cX0_reachesBy 115 = .ok (.putfield 31, 3) := by decide +kernel
theorem dX0_reachesBy_118 : decode cX0_reachesBy 118 = .ok (.iconst 1, 1) := by decide +kernel
theorem dX0_reachesBy_119 : decode cX0_reachesBy 119 = .ok (.ireturn, 1) := by decide +kernel
theorem dX0_reachesBy_120 : decode cX0_reachesBy 120 = .ok (.iinc 6 1, 3) := by decide +kernel
theorem dX0_reachesBy_123 : decode cX0_reachesBy 123 = .ok (.goto (-91), 3) := by decide +kernel
theorem dX0_reachesBy_126 : decode cX0_reachesBy 126 = .ok (.iconst 0, 1) := by decide +kernel
theorem dX0_reachesBy_127 : decode cX0_reachesBy 127 = .ok (.ireturn, 1) := by decide +kernel
theorem dX0_mayHelp_0 : decode cX0_mayHelp 0 = .ok (.iload_n 2, 1) := by decide +kernel
theorem dX0_mayHelp_1 : decode cX0_mayHelp 1 = .ok (.iconst 1, 1) := by decide +kernel
theorem dX0_mayHelp_2 : decode cX0_mayHelp 2 = .ok (.if_icmp .gt 19, 3) := by decide +kernel
theorem dX0_mayHelp_5 : decode cX0_mayHelp 5 = .ok (.iload_n 1, 1) := by decide +kernel
theorem dX0_mayHelp_6 : decode cX0_mayHelp 6 = .ok (.aload_n 0, 1) := by decide +kernel
theorem dX0_mayHelp_7 : decode cX0_mayHelp 7 = .ok (.getfield 24, 3) := by decide +kernel
theorem dX0_mayHelp_10 : decode cX0_mayHelp 10 = .ok (.if_icmp .eq 11, 3) := by decide +kernel
theorem dX0_mayHelp_13 : decode cX0_mayHelp 13 = .ok (.iload_n 1, 1) := by decide +kernel
theorem dX0_mayHelp_14 : decode cX0_mayHelp 14 = .ok (.aload_n 0, 1) := by decide +kernel
theorem dX0_mayHelp_15 : decode cX0_mayHelp 15 = .ok (.getfield 28, 3) := by decide +kernel
theorem dX0_mayHelp_18 : decode cX0_mayHelp 18 = .ok (.if_icmp .ne 7, 3) := by decide +kernel
theorem dX0_mayHelp_21 : decode cX0_mayHelp 21 = .ok (.iconst 1, 1) := by decide +kernel
theorem dX0_mayHelp_22 : decode cX0_mayHelp 22 = .ok (.goto 4, 3) := by decide +kernel
theorem dX0_mayHelp_25 : decode cX0_mayHelp 25 = .ok (.iconst 0, 1) := by decide +kernel
theorem dX0_mayHelp_26 : decode cX0_mayHelp 26 = .ok (.ireturn, 1) := by decide +kernel
