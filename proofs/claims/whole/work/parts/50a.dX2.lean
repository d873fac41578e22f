theorem dX2_init_0 : decode cX2_init 0 = .ok (.aload_n 0, 1) := by decide +kernel
theorem dX2_init_1 : decode cX2_init 1 = .ok (.invokespecial 3, 3) := by decide +kernel
theorem dX2_init_4 : decode cX2_init 4 = .ok (.aload_n 0, 1) := by decide +kernel
theorem dX2_init_5 : decode cX2_init 5 = .ok (.sipush 200, 3) := by decide +kernel
theorem dX2_init_8 : decode cX2_init 8 = .ok (.newarray .int, 2) := by decide +kernel
theorem dX2_init_10 : decode cX2_init 10 = .ok (.putfield 9, 3) := by decide +kernel
theorem dX2_init_13 : decode cX2_init 13 = .ok (.return_, 1) := by decide +kernel
theorem dX2_append_0 : decode cX2_append 0 = .ok (.iload_n 3, 1) := by decide +kernel
theorem dX2_append_1 : decode cX2_append 1 = .ok (.sipush 200, 3) := by decide +kernel
theorem dX2_append_4 : decode cX2_append 4 = .ok (.aload_n 0, 1) := by decide +kernel
theorem dX2_append_5 : decode cX2_append 5 = .ok (.getfield 15, 3) := by decide +kernel
theorem dX2_append_8 : decode cX2_append 8 = .ok (.isub, 1) := by decide +kernel
theorem dX2_append_9 : decode cX2_append 9 = .ok (.if_icmp .le 5, 3) := by decide +kernel
theorem dX2_append_12 : decode cX2_append 12 = .ok (.iconst 0, 1) := by decide +kernel
theorem dX2_append_13 : decode cX2_append 13 = .ok (.ireturn, 1) := by decide +kernel
theorem dX2_append_14 : decode cX2_append 14 = .ok (.iconst 0, 1) := by decide +kernel
theorem dX2_append_15 : decode cX2_append 15 = .ok (.istore 4, 2) := by decide +kernel
theorem dX2_append_17 : decode cX2_append 17 = .ok (.iload 4, 2) := by decide +kernel
theorem dX2_append_19 : decode cX2_append 19 = .ok (.iload_n 3, 1) := by decide +kernel
theorem dX2_append_20 : decode cX2_append 20 = .ok (.if_icmp .ge 33, 3) := by decide +kernel
theorem dX2_append_23 : decode cX2_append 23 = .ok (.aload_n 0, 1) := by decide +kernel
theorem dX2_append_24 : decode cX2_append 24 = .ok (.getfield 9, 3) := by decide +kernel
theorem dX2_append_27 : decode cX2_append 27 = .ok (.aload_n 0, 1) := by decide +kernel
theorem dX2_append_28 : decode cX2_append 28 = .ok (.getfield 15, 3) := by decide +kernel
theorem dX2_append_31 : decode cX2_append 31 = .ok (.iload 4, 2) := by decide +kernel
theorem dX2_append_33 : decode cX2_append 33 = .ok (.iadd, 1) := by decide +kernel
theorem dX2_append_34 : decode cX2_append 34 = .ok (.lload_n 1, 1) := by decide +kernel
theorem dX2_append_35 : decode cX2_append 35 = .ok (.bipush 8, 2) := by decide +kernel
theorem dX2_append_37 : decode cX2_append 37 = .ok (.iload 4, 2) := by decide +kernel
theorem dX2_append_39 : decode cX2_append 39 = .ok (.imul, 1) := by decide +kernel
theorem dX2_append_40 : decode cX2_append 40 = .ok (.lshr, 1) := by decide +kernel
theorem dX2_append_41 : decode cX2_append 41 = .ok (.ldc2_w 19, 3) := by decide +kernel
theorem dX2_append_44 : decode cX2_append 44 = .ok (.land, 1) := by decide +kernel
theorem dX2_append_45 : decode cX2_append 45 = .ok (.l2i, 1) := by decide +kernel
theorem dX2_append_46 : decode cX2_append 46 = .ok (.iastore, 1) := by decide +kernel
theorem dX2_append_47 : decode cX2_append 47 = .ok (.iinc 4 1, 3) := by decide +kernel
theorem dX2_append_50 : decode cX2_append 50 = .ok (.goto (-33), 3) := by decide +kernel
theorem dX2_append_53 : decode cX2_append 53 = .ok (.aload_n 0, 1) := by decide +kernel
theorem dX2_append_54 : decode cX2_append 54 = .ok (.dup, 1) := by decide +kernel
theorem dX2_append_55 : decode cX2_append 55 = .ok (.getfield 15, 3) := by decide +kernel
theorem dX2_append_58 : decode cX2_append 58 = .ok (.iload_n 3, 1) := by decide +kernel
theorem dX2_append_59 : decode cX2_append 59 = .ok (.iadd, 1) := by decide +kernel
theorem dX2_append_60 : decode cX2_append 60 = .ok (.putfield 15, 3) := by decide +kernel
theorem dX2_append_63 : decode cX2_append 63 = .ok (.iconst 1, 1) := by decide +kernel
theorem dX2_append_64 : decode cX2_append 64 = .ok (.ireturn, 1) := by decide +kernel
theorem dX2_readInto_0 : decode cX2_readInto 0 = .ok (.aload_n 0, 1) := by decide +kernel
theorem dX2_readInto_1 : decode cX2_readInto 1 = .ok (.iconst 0, 1) := by decide +kernel
theorem dX2_readInto_2 : decode cX2_readInto 2 = .ok (.putfield 21, 3) := by decide +kernel
theorem dX2_readInto_5 : decode cX2_readInto 5 = .ok (.aload_n 0, 1) := by decide +kernel
theorem dX2_readInto_6 : decode cX2_readInto 6 = .ok (.iconst 1, 1) := by decide +kernel
theorem dX2_readInto_7 : decode cX2_readInto 7 = .ok (.putfield 24, 3) := by decide +kernel
theorem dX2_readInto_10 : decode cX2_readInto 10 = .ok (.aload_n 0, 1) := by decide +kernel
theorem dX2_readInto_11 : decode cX2_readInto 11 = .ok (.getfield 24, 3) := by decide +kernel
theorem dX2_readInto_14 : decode cX2_readInto 14 = .ok (.bipush 12, 2) := by decide +kernel
theorem dX2_readInto_16 : decode cX2_readInto 16 = .ok (.if_icmp .gt 69, 3) := by decide +kernel
theorem dX2_readInto_19 : decode cX2_readInto 19 = .ok (.aload_n 0, 1) := by decide +kernel
theorem dX2_readInto_20 : decode cX2_readInto 20 = .ok (.invokevirtual 27, 3) := by decide +kernel
theorem dX2_readInto_23 : decode cX2_readInto 23 = .ok (.aload_n 0, 1) := by decide +kernel
theorem dX2_readInto_24 : decode cX2_readInto 24 = .ok (.aload_n 1, 1) := by decide +kernel
theorem dX2_readInto_25 : decode cX2_readInto 25 = .ok (.invokevirtual 30, 3) := by decide +kernel
theorem dX2_readInto_28 : decode cX2_readInto 28 = .ok (.ifCond .ne 8, 3) := by decide +kernel
theorem dX2_readInto_31 : decode cX2_readInto 31 = .ok (.aload_n 0, 1) := by decide +kernel
theorem dX2_readInto_32 : decode cX2_readInto 32 = .ok (.getfield 34, 3) := by decide +kernel
theorem dX2_readInto_35 : decode cX2_readInto 35 = .ok (.ireturn, 1) := by decide +kernel
theorem dX2_readInto_36 : decode cX2_readInto 36 = .ok (.aload_n 0, 1) := by decide +kernel
theorem dX2_readInto_37 : decode cX2_readInto 37 = .ok (.invokevirtual 27, 3) := by decide +kernel
theorem dX2_readInto_40 : decode cX2_readInto 40 = .ok (.aload_n 0, 1) := by decide +kernel
theorem dX2_readInto_41 : decode cX2_readInto 41 = .ok (.getfield 34, 3) := by decide +kernel
theorem dX2_readInto_44 : decode cX2_readInto 44 = .ok (.aload_n 0, 1) := by decide +kernel
theorem dX2_readInto_45 : decode cX2_readInto 45 = .ok (.getfield 15, 3) := by decide +kernel
theorem dX2_readInto_48 : decode cX2_readInto 48 = .ok (.if_icmp .lt 5, 3) := by decide +kernel
theorem dX2_readInto_51 : decode cX2_readInto 51 = .ok (.iconst (-1), 1) := by decide +kernel
theorem dX2_readInto_52 : decode cX2_readInto 52 = .ok (.ireturn, 1) := by decide +kernel
theorem dX2_readInto_53 : decode cX2_readInto 53 = .ok (.aload_n 0, 1) := by decide +kernel
theorem dX2_readInto_54 : decode cX2_readInto 54 = .ok (.getfield 9, 3) := by decide +kernel
theorem dX2_readInto_57 : decode cX2_readInto 57 = .ok (.aload_n 0, 1) := by decide +kernel
theorem dX2_readInto_58 : decode cX2_readInto 58 = .ok (.getfield 34, 3) := by decide +kernel
theorem dX2_readInto_61 : decode cX2_readInto 61 = .ok (.iaload, 1) := by decide +kernel
theorem dX2_readInto_62 : decode cX2_readInto 62 = .ok (.bipush 59, 2) := by decide +kernel
theorem dX2_readInto_64 : decode cX2_readInto 64 = .ok (.if_icmp .eq 8, 3) := by decide +kernel
theorem dX2_readInto_67 : decode cX2_readInto 67 = .ok (.aload_n 0, 1) := by decide +kernel
theorem dX2_readInto_68 : decode cX2_readInto 68 = .ok (.getfield 34, 3) := by decide +kernel
theorem dX2_readInto_71 : decode cX2_readInto 71 = .ok (.ireturn, 1) := by decide +kernel
theorem dX2_readInto_72 : decode cX2_readInto 72 = .ok (.aload_n 0, 1) := by decide +kernel
theorem dX2_readInto_73 : decode cX2_readInto 73 = .ok (.dup, 1) := by decide +kernel
theorem dX2_readInto_74 : decode cX2_readInto 74 = .ok (.getfield 24, 3) := by decide +kernel
theorem dX2_readInto_77 : decode cX2_readInto 77 = .ok (.iconst 1, 1) := by decide +kernel
theorem dX2_readInto_78 : decode cX2_readInto 78 = .ok (.iadd, 1) := by decide +kernel
theorem dX2_readInto_79 : decode cX2_readInto 79 = .ok (.putfield 24, 3) := by decide +kernel
theorem dX2_readInto_82 : decode cX2_readInto 82 = .ok (.goto (-72), 3) := by decide +kernel
theorem dX2_readInto_85 : decode cX2_readInto 85 = .ok (.aload_n 0, 1) := by decide +kernel
theorem dX2_readInto_86 : decode cX2_readInto 86 = .ok (.getfield 34, 3) := by decide +kernel
theorem dX2_readInto_89 : decode cX2_readInto 89 = .ok (.ireturn, 1) := by decide +kernel
theorem dX2_readLine_0 : decode cX2_readLine 0 = .ok (.aload_n 0, 1) := by decide +kernel
theorem dX2_readLine_1 : decode cX2_readLine 1 = .ok (.ldc 37, 2) := by decide +kernel
theorem dX2_readLine_3 : decode cX2_readLine 3 = .ok (.invokevirtual 39, 3) := by decide +kernel
theorem dX2_readLine_6 : decode cX2_readLine 6 = .ok (.ifCond .eq 9, 3) := by decide +kernel
theorem dX2_readLine_9 : decode cX2_readLine 9 = .ok (.aload_n 0, 1) := by decide +kernel
theorem dX2_readLine_10 : decode cX2_readLine 10 = .ok (.aload_n 1, 1) := by decide +kernel
theorem dX2_readLine_11 : decode cX2_readLine 11 = .ok (.invokevirtual 43, 3) := by decide +kernel
theorem dX2_readLine_14 : decode cX2_readLine 14 = .ok (.ireturn, 1) := by decide +kernel
theorem dX2_readLine_15 : decode cX2_readLine 15 = .ok (.aload_n 0, 1) := by decide +kernel
theorem dX2_readLine_16 : decode cX2_readLine 16 = .ok (.ldc 46, 2) := by decide +kernel
theorem dX2_readLine_18 : decode cX2_readLine 18 = .ok (.invokevirtual 39, 3) := by decide +kernel
theorem dX2_readLine_21 : decode cX2_readLine 21 = .ok (.ifCond .eq 9, 3) := by decide +kernel
theorem dX2_readLine_24 : decode cX2_readLine 24 = .ok (.aload_n 0, 1) := by decide +kernel
theorem dX2_readLine_25 : decode cX2_readLine 25 = .ok (.aload_n 1, 1) := by decide +kernel
theorem dX2_readLine_26 : decode cX2_readLine 26 = .ok (.invokevirtual 48, 3) := by decide +kernel
theorem dX2_readLine_29 : decode cX2_readLine 29 = .ok (.ireturn, 1) := by decide +kernel
theorem dX2_readLine_30 : decode cX2_readLine 30 = .ok (.aload_n 0, 1) := by decide +kernel
theorem dX2_readLine_31 : decode cX2_readLine 31 = .ok (.invokevirtual 51, 3) := by decide +kernel
theorem dX2_readLine_34 : decode cX2_readLine 34 = .ok (.istore_n 2, 1) := by decide +kernel
theorem dX2_readLine_35 : decode cX2_readLine 35 = .ok (.iload_n 2, 1) := by decide +kernel
theorem dX2_readLine_36 : decode cX2_readLine 36 = .ok (.iconst (-1), 1) := by decide +kernel
theorem dX2_readLine_37 : decode cX2_readLine 37 = .ok (.if_icmp .eq 10, 3) := by decide +kernel
theorem dX2_readLine_40 : decode cX2_readLine 40 = .ok (.aload_n 0, 1) := by decide +kernel
theorem dX2_readLine_41 : decode cX2_readLine 41 = .ok (.aload_n 1, 1) := by decide +kernel
theorem dX2_readLine_42 : decode cX2_readLine 42 = .ok (.iload_n 2, 1) := by decide +kernel
theorem dX2_readLine_43 : decode cX2_readLine 43 = .ok (.invokevirtual 55, 3) := by decide +kernel
theorem dX2_readLine_46 : decode cX2_readLine 46 = .ok (.ireturn, 1) := by decide +kernel
theorem dX2_readLine_47 : decode cX2_readLine 47 = .ok (.aload_n 0, 1) := by decide +kernel
theorem dX2_readLine_48 : decode cX2_readLine 48 = .ok (.ldc 59, 2) := by decide +kernel
theorem dX2_readLine_50 : decode cX2_readLine 50 = .ok (.invokevirtual 39, 3) := by decide +kernel
theorem dX2_readLine_53 : decode cX2_readLine 53 = .ok (.ifCond .eq 9, 3) := by decide +kernel
theorem dX2_readLine_56 : decode cX2_readLine 56 = .ok (.aload_n 0, 1) := by decide +kernel
theorem dX2_readLine_57 : decode cX2_readLine 57 = .ok (.aload_n 1, 1) := by decide +kernel
theorem dX2_readLine_58 : decode cX2_readLine 58 = .ok (.invokevirtual 61, 3) := by decide +kernel
theorem dX2_readLine_61 : decode cX2_readLine 61 = .ok (.ireturn, 1) := by decide +kernel
theorem dX2_readLine_62 : decode cX2_readLine 62 = .ok (.aload_n 0, 1) := by decide +kernel
theorem dX2_readLine_63 : decode cX2_readLine 63 = .ok (.ldc 64, 2) := by decide +kernel
theorem dX2_readLine_65 : decode cX2_readLine 65 = .ok (.invokevirtual 39, 3) := by decide +kernel
theorem dX2_readLine_68 : decode cX2_readLine 68 = .ok (.ifCond .eq 9, 3) := by decide +kernel
theorem dX2_readLine_71 : decode cX2_readLine 71 = .ok (.aload_n 0, 1) := by decide +kernel
theorem dX2_readLine_72 : decode cX2_readLine 72 = .ok (.aload_n 1, 1) := by decide +kernel
theorem dX2_readLine_73 : decode cX2_readLine 73 = .ok (.invokevirtual 66, 3) := by decide +kernel
theorem dX2_readLine_76 : decode cX2_readLine 76 = .ok (.ireturn, 1) := by decide +kernel
theorem dX2_readLine_77 : decode cX2_readLine 77 = .ok (.aload_n 0, 1) := by decide +kernel
theorem dX2_readLine_78 : decode cX2_readLine 78 = .ok (.ldc 69, 2) := by decide +kernel
theorem dX2_readLine_80 : decode cX2_readLine 80 = .ok (.invokevirtual 39, 3) := by decide +kernel
theorem dX2_readLine_83 : decode cX2_readLine 83 = .ok (.ifCond .eq 9, 3) := by decide +kernel
theorem dX2_readLine_86 : decode cX2_readLine 86 = .ok (.aload_n 0, 1) := by decide +kernel
theorem dX2_readLine_87 : decode cX2_readLine 87 = .ok (.aload_n 1, 1) := by decide +kernel
theorem dX2_readLine_88 : decode cX2_readLine 88 = .ok (.invokevirtual 71, 3) := by decide +kernel
theorem dX2_readLine_91 : decode cX2_readLine 91 = .ok (.ireturn, 1) := by decide +kernel
theorem dX2_readLine_92 : decode cX2_readLine 92 = .ok (.aload_n 0, 1) := by decide +kernel
theorem dX2_readLine_93 : decode cX2_readLine 93 = .ok (.ldc 74, 2) := by decide +kernel
theorem dX2_readLine_95 : decode cX2_readLine 95 = .ok (.invokevirtual 39, 3) := by decide +kernel
theorem dX2_readLine_98 : decode cX2_readLine 98 = .ok (.ifCond .eq 9, 3) := by decide +kernel
theorem dX2_readLine_101 : decode cX2_readLine 101 = .ok (.aload_n 1, 1) := by decide +kernel
theorem dX2_readLine_102 : decode cX2_readLine 102 = .ok (.invokevirtual 76, 3) := by decide +kernel
theorem dX2_readLine_105 : decode cX2_readLine 105 = .ok (.iconst 1, 1) := by decide +kernel
theorem dX2_readLine_106 : decode cX2_readLine 106 = .ok (.ireturn, 1) := by decide +kernel
theorem dX2_readLine_107 : decode cX2_readLine 107 = .ok (.aload_n 0, 1) := by decide +kernel
theorem dX2_readLine_108 : decode cX2_readLine 108 = .ok (.aload_n 1, 1) := by decide +kernel
theorem dX2_readLine_109 : decode cX2_readLine 109 = .ok (.invokevirtual 81, 3) := by decide +kernel
theorem dX2_readLine_112 : decode cX2_readLine 112 = .ok (.ireturn, 1) := by decide +kernel
theorem dX2_readGreen_0 : decode cX2_readGreen 0 = .ok (.aload_n 0, 1) := by decide +kernel
theorem dX2_readGreen_1 : decode cX2_readGreen 1 = .ok (.iconst 3, 1) := by decide +kernel
theorem dX2_readGreen_2 : decode cX2_readGreen 2 = .ok (.bipush 12, 2) := by decide +kernel
theorem dX2_readGreen_4 : decode cX2_readGreen 4 = .ok (.iconst 2, 1) := by decide +kernel
theorem dX2_readGreen_5 : decode cX2_readGreen 5 = .ok (.invokevirtual 84, 3) := by decide +kernel
theorem dX2_readGreen_8 : decode cX2_readGreen 8 = .ok (.istore_n 2, 1) := by decide +kernel
theorem dX2_readGreen_9 : decode cX2_readGreen 9 = .ok (.iload_n 2, 1) := by decide +kernel
theorem dX2_readGreen_10 : decode cX2_readGreen 10 = .ok (.iconst (-1), 1) := by decide +kernel
theorem dX2_readGreen_11 : decode cX2_readGreen 11 = .ok (.if_icmp .ne 5, 3) := by decide +kernel
theorem dX2_readGreen_14 : decode cX2_readGreen 14 = .ok (.iconst 0, 1) := by decide +kernel
theorem dX2_readGreen_15 : decode cX2_readGreen 15 = .ok (.ireturn, 1) := by decide +kernel
theorem dX2_readGreen_16 : decode cX2_readGreen 16 = .ok (.aload_n 1, 1) := by decide +kernel
theorem dX2_readGreen_17 : decode cX2_readGreen 17 = .ok (.iload_n 2, 1) := by decide +kernel
theorem dX2_readGreen_18 : decode cX2_readGreen 18 = .ok (.invokevirtual 88, 3) := by decide +kernel
theorem dX2_readGreen_21 : decode cX2_readGreen 21 = .ok (.iconst 1, 1) := by decide +kernel
theorem dX2_readGreen_22 : decode cX2_readGreen 22 = .ok (.ireturn, 1) := by decide +kernel
theorem dX2_readCrop_0 : decode cX2_readCrop 0 = .ok (.aload_n 0, 1) := by decide +kernel
theorem dX2_readCrop_1 : decode cX2_readCrop 1 = .ok (.iconst 0, 1) := by decide +kernel
theorem dX2_readCrop_2 : decode cX2_readCrop 2 = .ok (.aload_n 1, 1) := by decide +kernel
theorem dX2_readCrop_3 : decode cX2_readCrop 3 = .ok (.getfield 92, 3) := by decide +kernel
theorem dX2_readCrop_6 : decode cX2_readCrop 6 = .ok (.iconst 1, 1) := by decide +kernel
theorem dX2_readCrop_7 : decode cX2_readCrop 7 = .ok (.isub, 1) := by decide +kernel
theorem dX2_readCrop_8 : decode cX2_readCrop 8 = .ok (.iconst 2, 1) := by decide +kernel
theorem dX2_readCrop_9 : decode cX2_readCrop 9 = .ok (.invokevirtual 84, 3) := by decide +kernel
theorem dX2_readCrop_12 : decode cX2_readCrop 12 = .ok (.istore_n 2, 1) := by decide +kernel
theorem dX2_readCrop_13 : decode cX2_readCrop 13 = .ok (.iload_n 2, 1) := by decide +kernel
theorem dX2_readCrop_14 : decode cX2_readCrop 14 = .ok (.iconst (-1), 1) := by decide +kernel
theorem dX2_readCrop_15 : decode cX2_readCrop 15 = .ok (.if_icmp .ne 5, 3) := by decide +kernel
theorem dX2_readCrop_18 : decode cX2_readCrop 18 = .ok (.iconst 0, 1) := by decide +kernel
theorem dX2_readCrop_19 : decode cX2_readCrop 19 = .ok (.ireturn, 1) := by decide +kernel
theorem dX2_readCrop_20 : decode cX2_readCrop 20 = .ok (.aload_n 0, 1) := by decide +kernel
theorem dX2_readCrop_21 : decode cX2_readCrop 21 = .ok (.iconst 0, 1) := by decide +kernel
theorem dX2_readCrop_22 : decode cX2_readCrop 22 = .ok (.bipush 9, 2) := by decide +kernel
theorem dX2_readCrop_24 : decode cX2_readCrop 24 = .ok (.iconst 2, 1) := by decide +kernel
theorem dX2_readCrop_25 : decode cX2_readCrop 25 = .ok (.invokevirtual 84, 3) := by decide +kernel
theorem dX2_readCrop_28 : decode cX2_readCrop 28 = .ok (.istore_n 3, 1) := by decide +kernel
theorem dX2_readCrop_29 : decode cX2_readCrop 29 = .ok (.iload_n 3, 1) := by decide +kernel
theorem dX2_readCrop_30 : decode cX2_readCrop 30 = .ok (.iconst (-1), 1) := by decide +kernel
theorem dX2_readCrop_31 : decode cX2_readCrop 31 = .ok (.if_icmp .ne 5, 3) := by decide +kernel
theorem dX2_readCrop_34 : decode cX2_readCrop 34 = .ok (.iconst 0, 1) := by decide +kernel
theorem dX2_readCrop_35 : decode cX2_readCrop 35 = .ok (.ireturn, 1) := by decide +kernel
theorem dX2_readCrop_36 : decode cX2_readCrop 36 = .ok (.aload_n 1, 1) := by decide +kernel
theorem dX2_readCrop_37 : decode cX2_readCrop 37 = .ok (.getfield 95, 3) := by decide +kernel
theorem dX2_readCrop_40 : decode cX2_readCrop 40 = .ok (.iload_n 2, 1) := by decide +kernel
theorem dX2_readCrop_41 : decode cX2_readCrop 41 = .ok (.iload_n 3, 1) := by decide +kernel
theorem dX2_readCrop_42 : decode cX2_readCrop 42 = .ok (.iastore, 1) := by decide +kernel
theorem dX2_readCrop_43 : decode cX2_readCrop 43 = .ok (.iconst 1, 1) := by decide +kernel
theorem dX2_readCrop_44 : decode cX2_readCrop 44 = .ok (.ireturn, 1) := by decide +kernel
theorem dX2_readHouse_0 : decode cX2_readHouse 0 = .ok (.aload_n 1, 1) := by decide +kernel
theorem dX2_readHouse_1 : decode cX2_readHouse 1 = .ok (.getfield 97, 3) := by decide +kernel
theorem dX2_readHouse_4 : decode cX2_readHouse 4 = .ok (.bipush 8, 2) := by decide +kernel
theorem dX2_readHouse_6 : decode cX2_readHouse 6 = .ok (.if_icmp .lt 5, 3) := by decide +kernel
theorem dX2_readHouse_9 : decode cX2_readHouse 9 = .ok (.iconst 0, 1) := by decide +kernel
theorem dX2_readHouse_10 : decode cX2_readHouse 10 = .ok (.ireturn, 1) := by decide +kernel
theorem dX2_readHouse_11 : decode cX2_readHouse 11 = .ok (.aload_n 0, 1) := by decide +kernel
theorem dX2_readHouse_12 : decode cX2_readHouse 12 = .ok (.iconst 0, 1) := by decide +kernel
theorem dX2_readHouse_13 : decode cX2_readHouse 13 = .ok (.aload_n 1, 1) := by decide +kernel
theorem dX2_readHouse_14 : decode cX2_readHouse 14 = .ok (.getfield 92, 3) := by decide +kernel
theorem dX2_readHouse_17 : decode cX2_readHouse 17 = .ok (.iconst 1, 1) := by decide +kernel
theorem dX2_readHouse_18 : decode cX2_readHouse 18 = .ok (.isub, 1) := by decide +kernel
theorem dX2_readHouse_19 : decode cX2_readHouse 19 = .ok (.iconst 2, 1) := by decide +kernel
theorem dX2_readHouse_20 : decode cX2_readHouse 20 = .ok (.invokevirtual 84, 3) := by decide +kernel
theorem dX2_readHouse_23 : decode cX2_readHouse 23 = .ok (.istore_n 3, 1) := by decide +kernel
theorem dX2_readHouse_24 : decode cX2_readHouse 24 = .ok (.iload_n 3, 1) := by decide +kernel
theorem dX2_readHouse_25 : decode cX2_readHouse 25 = .ok (.iconst (-1), 1) := by decide +kernel
theorem dX2_readHouse_26 : decode cX2_readHouse 26 = .ok (.if_icmp .eq 16, 3) := by decide +kernel
theorem dX2_readHouse_29 : decode cX2_readHouse 29 = .ok (.aload_n 1, 1) := by decide +kernel
theorem dX2_readHouse_30 : decode cX2_readHouse 30 = .ok (.iload_n 2, 1) := by decide +kernel
theorem dX2_readHouse_31 : decode cX2_readHouse 31 = .ok (.iload_n 3, 1) := by decide +kernel
theorem dX2_readHouse_32 : decode cX2_readHouse 32 = .ok (.invokevirtual 100, 3) := by decide +kernel
theorem dX2_readHouse_35 : decode cX2_readHouse 35 = .ok (.ifCond .eq 7, 3) := by decide +kernel
theorem dX2_readHouse_38 : decode cX2_readHouse 38 = .ok (.iconst 1, 1) := by decide +kernel
theorem dX2_readHouse_39 : decode cX2_readHouse 39 = .ok (.goto 4, 3) := by decide +kernel
theorem dX2_readHouse_42 : decode cX2_readHouse 42 = .ok (.iconst 0, 1) := by decide +kernel
theorem dX2_readHouse_43 : decode cX2_readHouse 43 = .ok (.ireturn, 1) := by decide +kernel
theorem dX2_readPath_0 : decode cX2_readPath 0 = .ok (.aload_n 1, 1) := by decide +kernel
theorem dX2_readPath_1 : decode cX2_readPath 1 = .ok (.getfield 104, 3) := by decide +kernel
theorem dX2_readPath_4 : decode cX2_readPath 4 = .ok (.bipush 6, 2) := by decide +kernel
theorem dX2_readPath_6 : decode cX2_readPath 6 = .ok (.if_icmp .lt 5, 3) := by decide +kernel
theorem dX2_readPath_9 : decode cX2_readPath 9 = .ok (.iconst 0, 1) := by decide +kernel
theorem dX2_readPath_10 : decode cX2_readPath 10 = .ok (.ireturn, 1) := by decide +kernel
theorem dX2_readPath_11 : decode cX2_readPath 11 = .ok (.aload_n 0, 1) := by decide +kernel
theorem dX2_readPath_12 : decode cX2_readPath 12 = .ok (.iconst 0, 1) := by decide +kernel
theorem dX2_readPath_13 : decode cX2_readPath 13 = .ok (.aload_n 1, 1) := by decide +kernel
theorem dX2_readPath_14 : decode cX2_readPath 14 = .ok (.getfield 92, 3) := by decide +kernel
theorem dX2_readPath_17 : decode cX2_readPath 17 = .ok (.iconst 1, 1) := by decide +kernel
theorem dX2_readPath_18 : decode cX2_readPath 18 = .ok (.isub, 1) := by decide +kernel
theorem dX2_readPath_19 : decode cX2_readPath 19 = .ok (.iconst 2, 1) := by decide +kernel
theorem dX2_readPath_20 : decode cX2_readPath 20 = .ok (.invokevirtual 84, 3) := by decide +kernel
theorem dX2_readPath_23 : decode cX2_readPath 23 = .ok (.istore_n 2, 1) := by decide +kernel
theorem dX2_readPath_24 : decode cX2_readPath 24 = .ok (.iload_n 2, 1) := by decide +kernel
theorem dX2_readPath_25 : decode cX2_readPath 25 = .ok (.iconst (-1), 1) := by decide +kernel
theorem dX2_readPath_26 : decode cX2_readPath 26 = .ok (.if_icmp .ne 5, 3) := by decide +kernel
theorem dX2_readPath_29 : decode cX2_readPath 29 = .ok (.iconst 0, 1) := by decide +kernel
theorem dX2_readPath_30 : decode cX2_readPath 30 = .ok (.ireturn, 1) := by decide +kernel
theorem dX2_readPath_31 : decode cX2_readPath 31 = .ok (.aload_n 0, 1) := by decide +kernel
theorem dX2_readPath_32 : decode cX2_readPath 32 = .ok (.iconst 0, 1) := by decide +kernel
theorem dX2_readPath_33 : decode cX2_readPath 33 = .ok (.aload_n 1, 1) := by decide +kernel
theorem dX2_readPath_34 : decode cX2_readPath 34 = .ok (.getfield 92, 3) := by decide +kernel
theorem dX2_readPath_37 : decode cX2_readPath 37 = .ok (.iconst 1, 1) := by decide +kernel
theorem dX2_readPath_38 : decode cX2_readPath 38 = .ok (.isub, 1) := by decide +kernel
theorem dX2_readPath_39 : decode cX2_readPath 39 = .ok (.iconst 2, 1) := by decide +kernel
theorem dX2_readPath_40 : decode cX2_readPath 40 = .ok (.invokevirtual 84, 3) := by decide +kernel
theorem dX2_readPath_43 : decode cX2_readPath 43 = .ok (.istore_n 3, 1) := by decide +kernel
theorem dX2_readPath_44 : decode cX2_readPath 44 = .ok (.iload_n 3, 1) := by decide +kernel
theorem dX2_readPath_45 : decode cX2_readPath 45 = .ok (.iconst (-1), 1) := by decide +kernel
theorem dX2_readPath_46 : decode cX2_readPath 46 = .ok (.if_icmp .eq 16, 3) := by decide +kernel
theorem dX2_readPath_49 : decode cX2_readPath 49 = .ok (.aload_n 1, 1) := by decide +kernel
theorem dX2_readPath_50 : decode cX2_readPath 50 = .ok (.iload_n 2, 1) := by decide +kernel
theorem dX2_readPath_51 : decode cX2_readPath 51 = .ok (.iload_n 3, 1) := by decide +kernel
theorem dX2_readPath_52 : decode cX2_readPath 52 = .ok (.invokevirtual 107, 3) := by decide +kernel
theorem dX2_readPath_55 : decode cX2_readPath 55 = .ok (.ifCond .eq 7, 3) := by decide +kernel
theorem dX2_readPath_58 : decode cX2_readPath 58 = .ok (.iconst 1, 1) := by decide +kernel
theorem dX2_readPath_59 : decode cX2_readPath 59 = .ok (.goto 4, 3) := by decide +kernel
theorem dX2_readPath_62 : decode cX2_readPath 62 = .ok (.iconst 0, 1) := by decide +kernel
theorem dX2_readPath_63 : decode cX2_readPath 63 = .ok (.ireturn, 1) := by decide +kernel
theorem dX2_readFeud_0 : decode cX2_readFeud 0 = .ok (.aload_n 1, 1) := by decide +kernel
theorem dX2_readFeud_1 : decode cX2_readFeud 1 = .ok (.getfield 110, 3) := by decide +kernel
theorem dX2_readFeud_4 : decode cX2_readFeud 4 = .ok (.bipush 6, 2) := by decide +kernel
theorem dX2_readFeud_6 : decode cX2_readFeud 6 = .ok (.if_icmp .lt 5, 3) := by decide +kernel
theorem dX2_readFeud_9 : decode cX2_readFeud 9 = .ok (.iconst 0, 1) := by decide +kernel
theorem dX2_readFeud_10 : decode cX2_readFeud 10 = .ok (.ireturn, 1) := by decide +kernel
theorem dX2_readFeud_11 : decode cX2_readFeud 11 = .ok (.aload_n 0, 1) := by decide +kernel
theorem dX2_readFeud_12 : decode cX2_readFeud 12 = .ok (.iconst 0, 1) := by decide +kernel
theorem dX2_readFeud_13 : decode cX2_readFeud 13 = .ok (.aload_n 1, 1) := by decide +kernel
theorem dX2_readFeud_14 : decode cX2_readFeud 14 = .ok (.getfield 97, 3) := by decide +kernel
theorem dX2_readFeud_17 : decode cX2_readFeud 17 = .ok (.iconst 1, 1) := by decide +kernel
theorem dX2_readFeud_18 : decode cX2_readFeud 18 = .ok (.isub, 1) := by decide +kernel
theorem dX2_readFeud_19 : decode cX2_readFeud 19 = .ok (.iconst 2, 1) := by decide +kernel
theorem dX2_readFeud_20 : decode cX2_readFeud 20 = .ok (.invokevirtual 84, 3) := by decide +kernel
theorem dX2_readFeud_23 : decode cX2_readFeud 23 = .ok (.istore_n 2, 1) := by decide +kernel
theorem dX2_readFeud_24 : decode cX2_readFeud 24 = .ok (.iload_n 2, 1) := by decide +kernel
theorem dX2_readFeud_25 : decode cX2_readFeud 25 = .ok (.iconst (-1), 1) := by decide +kernel
theorem dX2_readFeud_26 : decode cX2_readFeud 26 = .ok (.if_icmp .ne 5, 3) := by decide +kernel
theorem dX2_readFeud_29 : decode cX2_readFeud 29 = .ok (.iconst 0, 1) := by decide +kernel
theorem dX2_readFeud_30 : decode cX2_readFeud 30 = .ok (.ireturn, 1) := by decide +kernel
theorem dX2_readFeud_31 : decode cX2_readFeud 31 = .ok (.aload_n 0, 1) := by decide +kernel
theorem dX2_readFeud_32 : decode cX2_readFeud 32 = .ok (.iconst 0, 1) := by decide +kernel
theorem dX2_readFeud_33 : decode cX2_readFeud 33 = .ok (.aload_n 1, 1) := by decide +kernel
theorem dX2_readFeud_34 : decode cX2_readFeud 34 = .ok (.getfield 97, 3) := by decide +kernel
theorem dX2_readFeud_37 : decode cX2_readFeud 37 = .ok (.iconst 1, 1) := by decide +kernel
theorem dX2_readFeud_38 : decode cX2_readFeud 38 = .ok (.isub, 1) := by decide +kernel
theorem dX2_readFeud_39 : decode cX2_readFeud 39 = .ok (.iconst 2, 1) := by decide +kernel
theorem dX2_readFeud_40 : decode cX2_readFeud 40 = .ok (.invokevirtual 84, 3) := by decide +kernel
theorem dX2_readFeud_43 : decode cX2_readFeud 43 = .ok (.istore_n 3, 1) := by decide +kernel
theorem dX2_readFeud_44 : decode cX2_readFeud 44 = .ok (.iload_n 3, 1) := by decide +kernel
theorem dX2_readFeud_45 : decode cX2_readFeud 45 = .ok (.iconst (-1), 1) := by decide +kernel
theorem dX2_readFeud_46 : decode cX2_readFeud 46 = .ok (.if_icmp .eq 16, 3) := by decide +kernel
theorem dX2_readFeud_49 : decode cX2_readFeud 49 = .ok (.aload_n 1, 1) := by decide +kernel
theorem dX2_readFeud_50 : decode cX2_readFeud 50 = .ok (.iload_n 2, 1) := by decide +kernel
theorem dX2_readFeud_51 : decode cX2_readFeud 51 = .ok (.iload_n 3, 1) := by decide +kernel
theorem dX2_readFeud_52 : decode cX2_readFeud 52 = .ok (.invokevirtual 113, 3) := by decide +kernel
theorem dX2_readFeud_55 : decode cX2_readFeud 55 = .ok (.ifCond .eq 7, 3) := by decide +kernel
theorem dX2_readFeud_58 : decode cX2_readFeud 58 = .ok (.iconst 1, 1) := by decide +kernel
theorem dX2_readFeud_59 : decode cX2_readFeud 59 = .ok (.goto 4, 3) := by decide +kernel
theorem dX2_readFeud_62 : decode cX2_readFeud 62 = .ok (.iconst 0, 1) := by decide +kernel
theorem dX2_readFeud_63 : decode cX2_readFeud 63 = .ok (.ireturn, 1) := by decide +kernel
theorem dX2_readLot_0 : decode cX2_readLot 0 = .ok (.aload_n 0, 1) := by decide +kernel
theorem dX2_readLot_1 : decode cX2_readLot 1 = .ok (.iconst 1, 1) := by decide +kernel
theorem dX2_readLot_2 : decode cX2_readLot 2 = .ok (.sipush 9999, 3) := by decide +kernel
theorem dX2_readLot_5 : decode cX2_readLot 5 = .ok (.iconst 4, 1) := by decide +kernel
theorem dX2_readLot_6 : decode cX2_readLot 6 = .ok (.invokevirtual 84, 3) := by decide +kernel
theorem dX2_readLot_9 : decode cX2_readLot 9 = .ok (.istore_n 2, 1) := by decide +kernel
theorem dX2_readLot_10 : decode cX2_readLot 10 = .ok (.iload_n 2, 1) := by decide +kernel
theorem dX2_readLot_11 : decode cX2_readLot 11 = .ok (.iconst (-1), 1) := by decide +kernel
theorem dX2_readLot_12 : decode cX2_readLot 12 = .ok (.if_icmp .ne 5, 3) := by decide +kernel
theorem dX2_readLot_15 : decode cX2_readLot 15 = .ok (.iconst 0, 1) := by decide +kernel
theorem dX2_readLot_16 : decode cX2_readLot 16 = .ok (.ireturn, 1) := by decide +kernel
theorem dX2_readLot_17 : decode cX2_readLot 17 = .ok (.aload_n 1, 1) := by decide +kernel
theorem dX2_readLot_18 : decode cX2_readLot 18 = .ok (.iconst 3, 1) := by decide +kernel
theorem dX2_readLot_19 : decode cX2_readLot 19 = .ok (.putfield 116, 3) := by decide +kernel
theorem dX2_readLot_22 : decode cX2_readLot 22 = .ok (.aload_n 1, 1) := by decide +kernel
theorem dX2_readLot_23 : decode cX2_readLot 23 = .ok (.iload_n 2, 1) := by decide +kernel
theorem dX2_readLot_24 : decode cX2_readLot 24 = .ok (.putfield 119, 3) := by decide +kernel
theorem dX2_readLot_27 : decode cX2_readLot 27 = .ok (.iconst 1, 1) := by decide +kernel
theorem dX2_readLot_28 : decode cX2_readLot 28 = .ok (.ireturn, 1) := by decide +kernel
theorem dX2_readPlainLaw_0 : decode cX2_readPlainLaw 0 = .ok (.aload_n 0, 1) := by decide +kernel
theorem dX2_readPlainLaw_1 : decode cX2_readPlainLaw 1 = .ok (.invokevirtual 122, 3) := by decide +kernel
theorem dX2_readPlainLaw_4 : decode cX2_readPlainLaw 4 = .ok (.istore_n 2, 1) := by decide +kernel
theorem dX2_readPlainLaw_5 : decode cX2_readPlainLaw 5 = .ok (.iload_n 2, 1) := by decide +kernel
theorem dX2_readPlainLaw_6 : decode cX2_readPlainLaw 6 = .ok (.iconst (-1), 1) := by decide +kernel
theorem dX2_readPlainLaw_7 : decode cX2_readPlainLaw 7 = .ok (.if_icmp .ne 5, 3) := by decide +kernel
theorem dX2_readPlainLaw_10 : decode cX2_readPlainLaw 10 = .ok (.iconst 0, 1) := by decide +kernel
theorem dX2_readPlainLaw_11 : decode cX2_readPlainLaw 11 = .ok (.ireturn, 1) := by decide +kernel
theorem dX2_readPlainLaw_12 : decode cX2_readPlainLaw 12 = .ok (.aload_n 1, 1) := by decide +kernel
theorem dX2_readPlainLaw_13 : decode cX2_readPlainLaw 13 = .ok (.iload_n 2, 1) := by decide +kernel
theorem dX2_readPlainLaw_14 : decode cX2_readPlainLaw 14 = .ok (.putfield 116, 3) := by decide +kernel
theorem dX2_readPlainLaw_17 : decode cX2_readPlainLaw 17 = .ok (.iconst 1, 1) := by decide +kernel
theorem dX2_readPlainLaw_18 : decode cX2_readPlainLaw 18 = .ok (.ireturn, 1) := by decide +kernel
theorem dX2_kindHere_0 : decode cX2_kindHere 0 = .ok (.aload_n 0, 1) := by decide +kernel
theorem dX2_kindHere_1 : decode cX2_kindHere 1 = .ok (.ldc 125, 2) := by decide +kernel
theorem dX2_kindHere_3 : decode cX2_kindHere 3 = .ok (.invokevirtual 39, 3) := by decide +kernel
theorem dX2_kindHere_6 : decode cX2_kindHere 6 = .ok (.ifCond .eq 5, 3) := by decide +kernel
theorem dX2_kindHere_9 : decode cX2_kindHere 9 = .ok (.iconst 0, 1) := by decide +kernel
theorem dX2_kindHere_10 : decode cX2_kindHere 10 = .ok (.ireturn, 1) := by decide +kernel
theorem dX2_kindHere_11 : decode cX2_kindHere 11 = .ok (.aload_n 0, 1) := by decide +kernel
theorem dX2_kindHere_12 : decode cX2_kindHere 12 = .ok (.ldc 127, 2) := by decide +kernel
theorem dX2_kindHere_14 : decode cX2_kindHere 14 = .ok (.invokevirtual 39, 3) := by decide +kernel
theorem dX2_kindHere_17 : decode cX2_kindHere 17 = .ok (.ifCond .eq 5, 3) := by decide +kernel
theorem dX2_kindHere_20 : decode cX2_kindHere 20 = .ok (.iconst 1, 1) := by decide +kernel
theorem dX2_kindHere_21 : decode cX2_kindHere 21 = .ok (.ireturn, 1) := by decide +kernel
theorem dX2_kindHere_22 : decode cX2_kindHere 22 = .ok (.aload_n 0, 1) := by decide +kernel
theorem dX2_kindHere_23 : decode cX2_kindHere 23 = .ok (.ldc 129, 2) := by decide +kernel
theorem dX2_kindHere_25 : decode cX2_kindHere 25 = .ok (.invokevirtual 39, 3) := by decide +kernel
theorem dX2_kindHere_28 : decode cX2_kindHere 28 = .ok (.ifCond .eq 5, 3) := by decide +kernel
theorem dX2_kindHere_31 : decode cX2_kindHere 31 = .ok (.iconst 2, 1) := by decide +kernel
theorem dX2_kindHere_32 : decode cX2_kindHere 32 = .ok (.ireturn, 1) := by decide +kernel
theorem dX2_kindHere_33 : decode cX2_kindHere 33 = .ok (.aload_n 0, 1) := by decide +kernel
theorem dX2_kindHere_34 : decode cX2_kindHere 34 = .ok (.ldc 131, 2) := by decide +kernel
theorem dX2_kindHere_36 : decode cX2_kindHere 36 = .ok (.invokevirtual 39, 3) := by decide +kernel
theorem dX2_kindHere_39 : decode cX2_kindHere 39 = .ok (.ifCond .eq 7, 3) := by decide +kernel
theorem dX2_kindHere_42 : decode cX2_kindHere 42 = .ok (.iconst 3, 1) := by decide +kernel
theorem dX2_kindHere_43 : decode cX2_kindHere 43 = .ok (.goto 4, 3) := by decide +kernel
theorem dX2_kindHere_46 : decode cX2_kindHere 46 = .ok (.iconst (-1), 1) := by decide +kernel
theorem dX2_kindHere_47 : decode cX2_kindHere 47 = .ok (.ireturn, 1) := by decide +kernel
theorem dX2_plainLawHere_0 : decode cX2_plainLawHere 0 = .ok (.aload_n 0, 1) := by decide +kernel
theorem dX2_plainLawHere_1 : decode cX2_plainLawHere 1 = .ok (.ldc 133, 2) := by decide +kernel
theorem dX2_plainLawHere_3 : decode cX2_plainLawHere 3 = .ok (.invokevirtual 39, 3) := by decide +kernel
theorem dX2_plainLawHere_6 : decode cX2_plainLawHere 6 = .ok (.ifCond .eq 5, 3) := by decide +kernel
theorem dX2_plainLawHere_9 : decode cX2_plainLawHere 9 = .ok (.iconst 0, 1) := by decide +kernel
theorem dX2_plainLawHere_10 : decode cX2_plainLawHere 10 = .ok (.ireturn, 1) := by decide +kernel
theorem dX2_plainLawHere_11 : decode cX2_plainLawHere 11 = .ok (.aload_n 0, 1) := by decide +kernel
theorem dX2_plainLawHere_12 : decode cX2_plainLawHere 12 = .ok (.ldc 135, 2) := by decide +kernel
theorem dX2_plainLawHere_14 : decode cX2_plainLawHere 14 = .ok (.invokevirtual 39, 3) := by decide +kernel
theorem dX2_plainLawHere_17 : decode cX2_plainLawHere 17 = .ok (.ifCond .eq 5, 3) := by decide +kernel
theorem dX2_plainLawHere_20 : decode cX2_plainLawHere 20 = .ok (.iconst 1, 1) := by decide +kernel
theorem dX2_plainLawHere_21 : decode cX2_plainLawHere 21 = .ok (.ireturn, 1) := by decide +kernel
theorem dX2_plainLawHere_22 : decode cX2_plainLawHere 22 = .ok (.aload_n 0, 1) := by decide +kernel
theorem dX2_plainLawHere_23 : decode cX2_plainLawHere 23 = .ok (.ldc 137, 2) := by decide +kernel
theorem dX2_plainLawHere_25 : decode cX2_plainLawHere 25 = .ok (.invokevirtual 39, 3) := by decide +kernel
theorem dX2_plainLawHere_28 : decode cX2_plainLawHere 28 = .ok (.ifCond .eq 7, 3) := by decide +kernel
theorem dX2_plainLawHere_31 : decode cX2_plainLawHere 31 = .ok (.iconst 2, 1) := by decide +kernel
theorem dX2_plainLawHere_32 : decode cX2_plainLawHere 32 = .ok (.goto 4, 3) := by decide +kernel
theorem dX2_plainLawHere_35 : decode cX2_plainLawHere 35 = .ok (.iconst (-1), 1) := by decide +kernel
theorem dX2_plainLawHere_36 : decode cX2_plainLawHere 36 = .ok (.ireturn, 1) := by decide +kernel
theorem dX2_stepToToken_0 : decode cX2_stepToToken 0 = .ok (.aload_n 0, 1) := by decide +kernel
theorem dX2_stepToToken_1 : decode cX2_stepToToken 1 = .ok (.getfield 21, 3) := by decide +kernel
theorem dX2_stepToToken_4 : decode cX2_stepToToken 4 = .ok (.istore_n 1, 1) := by decide +kernel
theorem dX2_stepToToken_5 : decode cX2_stepToToken 5 = .ok (.iload_n 1, 1) := by decide +kernel
theorem dX2_stepToToken_6 : decode cX2_stepToToken 6 = .ok (.aload_n 0, 1) := by decide +kernel
theorem dX2_stepToToken_7 : decode cX2_stepToToken 7 = .ok (.getfield 15, 3) := by decide +kernel
theorem dX2_stepToToken_10 : decode cX2_stepToToken 10 = .ok (.if_icmp .ge 20, 3) := by decide +kernel
theorem dX2_stepToToken_13 : decode cX2_stepToToken 13 = .ok (.aload_n 0, 1) := by decide +kernel
theorem dX2_stepToToken_14 : decode cX2_stepToToken 14 = .ok (.getfield 9, 3) := by decide +kernel
theorem dX2_stepToToken_17 : decode cX2_stepToToken 17 = .ok (.iload_n 1, 1) := by decide +kernel
theorem dX2_stepToToken_18 : decode cX2_stepToToken 18 = .ok (.iaload, 1) := by decide +kernel
theorem dX2_stepToToken_19 : decode cX2_stepToToken 19 = .ok (.bipush 32, 2) := by decide +kernel
theorem dX2_stepToToken_21 : decode cX2_stepToToken 21 = .ok (.if_icmp .ne 9, 3) := by decide +kernel
theorem dX2_stepToToken_24 : decode cX2_stepToToken 24 = .ok (.iinc 1 1, 3) := by decide +kernel
theorem dX2_stepToToken_27 : decode cX2_stepToToken 27 = .ok (.goto (-22), 3) := by decide +kernel
theorem dX2_stepToToken_30 : decode cX2_stepToToken 30 = .ok (.aload_n 0, 1) := by decide +kernel
theorem dX2_stepToToken_31 : decode cX2_stepToToken 31 = .ok (.iload_n 1, 1) := by decide +kernel
theorem dX2_stepToToken_32 : decode cX2_stepToToken 32 = .ok (.putfield 34, 3) := by decide +kernel
theorem dX2_stepToToken_35 : decode cX2_stepToToken 35 = .ok (.iload_n 1, 1) := by decide +kernel
theorem dX2_stepToToken_36 : decode cX2_stepToToken 36 = .ok (.aload_n 0, 1) := by decide +kernel
theorem dX2_stepToToken_37 : decode cX2_stepToToken 37 = .ok (.getfield 15, 3) := by decide +kernel
theorem dX2_stepToToken_40 : decode cX2_stepToToken 40 = .ok (.if_icmp .ge 47, 3) := by decide +kernel
theorem dX2_stepToToken_43 : decode cX2_stepToToken 43 = .ok (.aload_n 0, 1) := by decide +kernel
theorem dX2_stepToToken_44 : decode cX2_stepToToken 44 = .ok (.getfield 9, 3) := by decide +kernel
theorem dX2_stepToToken_47 : decode cX2_stepToToken 47 = .ok (.iload_n 1, 1) := by decide +kernel
theorem dX2_stepToToken_48 : decode cX2_stepToToken 48 = .ok (.iaload, 1) := by decide +kernel
theorem dX2_stepToToken_49 : decode cX2_stepToToken 49 = .ok (.invokestatic 139, 3) := by decide +kernel
theorem dX2_stepToToken_52 : decode cX2_stepToToken 52 = .ok (.istore_n 2, 1) := by decide +kernel
theorem dX2_stepToToken_53 : decode cX2_stepToToken 53 = .ok (.iinc 1 1, 3) := by decide +kernel
theorem dX2_stepToToken_56 : decode cX2_stepToToken 56 = .ok (.iload_n 1, 1) := by decide +kernel
theorem dX2_stepToToken_57 : decode cX2_stepToToken 57 = .ok (.aload_n 0, 1) := by decide +kernel
theorem dX2_stepToToken_58 : decode cX2_stepToToken 58 = .ok (.getfield 15, 3) := by decide +kernel
theorem dX2_stepToToken_61 : decode cX2_stepToToken 61 = .ok (.if_icmp .ge 26, 3) := by decide +kernel
theorem dX2_stepToToken_64 : decode cX2_stepToToken 64 = .ok (.iload_n 2, 1) := by decide +kernel
theorem dX2_stepToToken_65 : decode cX2_stepToToken 65 = .ok (.ifCond .eq 22, 3) := by decide +kernel
theorem dX2_stepToToken_68 : decode cX2_stepToToken 68 = .ok (.aload_n 0, 1) := by decide +kernel
theorem dX2_stepToToken_69 : decode cX2_stepToToken 69 = .ok (.getfield 9, 3) := by decide +kernel
theorem dX2_stepToToken_72 : decode cX2_stepToToken 72 = .ok (.iload_n 1, 1) := by decide +kernel
theorem dX2_stepToToken_73 : decode cX2_stepToToken 73 = .ok (.iaload, 1) := by decide +kernel
theorem dX2_stepToToken_74 : decode cX2_stepToToken 74 = .ok (.invokestatic 139, 3) := by decide +kernel
theorem dX2_stepToToken_77 : decode cX2_stepToToken 77 = .ok (.iload_n 2, 1) := by decide +kernel
theorem dX2_stepToToken_78 : decode cX2_stepToToken 78 = .ok (.if_icmp .ne 9, 3) := by decide +kernel
theorem dX2_stepToToken_81 : decode cX2_stepToToken 81 = .ok (.iinc 1 1, 3) := by decide +kernel
theorem dX2_stepToToken_84 : decode cX2_stepToToken 84 = .ok (.goto (-28), 3) := by decide +kernel
theorem dX2_stepToToken_87 : decode cX2_stepToToken 87 = .ok (.aload_n 0, 1) := by decide +kernel
theorem dX2_stepToToken_88 : decode cX2_stepToToken 88 = .ok (.iload_n 1, 1) := by decide +kernel
theorem dX2_stepToToken_89 : decode cX2_stepToToken 89 = .ok (.putfield 21, 3) := by decide +kernel
theorem dX2_stepToToken_92 : decode cX2_stepToToken 92 = .ok (.return_, 1) := by decide +kernel
theorem dX2_sortOf_0 : decode cX2_sortOf 0 = .ok (.iload_n 0, 1) := by decide +kernel
theorem dX2_sortOf_1 : decode cX2_sortOf 1 = .ok (.bipush 97, 2) := by decide +kernel
theorem dX2_sortOf_3 : decode cX2_sortOf 3 = .ok (.if_icmp .lt 11, 3) := by decide +kernel
theorem dX2_sortOf_6 : decode cX2_sortOf 6 = .ok (.iload_n 0, 1) := by decide +kernel
theorem dX2_sortOf_7 : decode cX2_sortOf 7 = .ok (.bipush 122, 2) := by decide +kernel
theorem dX2_sortOf_9 : decode cX2_sortOf 9 = .ok (.if_icmp .gt 5, 3) := by decide +kernel
theorem dX2_sortOf_12 : decode cX2_sortOf 12 = .ok (.iconst 1, 1) := by decide +kernel
theorem dX2_sortOf_13 : decode cX2_sortOf 13 = .ok (.ireturn, 1) := by decide +kernel
theorem dX2_sortOf_14 : decode cX2_sortOf 14 = .ok (.iload_n 0, 1) := by decide +kernel
theorem dX2_sortOf_15 : decode cX2_sortOf 15 = .ok (.bipush 48, 2) := by decide +kernel
theorem dX2_sortOf_17 : decode cX2_sortOf 17 = .ok (.if_icmp .lt 13, 3) := by decide +kernel
theorem dX2_sortOf_20 : decode cX2_sortOf 20 = .ok (.iload_n 0, 1) := by decide +kernel
theorem dX2_sortOf_21 : decode cX2_sortOf 21 = .ok (.bipush 57, 2) := by decide +kernel
theorem dX2_sortOf_23 : decode cX2_sortOf 23 = .ok (.if_icmp .gt 7, 3) := by decide +kernel
theorem dX2_sortOf_26 : decode cX2_sortOf 26 = .ok (.iconst 2, 1) := by decide +kernel
theorem dX2_sortOf_27 : decode cX2_sortOf 27 = .ok (.goto 4, 3) := by decide +kernel
theorem dX2_sortOf_30 : decode cX2_sortOf 30 = .ok (.iconst 0, 1) := by decide +kernel
theorem dX2_sortOf_31 : decode cX2_sortOf 31 = .ok (.ireturn, 1) := by decide +kernel
theorem dX2_isWord_0 : decode cX2_isWord 0 = .ok (.aload_n 0, 1) := by decide +kernel
theorem dX2_isWord_1 : decode cX2_isWord 1 = .ok (.getfield 21, 3) := by decide +kernel
theorem dX2_isWord_4 : decode cX2_isWord 4 = .ok (.aload_n 0, 1) := by decide +kernel
theorem dX2_isWord_5 : decode cX2_isWord 5 = .ok (.getfield 34, 3) := by decide +kernel
theorem dX2_isWord_8 : decode cX2_isWord 8 = .ok (.isub, 1) := by decide +kernel
theorem dX2_isWord_9 : decode cX2_isWord 9 = .ok (.aload_n 1, 1) := by decide +kernel
theorem dX2_isWord_10 : decode cX2_isWord 10 = .ok (.invokevirtual 143, 3) := by decide +kernel
theorem dX2_isWord_13 : decode cX2_isWord 13 = .ok (.if_icmp .eq 5, 3) := by decide +kernel
theorem dX2_isWord_16 : decode cX2_isWord 16 = .ok (.iconst 0, 1) := by decide +kernel
theorem dX2_isWord_17 : decode cX2_isWord 17 = .ok (.ireturn, 1) := by decide +kernel
theorem dX2_isWord_18 : decode cX2_isWord 18 = .ok (.iconst 0, 1) := by decide +kernel
theorem dX2_isWord_19 : decode cX2_isWord 19 = .ok (.istore_n 2, 1) := by decide +kernel
theorem dX2_isWord_20 : decode cX2_isWord 20 = .ok (.iload_n 2, 1) := by decide +kernel
theorem dX2_isWord_21 : decode cX2_isWord 21 = .ok (.aload_n 1, 1) := by decide +kernel
theorem dX2_isWord_22 : decode cX2_isWord 22 = .ok (.invokevirtual 143, 3) := by decide +kernel
theorem dX2_isWord_25 : decode cX2_isWord 25 = .ok (.if_icmp .ge 30, 3) := by decide +kernel
theorem dX2_isWord_28 : decode cX2_isWord 28 = .ok (.aload_n 0, 1) := by decide +kernel
theorem dX2_isWord_29 : decode cX2_isWord 29 = .ok (.getfield 9, 3) := by decide +kernel
theorem dX2_isWord_32 : decode cX2_isWord 32 = .ok (.aload_n 0, 1) := by decide +kernel
theorem dX2_isWord_33 : decode cX2_isWord 33 = .ok (.getfield 34, 3) := by decide +kernel
theorem dX2_isWord_36 : decode cX2_isWord 36 = .ok (.iload_n 2, 1) := by decide +kernel
theorem dX2_isWord_37 : decode cX2_isWord 37 = .ok (.iadd, 1) := by decide +kernel
theorem dX2_isWord_38 : decode cX2_isWord 38 = .ok (.iaload, 1) := by decide +kernel
theorem dX2_isWord_39 : decode cX2_isWord 39 = .ok (.aload_n 1, 1) := by decide +kernel
theorem dX2_isWord_40 : decode cX2_isWord 40 = .ok (.iload_n 2, 1) := by decide +kernel
theorem dX2_isWord_41 : decode cX2_isWord 41 = .ok (.invokevirtual 147, 3) := by decide +kernel
theorem dX2_isWord_44 : decode cX2_isWord 44 = .ok (.if_icmp .eq 5, 3) := by decide +kernel
theorem dX2_isWord_47 : decode cX2_isWord 47 = .ok (.iconst 0, 1) := by decide +kernel
theorem dX2_isWord_48 : decode cX2_isWord 48 = .ok (.ireturn, 1) := by decide +kernel
theorem dX2_isWord_49 : decode cX2_isWord 49 = .ok (.iinc 2 1, 3) := by decide +kernel
theorem dX2_isWord_52 : decode cX2_isWord 52 = .ok (.goto (-32), 3) := by decide +kernel
theorem dX2_isWord_55 : decode cX2_isWord 55 = .ok (.iconst 1, 1) := by decide +kernel
theorem dX2_isWord_56 : decode cX2_isWord 56 = .ok (.ireturn, 1) := by decide +kernel
theorem dX2_readNumber_0 : decode cX2_readNumber 0 = .ok (.aload_n 0, 1) := by decide +kernel
theorem dX2_readNumber_1 : decode cX2_readNumber 1 = .ok (.invokevirtual 27, 3) := by decide +kernel
theorem dX2_readNumber_4 : decode cX2_readNumber 4 = .ok (.aload_n 0, 1) := by decide +kernel
theorem dX2_readNumber_5 : decode cX2_readNumber 5 = .ok (.getfield 21, 3) := by decide +kernel
theorem dX2_readNumber_8 : decode cX2_readNumber 8 = .ok (.aload_n 0, 1) := by decide +kernel
theorem dX2_readNumber_9 : decode cX2_readNumber 9 = .ok (.getfield 34, 3) := by decide +kernel
theorem dX2_readNumber_12 : decode cX2_readNumber 12 = .ok (.isub, 1) := by decide +kernel
theorem dX2_readNumber_13 : decode cX2_readNumber 13 = .ok (.istore 4, 2) := by decide +kernel
theorem dX2_readNumber_15 : decode cX2_readNumber 15 = .ok (.iload 4, 2) := by decide +kernel
theorem dX2_readNumber_17 : decode cX2_readNumber 17 = .ok (.iconst 1, 1) := by decide +kernel
theorem dX2_readNumber_18 : decode cX2_readNumber 18 = .ok (.if_icmp .lt 25, 3) := by decide +kernel
theorem dX2_readNumber_21 : decode cX2_readNumber 21 = .ok (.iload 4, 2) := by decide +kernel
theorem dX2_readNumber_23 : decode cX2_readNumber 23 = .ok (.iload_n 3, 1) := by decide +kernel
theorem dX2_readNumber_24 : decode cX2_readNumber 24 = .ok (.if_icmp .gt 19, 3) := by decide +kernel
theorem dX2_readNumber_27 : decode cX2_readNumber 27 = .ok (.aload_n 0, 1) := by decide +kernel
theorem dX2_readNumber_28 : decode cX2_readNumber 28 = .ok (.getfield 9, 3) := by decide +kernel
theorem dX2_readNumber_31 : decode cX2_readNumber 31 = .ok (.aload_n 0, 1) := by decide +kernel
theorem dX2_readNumber_32 : decode cX2_readNumber 32 = .ok (.getfield 34, 3) := by decide +kernel
theorem dX2_readNumber_35 : decode cX2_readNumber 35 = .ok (.iaload, 1) := by decide +kernel
theorem dX2_readNumber_36 : decode cX2_readNumber 36 = .ok (.invokestatic 139, 3) := by decide +kernel
theorem dX2_readNumber_39 : decode cX2_readNumber 39 = .ok (.iconst 2, 1) := by decide +kernel
theorem dX2_readNumber_40 : decode cX2_readNumber 40 = .ok (.if_icmp .eq 5, 3) := by decide +kernel
theorem dX2_readNumber_43 : decode cX2_readNumber 43 = .ok (.iconst (-1), 1) := by decide +kernel
theorem dX2_readNumber_44 : decode cX2_readNumber 44 = .ok (.ireturn, 1) := by decide +kernel
theorem dX2_readNumber_45 : decode cX2_readNumber 45 = .ok (.iconst 0, 1) := by decide +kernel
theorem dX2_readNumber_46 : decode cX2_readNumber 46 = .ok (.istore 5, 2) := by decide +kernel
theorem dX2_readNumber_48 : decode cX2_readNumber 48 = .ok (.aload_n 0, 1) := by decide +kernel
theorem dX2_readNumber_49 : decode cX2_readNumber 49 = .ok (.getfield 34, 3) := by decide +kernel
theorem dX2_readNumber_52 : decode cX2_readNumber 52 = .ok (.istore 6, 2) := by decide +kernel
theorem dX2_readNumber_54 : decode cX2_readNumber 54 = .ok (.iload 6, 2) := by decide +kernel
theorem dX2_readNumber_56 : decode cX2_readNumber 56 = .ok (.aload_n 0, 1) := by decide +kernel
theorem dX2_readNumber_57 : decode cX2_readNumber 57 = .ok (.getfield 21, 3) := by decide +kernel
theorem dX2_readNumber_60 : decode cX2_readNumber 60 = .ok (.if_icmp .ge 27, 3) := by decide +kernel
theorem dX2_readNumber_63 : decode cX2_readNumber 63 = .ok (.bipush 10, 2) := by decide +kernel
theorem dX2_readNumber_65 : decode cX2_readNumber 65 = .ok (.iload 5, 2) := by decide +kernel
theorem dX2_readNumber_67 : decode cX2_readNumber 67 = .ok (.imul, 1) := by decide +kernel
theorem dX2_readNumber_68 : decode cX2_readNumber 68 = .ok (.aload_n 0, 1) := by decide +kernel
theorem dX2_readNumber_69 : decode cX2_readNumber 69 = .ok (.getfield 9, 3) := by decide +kernel
theorem dX2_readNumber_72 : decode cX2_readNumber 72 = .ok (.iload 6, 2) := by decide +kernel
theorem dX2_readNumber_74 : decode cX2_readNumber 74 = .ok (.iaload, 1) := by decide +kernel
theorem dX2_readNumber_75 : decode cX2_readNumber 75 = .ok (.iadd, 1) := by decide +kernel
theorem dX2_readNumber_76 : decode cX2_readNumber 76 = .ok (.bipush 48, 2) := by decide +kernel
theorem dX2_readNumber_78 : decode cX2_readNumber 78 = .ok (.isub, 1) := by decide +kernel
theorem dX2_readNumber_79 : decode cX2_readNumber 79 = .ok (.istore 5, 2) := by decide +kernel
theorem dX2_readNumber_81 : decode cX2_readNumber 81 = .ok (.iinc 6 1, 3) := by decide +kernel
theorem dX2_readNumber_84 : decode cX2_readNumber 84 = .ok (.goto (-30), 3) := by decide +kernel
theorem dX2_readNumber_87 : decode cX2_readNumber 87 = .ok (.iload 5, 2) := by decide +kernel
theorem dX2_readNumber_89 : decode cX2_readNumber 89 = .ok (.iload_n 1, 1) := by decide +kernel
theorem dX2_readNumber_90 : decode cX2_readNumber 90 = .ok (.if_icmp .lt 9, 3) := by decide +kernel
theorem dX2_readNumber_93 : decode cX2_readNumber 93 = .ok (.iload 5, 2) := by decide +kernel
theorem dX2_readNumber_95 : decode cX2_readNumber 95 = .ok (.iload_n 2, 1) := by decide +kernel
theorem dX2_readNumber_96 : decode cX2_readNumber 96 = .ok (.if_icmp .le 7, 3) := by decide +kernel
theorem dX2_readNumber_99 : decode cX2_readNumber 99 = .ok (.iconst (-1), 1) := by decide +kernel
theorem dX2_readNumber_100 : decode cX2_readNumber 100 = .ok (.goto 5, 3) := by decide +kernel
theorem dX2_readNumber_103 : decode cX2_readNumber 103 = .ok (.iload 5, 2) := by decide +kernel
theorem dX2_readNumber_105 : decode cX2_readNumber 105 = .ok (.ireturn, 1) := by decide +kernel
