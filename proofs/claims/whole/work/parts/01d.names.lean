theorem dX2_readInto_0 : decode cX2_readInto 0 = .ok (.aload_n 0, 1) := by decide +kernel
theorem dX2_readInto_1 : decode cX2_readInto 1 = .ok (.iconst 0, 1) := by decide +kernel
theorem dX2_readInto_2 : decode cX2_readInto 2 = .ok (.putfield 21, 3) := by decide +kernel
theorem dX2_readInto_5 : decode cX2_readInto 5 = .ok (.aload_n 0, 1) := by decide +kernel
theorem dX2_readInto_6 : decode cX2_readInto 6 = .ok (.iconst 1, 1) := by decide +kernel
theorem dX2_readInto_7 : decode cX2_readInto 7 = .ok (.putfield 24, 3) := by decide +kernel
theorem dX2_readInto_10 : decode cX2_readInto 10 = .ok (.aload_n 0, 1) := by decide +kernel
theorem dX2_readInto_11 : decode cX2_readInto 11 = .ok (.getfield 24, 3) := by decide +kernel
theorem dX2_readInto_14 : decode cX2_readInto 14 = .ok (.bipush 12, 2) := by decide +kernel
theorem dX2_readInto_16 : decode cX2_readInto 16 = .ok (.if_icmp .gt 69, 3) := by decide +kernel
theorem dX2_readInto_19 : decode cX2_readInto 19 = .ok (.aload_n 0, 1) := by decide +kernel
theorem dX2_readInto_20 : decode cX2_readInto 20 = .ok (.invokevirtual 27, 3) := by decide +kernel
theorem dX2_readInto_23 : decode cX2_readInto 23 = .ok (.aload_n 0, 1) := by decide +kernel
theorem dX2_readInto_24 : decode cX2_readInto 24 = .ok (.aload_n 1, 1) := by decide +kernel
theorem dX2_readInto_25 : decode cX2_readInto 25 = .ok (.invokevirtual 30, 3) := by decide +kernel
theorem dX2_readInto_28 : decode cX2_readInto 28 = .ok (.ifCond .ne 8, 3) := by decide +kernel
theorem dX2_readInto_31 : decode cX2_readInto 31 = .ok (.aload_n 0, 1) := by decide +kernel
theorem dX2_readInto_32 : decode cX2_readInto 32 = .ok (.getfield 34, 3) := by decide +kernel
theorem dX2_readInto_35 : decode cX2_readInto 35 = .ok (.ireturn, 1) := by decide +kernel
theorem dX2_readInto_36 : decode cX2_readInto 36 = .ok (.aload_n 0, 1) := by decide +kernel
theorem dX2_readInto_37 : decode cX2_readInto 37 = .ok (.invokevirtual 27, 3) := by decide +kernel
theorem dX2_readInto_40 : decode cX2_readInto 40 = .ok (.aload_n 0, 1) := by decide +kernel
theorem dX2_readInto_41 : decode cX2_readInto 41 = .ok (.getfield 34, 3) := by decide +kernel
theorem dX2_readInto_44 : decode cX2_readInto 44 = .ok (.aload_n 0, 1) := by decide +kernel
theorem dX2_readInto_45 : decode cX2_readInto 45 = .ok (.getfield 15, 3) := by decide +kernel
theorem dX2_readInto_48 : decode cX2_readInto 48 = .ok (.if_icmp .lt 5, 3) := by decide +kernel
theorem dX2_readInto_51 : decode cX2_readInto 51 = .ok (.iconst (-1), 1) := by decide +kernel
theorem dX2_readInto_52 : decode cX2_readInto 52 = .ok (.ireturn, 1) := by decide +kernel
theorem dX2_readInto_53 : decode cX2_readInto 53 = .ok (.aload_n 0, 1) := by decide +kernel
theorem dX2_readInto_54 : decode cX2_readInto 54 = .ok (.getfield 9, 3) := by decide +kernel
theorem dX2_readInto_57 : decode cX2_readInto 57 = .ok (.aload_n 0, 1) := by decide +kernel
theorem dX2_readInto_58 : decode cX2_readInto 58 = .ok (.getfield 34, 3) := by decide +kernel
theorem dX2_readInto_61 : decode cX2_readInto 61 = .ok (.iaload, 1) := by decide +kernel
theorem dX2_readInto_62 : decode cX2_readInto 62 = .ok (.bipush 59, 2) := by decide +kernel
theorem dX2_readInto_64 : decode cX2_readInto 64 = .ok (.if_icmp .eq 8, 3) := by decide +kernel
theorem dX2_readInto_67 : decode cX2_readInto 67 = .ok (.aload_n 0, 1) := by decide +kernel
theorem dX2_readInto_68 : decode cX2_readInto 68 = .ok (.getfield 34, 3) := by decide +kernel
theorem dX2_readInto_71 : decode cX2_readInto 71 = .ok (.ireturn, 1) := by decide +kernel
theorem dX2_readInto_72 : decode cX2_readInto 72 = .ok (.aload_n 0, 1) := by decide +kernel
theorem dX2_readInto_73 : decode cX2_readInto 73 = .ok (.dup, 1) := by decide +kernel
theorem dX2_readInto_74 : decode cX2_readInto 74 = .ok (.getfield 24, 3) := by decide +kernel
theorem dX2_readInto_77 : decode cX2_readInto 77 = .ok (.iconst 1, 1) := by decide +kernel
theorem dX2_readInto_78 : decode cX2_readInto 78 = .ok (.iadd, 1) := by decide +kernel
theorem dX2_readInto_79 : decode cX2_readInto 79 = .ok (.putfield 24, 3) := by decide +kernel
theorem dX2_readInto_82 : decode cX2_readInto 82 = .ok (.goto (-72), 3) := by decide +kernel
theorem dX2_readInto_85 : decode cX2_readInto 85 = .ok (.aload_n 0, 1) := by decide +kernel
theorem dX2_readInto_86 : decode cX2_readInto 86 = .ok (.getfield 34, 3) := by decide +kernel
theorem dX2_readInto_89 : decode cX2_readInto 89 = .ok (.ireturn, 1) := by decide +kernel
set_option maxRecDepth 20000 in
theorem ggX2_readLine_X2_isWord : GoodIn wsX2_readLine wsX2_isWord := goodIn_r _ [5, 6, 7, 8, 9, 10, 11, 12, 13, 14, 15, 16, 17, 18, 19, 20, 21, 22, 23, 24, 25, 26, 27, 28, 29, 30, 31, 32, 33, 34, 35, 36, 37, 38, 39, 40, 41, 42, 43, 44, 45, 46, 47, 48, 49, 50, 51, 52, 53, 54, 55, 56, 57, 175, 176, 177, 178, 179] (by decide +kernel) (by decide +kernel)
set_option maxRecDepth 20000 in
theorem gX2_readLine_X2_isWord : GoodIn wsX2_readLine (wsV RX2 39 RX2 yX2_isWord wsX2_isWord) := goodIn_app (goodIn_of _ (by decide +kernel)) ggX2_readLine_X2_isWord
set_option maxRecDepth 20000 in
theorem ggX2_readLine_X2_readGreen : GoodIn wsX2_readLine wsX2_readGreen := goodIn_r _ [61, 62, 63, 64, 4, 65, 6, 7, 8, 66, 67, 68, 69, 70, 71, 72, 73, 74, 75, 76, 77, 78, 79, 80, 81, 82, 83, 84, 85, 86, 87, 88, 89, 90, 91, 92, 93, 94, 95, 96, 97, 98, 99, 100, 175, 176, 177, 178, 179, 180, 181, 182, 183, 184, 185, 186, 187, 188, 189, 190, 191, 192] (by decide +kernel) (by decide +kernel)
set_option maxRecDepth 20000 in
theorem gX2_readLine_X2_readGreen : GoodIn wsX2_readLine (wsV RX2 43 RX2 yX2_readGreen wsX2_readGreen) := goodIn_app (goodIn_of _ (by decide +kernel)) ggX2_readLine_X2_readGreen
set_option maxRecDepth 20000 in
theorem ggX2_readLine_X2_readCrop : GoodIn wsX2_readLine wsX2_readCrop := goodIn_r _ [104, 105, 106, 62, 63, 64, 4, 65, 6, 7, 8, 66, 67, 68, 69, 70, 71, 72, 73, 74, 75, 76, 77, 78, 79, 80, 180, 181, 182, 183, 184, 185, 186, 187, 188, 189, 190, 191, 192, 175, 176, 177, 178, 179] (by decide +kernel) (by decide +kernel)
set_option maxRecDepth 20000 in
theorem gX2_readLine_X2_readCrop : GoodIn wsX2_readLine (wsV RX2 48 RX2 yX2_readCrop wsX2_readCrop) := goodIn_app (goodIn_of _ (by decide +kernel)) ggX2_readLine_X2_readCrop
set_option maxRecDepth 20000 in
theorem ggX2_readLine_X2_kindHere : GoodIn wsX2_readLine wsX2_kindHere := goodIn_r _ [110, 1, 2, 3, 4, 5, 6, 7, 8, 9, 10, 11, 12, 13, 14, 15, 16, 17, 18, 19, 20, 21, 22, 23, 24, 25, 26, 27, 28, 29, 30, 31, 32, 33, 34, 35, 36, 37, 38, 39, 40, 41, 42, 43, 44, 45, 46, 47, 48, 49, 50, 51, 52, 53, 54, 55, 56, 57, 175, 176, 177, 178, 179] (by decide +kernel) (by decide +kernel)
set_option maxRecDepth 20000 in
theorem gX2_readLine_X2_kindHere : GoodIn wsX2_readLine (wsV RX2 51 RX2 yX2_kindHere wsX2_kindHere) := goodIn_app (goodIn_of _ (by decide +kernel)) ggX2_readLine_X2_kindHere
set_option maxRecDepth 20000 in
theorem ggX2_readLine_X2_readHouse : GoodIn wsX2_readLine wsX2_readHouse := goodIn_r _ [114, 115, 105, 62, 63, 64, 4, 65, 6, 7, 8, 66, 67, 68, 69, 70, 71, 72, 73, 74, 75, 76, 77, 78, 79, 80, 116, 117, 118, 84, 119, 99, 120, 121, 122, 123, 124, 125, 126, 127, 128, 129, 130, 131, 132, 133, 86, 134, 135, 136, 137, 180, 181, 182, 183, 184, 185, 186, 187, 188, 189, 190, 191, 192, 175, 176, 177, 178, 179] (by decide +kernel) (by decide +kernel)
set_option maxRecDepth 20000 in
theorem gX2_readLine_X2_readHouse : GoodIn wsX2_readLine (wsV RX2 55 RX2 yX2_readHouse wsX2_readHouse) := goodIn_app (goodIn_of _ (by decide +kernel)) ggX2_readLine_X2_readHouse
set_option maxRecDepth 20000 in
theorem ggX2_readLine_X2_readPath : GoodIn wsX2_readLine wsX2_readPath := goodIn_r _ [141, 142, 105, 62, 63, 64, 4, 65, 6, 7, 8, 66, 67, 68, 69, 70, 71, 72, 73, 74, 75, 76, 77, 78, 79, 80, 143, 144, 145, 84, 146, 87, 147, 148, 180, 181, 182, 183, 184, 185, 186, 187, 188, 189, 190, 191, 192, 175, 176, 177, 178, 179] (by decide +kernel) (by decide +kernel)
set_option maxRecDepth 20000 in
theorem gX2_readLine_X2_readPath : GoodIn wsX2_readLine (wsV RX2 61 RX2 yX2_readPath wsX2_readPath) := goodIn_app (goodIn_of _ (by decide +kernel)) ggX2_readLine_X2_readPath
set_option maxRecDepth 20000 in
theorem ggX2_readLine_X2_readFeud : GoodIn wsX2_readLine wsX2_readFeud := goodIn_r _ [152, 153, 115, 62, 63, 64, 4, 65, 6, 7, 8, 66, 67, 68, 69, 70, 71, 72, 73, 74, 75, 76, 77, 78, 79, 80, 154, 155, 156, 84, 157, 100, 158, 159, 180, 181, 182, 183, 184, 185, 186, 187, 188, 189, 190, 191, 192, 175, 176, 177, 178, 179] (by decide +kernel) (by decide +kernel)
set_option maxRecDepth 20000 in
theorem gX2_readLine_X2_readFeud : GoodIn wsX2_readLine (wsV RX2 66 RX2 yX2_readFeud wsX2_readFeud) := goodIn_app (goodIn_of _ (by decide +kernel)) ggX2_readLine_X2_readFeud
set_option maxRecDepth 20000 in
theorem ggX2_readLine_X2_readLot : GoodIn wsX2_readLine wsX2_readLot := goodIn_r _ [163, 164, 165, 62, 63, 64, 4, 65, 6, 7, 8, 66, 67, 68, 69, 70, 71, 72, 73, 74, 75, 76, 77, 78, 79, 80, 180, 181, 182, 183, 184, 185, 186, 187, 188, 189, 190, 191, 192, 175, 176, 177, 178, 179] (by decide +kernel) (by decide +kernel)
set_option maxRecDepth 20000 in
theorem gX2_readLine_X2_readLot : GoodIn wsX2_readLine (wsV RX2 71 RX2 yX2_readLot wsX2_readLot) := goodIn_app (goodIn_of _ (by decide +kernel)) ggX2_readLine_X2_readLot
set_option maxRecDepth 20000 in
theorem ggX2_readLine_X3_removeHouses : GoodIn wsX2_readLine wsX3_removeHouses := goodIn_r _ [98, 99, 100, 180, 181, 182, 183, 184, 185, 186, 187, 188, 189, 190, 191, 192] (by decide +kernel) (by decide +kernel)
set_option maxRecDepth 20000 in
theorem gX2_readLine_X3_removeHouses : GoodIn wsX2_readLine (wsV RX2 76 RX3 yX3_removeHouses wsX3_removeHouses) := goodIn_app (goodIn_of _ (by decide +kernel)) ggX2_readLine_X3_removeHouses
set_option maxRecDepth 20000 in
theorem ggX2_readLine_X2_readPlainLaw : GoodIn wsX2_readLine wsX2_readPlainLaw := goodIn_r _ [170, 164, 171, 172, 173, 4, 174, 1, 2, 3, 5, 6, 7, 8, 9, 10, 11, 12, 13, 14, 15, 16, 17, 18, 19, 20, 21, 22, 23, 24, 25, 26, 27, 28, 29, 30, 31, 32, 33, 34, 35, 36, 37, 38, 39, 40, 41, 42, 43, 44, 45, 46, 47, 48, 49, 50, 51, 52, 53, 54, 55, 56, 57, 180, 181, 182, 183, 184, 185, 186, 187, 188, 189, 190, 191, 192, 175, 176, 177, 178, 179] (by decide +kernel) (by decide +kernel)
set_option maxRecDepth 20000 in
theorem gX2_readLine_X2_readPlainLaw : GoodIn wsX2_readLine (wsV RX2 81 RX2 yX2_readPlainLaw wsX2_readPlainLaw) := goodIn_app (goodIn_of _ (by decide +kernel)) ggX2_readLine_X2_readPlainLaw
theorem dX2_readLine_0 : decode cX2_readLine 0 = .ok (.aload_n 0, 1) := by decide +kernel
theorem dX2_readLine_1 : decode cX2_readLine 1 = .ok (.ldc 37, 2) := by decide +kernel
theorem dX2_readLine_3 : decode cX2_readLine 3 = .ok (.invokevirtual 39, 3) := by decide +kernel
theorem dX2_readLine_6 : decode cX2_readLine 6 = .ok (.ifCond .eq 9, 3) := by decide +kernel
theorem dX2_readLine_9 : decode cX2_readLine 9 = .ok (.aload_n 0, 1) := by decide +kernel
theorem dX2_readLine_10 : decode cX2_readLine 10 = .ok (.aload_n 1, 1) := by decide +kernel
theorem dX2_readLine_11 : decode cX2_readLine 11 = .ok (.invokevirtual 43, 3) := by decide +kernel
theorem dX2_readLine_14 : decode cX2_readLine 14 = .ok (.ireturn, 1) := by decide +kernel
theorem dX2_readLine_15 : decode cX2_readLine 15 = .ok (.aload_n 0, 1) := by decide +kernel
theorem dX2_readLine_16 : decode cX2_readLine 16 = .ok (.ldc 46, 2) := by decide +kernel
theorem dX2_readLine_18 : decode cX2_readLine 18 = .ok (.invokevirtual 39, 3) := by decide +kernel
theorem dX2_readLine_21 : decode cX2_readLine 21 = .ok (.ifCond .eq 9, 3) := by decide +kernel
theorem dX2_readLine_24 : decode cX2_readLine 24 = .ok (.aload_n 0, 1) := by decide +kernel
theorem dX2_readLine_25 : decode cX2_readLine 25 = .ok (.aload_n 1, 1) := by decide +kernel
theorem dX2_readLine_26 : decode cX2_readLine 26 = .ok (.invokevirtual 48, 3) := by decide +kernel
theorem dX2_readLine_29 : decode cX2_readLine 29 = .ok (.ireturn, 1) := by decide +kernel
theorem dX2_readLine_30 : decode cX2_readLine 30 = .ok (.aload_n 0, 1) := by decide +kernel
theorem dX2_readLine_31 : decode cX2_readLine 31 = .ok (.invokevirtual 51, 3) := by decide +kernel
theorem dX2_readLine_34 : decode cX2_readLine 34 = .ok (.istore_n 2, 1) := by decide +kernel
theorem dX2_readLine_35 : decode cX2_readLine 35 = .ok (.iload_n 2, 1) := by decide +kernel
theorem dX2_readLine_36 : decode cX2_readLine 36 = .ok (.iconst (-1), 1) := by decide +kernel
theorem dX2_readLine_37 : decode cX2_readLine 37 = .ok (.if_icmp .eq 10, 3) := by decide +kernel
theorem dX2_readLine_40 : decode cX2_readLine 40 = .ok (.aload_n 0, 1) := by decide +kernel
theorem dX2_readLine_41 : decode cX2_readLine 41 = .ok (.aload_n 1, 1) := by decide +kernel
theorem dX2_readLine_42 : decode cX2_readLine 42 = .ok (.iload_n 2, 1) := by decide +kernel
theorem dX2_readLine_43 : decode cX2_readLine 43 = .ok (.invokevirtual 55, 3) := by decide +kernel
theorem dX2_readLine_46 : decode cX2_readLine 46 = .ok (.ireturn, 1) := by decide +kernel
theorem dX2_readLine_47 : decode cX2_readLine 47 = .ok (.aload_n 0, 1) := by decide +kernel
theorem dX2_readLine_48 : decode cX2_readLine 48 = .ok (.ldc 59, 2) := by decide +kernel
theorem dX2_readLine_50 : decode cX2_readLine 50 = .ok (.invokevirtual 39, 3) := by decide +kernel
theorem dX2_readLine_53 : decode cX2_readLine 53 = .ok (.ifCond .eq 9, 3) := by decide +kernel
theorem dX2_readLine_56 : decode cX2_readLine 56 = .ok (.aload_n 0, 1) := by decide +kernel
theorem dX2_readLine_57 : decode cX2_readLine 57 = .ok (.aload_n 1, 1) := by decide +kernel
theorem dX2_readLine_58 : decode cX2_readLine 58 = .ok (.invokevirtual 61, 3) := by decide +kernel
theorem dX2_readLine_61 : decode cX2_readLine 61 = .ok (.ireturn, 1) := by decide +kernel
theorem dX2_readLine_62 : decode cX2_readLine 62 = .ok (.aload_n 0, 1) := by decide +kernel
theorem dX2_readLine_63 : decode cX2_readLine 63 = .ok (.ldc 64, 2) := by decide +kernel
theorem dX2_readLine_65 : decode cX2_readLine 65 = .ok (.invokevirtual 39, 3) := by decide +kernel
theorem dX2_readLine_68 : decode cX2_readLine 68 = .ok (.ifCond .eq 9, 3) := by decide +kernel
theorem dX2_readLine_71 : decode cX2_readLine 71 = .ok (.aload_n 0, 1) := by decide +kernel
theorem dX2_readLine_72 : decode cX2_readLine 72 = .ok (.aload_n 1, 1) := by decide +kernel
theorem dX2_readLine_73 : decode cX2_readLine 73 = .ok (.invokevirtual 66, 3) := by decide +kernel
theorem dX2_readLine_76 : decode cX2_readLine 76 = .ok (.ireturn, 1) := by decide +kernel
theorem dX2_readLine_77 : decode cX2_readLine 77 = .ok (.aload_n 0, 1) := by decide +kernel
theorem dX2_readLine_78 : decode cX2_readLine 78 = .ok (.ldc 69, 2) := by decide +kernel
theorem dX2_readLine_80 : decode cX2_readLine 80 = .ok (.invokevirtual 39, 3) := by decide +kernel
theorem dX2_readLine_83 : decode cX2_readLine 83 = .ok (.ifCond .eq 9, 3) := by decide +kernel
theorem dX2_readLine_86 : decode cX2_readLine 86 = .ok (.aload_n 0, 1) := by decide +kernel
theorem dX2_readLine_87 : decode cX2_readLine 87 = .ok (.aload_n 1, 1) := by decide +kernel
theorem dX2_readLine_88 : decode cX2_readLine 88 = .ok (.invokevirtual 71, 3) := by decide +kernel
theorem dX2_readLine_91 : decode cX2_readLine 91 = .ok (.ireturn, 1) := by decide +kernel
theorem dX2_readLine_92 : decode cX2_readLine 92 = .ok (.aload_n 0, 1) := by decide +kernel
theorem dX2_readLine_93 : decode cX2_readLine 93 = .ok (.ldc 74, 2) := by decide +kernel
theorem dX2_readLine_95 : decode cX2_readLine 95 = .ok (.invokevirtual 39, 3) := by decide +kernel
theorem dX2_readLine_98 : decode cX2_readLine 98 = .ok (.ifCond .eq 9, 3) := by decide +kernel
theorem dX2_readLine_101 : decode cX2_readLine 101 = .ok (.aload_n 1, 1) := by decide +kernel
theorem dX2_readLine_102 : decode cX2_readLine 102 = .ok (.invokevirtual 76, 3) := by decide +kernel
theorem dX2_readLine_105 : decode cX2_readLine 105 = .ok (.iconst 1, 1) := by decide +kernel
theorem dX2_readLine_106 : decode cX2_readLine 106 = .ok (.ireturn, 1) := by decide +kernel
theorem dX2_readLine_107 : decode cX2_readLine 107 = .ok (.aload_n 0, 1) := by decide +kernel
theorem dX2_readLine_108 : decode cX2_readLine 108 = .ok (.aload_n 1, 1) := by decide +kernel
theorem dX2_readLine_109 : decode cX2_readLine 109 = .ok (.invokevirtual 81, 3) := by decide +kernel
theorem dX2_readLine_112 : decode cX2_readLine 112 = .ok (.ireturn, 1) := by decide +kernel
set_option maxRecDepth 20000 in
theorem ggX2_readGreen_X2_readNumber : GoodIn wsX2_readGreen wsX2_readNumber := goodIn_r _ [5, 6, 7, 8, 9, 10, 11, 4, 12, 13, 14, 15, 16, 17, 18, 19, 20, 21, 22, 23, 44, 45, 46, 47, 48] (by decide +kernel) (by decide +kernel)
set_option maxRecDepth 20000 in
theorem gX2_readGreen_X2_readNumber : GoodIn wsX2_readGreen (wsV RX2 84 RX2 yX2_readNumber wsX2_readNumber) := goodIn_app (goodIn_of _ (by decide +kernel)) ggX2_readGreen_X2_readNumber
set_option maxRecDepth 20000 in
theorem ggX2_readGreen_X3_layOut : GoodIn wsX2_readGreen wsX3_layOut := goodIn_r _ [28, 29, 30, 31, 32, 33, 34, 35, 36, 37, 38, 39, 40, 27, 41, 42, 43, 49, 50, 51, 52, 53, 54, 55, 56, 57, 58, 59, 60, 61] (by decide +kernel) (by decide +kernel)
set_option maxRecDepth 20000 in
theorem gX2_readGreen_X3_layOut : GoodIn wsX2_readGreen (wsV RX2 88 RX3 yX3_layOut wsX3_layOut) := goodIn_app (goodIn_of _ (by decide +kernel)) ggX2_readGreen_X3_layOut
theorem dX2_readGreen_0 : decode cX2_readGreen 0 = .ok (.aload_n 0, 1) := by decide +kernel
theorem dX2_readGreen_1 : decode cX2_readGreen 1 = .ok (.iconst 3, 1) := by decide +kernel
theorem dX2_readGreen_2 : decode cX2_readGreen 2 = .ok (.bipush 12, 2) := by decide +kernel
theorem dX2_readGreen_4 : decode cX2_readGreen 4 = .ok (.iconst 2, 1) := by decide +kernel
theorem dX2_readGreen_5 : decode cX2_readGreen 5 = .ok (.invokevirtual 84, 3) := by decide +kernel
theorem dX2_readGreen_8 : decode cX2_readGreen 8 = .ok (.istore_n 2, 1) := by decide +kernel
theorem dX2_readGreen_9 : decode cX2_readGreen 9 = .ok (.iload_n 2, 1) := by decide +kernel
theorem dX2_readGreen_10 : decode cX2_readGreen 10 = .ok (.iconst (-1), 1) := by decide +kernel
theorem dX2_readGreen_11 : decode cX2_readGreen 11 = .ok (.if_icmp .ne 5, 3) := by decide +kernel
theorem dX2_readGreen_14 : decode cX2_readGreen 14 = .ok (.iconst 0, 1) := by decide +kernel
theorem dX2_readGreen_15 : decode cX2_readGreen 15 = .ok (.ireturn, 1) := by decide +kernel
theorem dX2_readGreen_16 : decode cX2_readGreen 16 = .ok (.aload_n 1, 1) := by decide +kernel
theorem dX2_readGreen_17 : decode cX2_readGreen 17 = .ok (.iload_n 2, 1) := by decide +kernel
theorem dX2_readGreen_18 : decode cX2_readGreen 18 = .ok (.invokevirtual 88, 3) := by decide +kernel
theorem dX2_readGreen_21 : decode cX2_readGreen 21 = .ok (.iconst 1, 1) := by decide +kernel
theorem dX2_readGreen_22 : decode cX2_readGreen 22 = .ok (.ireturn, 1) := by decide +kernel
set_option maxRecDepth 20000 in
theorem ggX2_readCrop_X2_readNumber : GoodIn wsX2_readCrop wsX2_readNumber := goodIn_r _ [7, 8, 9, 10, 11, 12, 13, 6, 14, 15, 16, 17, 18, 19, 20, 21, 22, 23, 24, 25, 39, 40, 41, 42, 43] (by decide +kernel) (by decide +kernel)
set_option maxRecDepth 20000 in
theorem gX2_readCrop_X2_readNumber : GoodIn wsX2_readCrop (wsV RX2 84 RX2 yX2_readNumber wsX2_readNumber) := goodIn_app (goodIn_of _ (by decide +kernel)) ggX2_readCrop_X2_readNumber
theorem dX2_readCrop_0 : decode cX2_readCrop 0 = .ok (.aload_n 0, 1) := by decide +kernel
theorem dX2_readCrop_1 : decode cX2_readCrop 1 = .ok (.iconst 0, 1) := by decide +kernel
theorem dX2_readCrop_2 : decode cX2_readCrop 2 = .ok (.aload_n 1, 1) := by decide +kernel
theorem dX2_readCrop_3 : decode cX2_readCrop 3 = .ok (.getfield 92, 3) := by decide +kernel
theorem dX2_readCrop_6 : decode cX2_readCrop 6 = .ok (.iconst 1, 1) := by decide +kernel
theorem dX2_readCrop_7 : decode cX2_readCrop 7 = .ok (.isub, 1) := by decide +kernel
theorem dX2_readCrop_8 : decode cX2_readCrop 8 = .ok (.iconst 2, 1) := by decide +kernel
theorem dX2_readCrop_9 : decode cX2_readCrop 9 = .ok (.invokevirtual 84, 3) := by decide +kernel
theorem dX2_readCrop_12 : decode cX2_readCrop 12 = .ok (.istore_n 2, 1) := by decide +kernel
theorem dX2_readCrop_13 : decode cX2_readCrop 13 = .ok (.iload_n 2, 1) := by decide +kernel
theorem dX2_readCrop_14 : decode cX2_readCrop 14 = .ok (.iconst (-1), 1) := by decide +kernel
theorem dX2_readCrop_15 : decode cX2_readCrop 15 = .ok (.if_icmp .ne 5, 3) := by decide +kernel
theorem dX2_readCrop_18 : decode cX2_readCrop 18 = .ok (.iconst 0, 1) := by decide +kernel
theorem dX2_readCrop_19 : decode cX2_readCrop 19 = .ok (.ireturn, 1) := by decide +kernel
theorem dX2_readCrop_20 : decode cX2_readCrop 20 = .ok (.aload_n 0, 1) := by decide +kernel
theorem dX2_readCrop_21 : decode cX2_readCrop 21 = .ok (.iconst 0, 1) := by decide +kernel
theorem dX2_readCrop_22 : decode cX2_readCrop 22 = .ok (.bipush 9, 2) := by decide +kernel
theorem dX2_readCrop_24 : decode cX2_readCrop 24 = .ok (.iconst 2, 1) := by decide +kernel
theorem dX2_readCrop_25 : decode cX2_readCrop 25 = .ok (.invokevirtual 84, 3) := by decide +kernel
theorem dX2_readCrop_28 : decode cX2_readCrop 28 = .ok (.istore_n 3, 1) := by decide +kernel
theorem dX2_readCrop_29 : decode cX2_readCrop 29 = .ok (.iload_n 3, 1) := by decide +kernel
theorem dX2_readCrop_30 : decode cX2_readCrop 30 = .ok (.iconst (-1), 1) := by decide +kernel
theorem dX2_readCrop_31 : decode cX2_readCrop 31 = .ok (.if_icmp .ne 5, 3) := by decide +kernel
theorem dX2_readCrop_34 : decode cX2_readCrop 34 = .ok (.iconst 0, 1) := by decide +kernel
theorem dX2_readCrop_35 : decode cX2_readCrop 35 = .ok (.ireturn, 1) := by decide +kernel
theorem dX2_readCrop_36 : decode cX2_readCrop 36 = .ok (.aload_n 1, 1) := by decide +kernel
theorem dX2_readCrop_37 : decode cX2_readCrop 37 = .ok (.getfield 95, 3) := by decide +kernel
theorem dX2_readCrop_40 : decode cX2_readCrop 40 = .ok (.iload_n 2, 1) := by decide +kernel
theorem dX2_readCrop_41 : decode cX2_readCrop 41 = .ok (.iload_n 3, 1) := by decide +kernel
theorem dX2_readCrop_42 : decode cX2_readCrop 42 = .ok (.iastore, 1) := by decide +kernel
theorem dX2_readCrop_43 : decode cX2_readCrop 43 = .ok (.iconst 1, 1) := by decide +kernel
theorem dX2_readCrop_44 : decode cX2_readCrop 44 = .ok (.ireturn, 1) := by decide +kernel
set_option maxRecDepth 20000 in
theorem ggX2_readHouse_X2_readNumber : GoodIn wsX2_readHouse wsX2_readNumber := goodIn_r _ [7, 8, 9, 10, 11, 12, 13, 6, 14, 15, 16, 17, 18, 19, 20, 21, 22, 23, 24, 25, 64, 65, 66, 67, 68] (by decide +kernel) (by decide +kernel)
set_option maxRecDepth 20000 in
theorem gX2_readHouse_X2_readNumber : GoodIn wsX2_readHouse (wsV RX2 84 RX2 yX2_readNumber wsX2_readNumber) := goodIn_app (goodIn_of _ (by decide +kernel)) ggX2_readHouse_X2_readNumber
set_option maxRecDepth 20000 in
theorem ggX2_readHouse_X3_settle : GoodIn wsX2_readHouse wsX3_settle := goodIn_r _ [30, 31, 32, 33, 34, 35, 36, 29, 37, 38, 39, 40, 41, 42, 43, 44, 45, 46, 47, 48, 49, 50, 51, 52, 53, 54, 55, 56, 57, 58, 59, 60, 61, 62, 63] (by decide +kernel) (by decide +kernel)
set_option maxRecDepth 20000 in
theorem gX2_readHouse_X3_settle : GoodIn wsX2_readHouse (wsV RX2 100 RX3 yX3_settle wsX3_settle) := goodIn_app (goodIn_of _ (by decide +kernel)) ggX2_readHouse_X3_settle
theorem dX2_readHouse_0 : decode cX2_readHouse 0 = .ok (.aload_n 1, 1) := by decide +kernel
theorem dX2_readHouse_1 : decode cX2_readHouse 1 = .ok (.getfield 97, 3) := by decide +kernel
theorem dX2_readHouse_4 : decode cX2_readHouse 4 = .ok (.bipush 8, 2) := by decide +kernel
theorem dX2_readHouse_6 : decode cX2_readHouse 6 = .ok (.if_icmp .lt 5, 3) := by decide +kernel
theorem dX2_readHouse_9 : decode cX2_readHouse 9 = .ok (.iconst 0, 1) := by decide +kernel
theorem dX2_readHouse_10 : decode cX2_readHouse 10 = .ok (.ireturn, 1) := by decide +kernel
theorem dX2_readHouse_11 : decode cX2_readHouse 11 = .ok (.aload_n 0, 1) := by decide +kernel
theorem dX2_readHouse_12 : decode cX2_readHouse 12 = .ok (.iconst 0, 1) := by decide +kernel
theorem dX2_readHouse_13 : decode cX2_readHouse 13 = .ok (.aload_n 1, 1) := by decide +kernel
theorem dX2_readHouse_14 : decode cX2_readHouse 14 = .ok (.getfield 92, 3) := by decide +kernel
theorem dX2_readHouse_17 : decode cX2_readHouse 17 = .ok (.iconst 1, 1) := by decide +kernel
theorem dX2_readHouse_18 : decode cX2_readHouse 18 = .ok (.isub, 1) := by decide +kernel
theorem dX2_readHouse_19 : decode cX2_readHouse 19 = .ok (.iconst 2, 1) := by decide +kernel
theorem dX2_readHouse_20 : decode cX2_readHouse 20 = .ok (.invokevirtual 84, 3) := by decide +kernel
theorem dX2_readHouse_23 : decode cX2_readHouse 23 = .ok (.istore_n 3, 1) := by decide +kernel
theorem dX2_readHouse_24 : decode cX2_readHouse 24 = .ok (.iload_n 3, 1) := by decide +kernel
theorem dX2_readHouse_25 : decode cX2_readHouse 25 = .ok (.iconst (-1), 1) := by decide +kernel
theorem dX2_readHouse_26 : decode cX2_readHouse 26 = .ok (.if_icmp .eq 16, 3) := by decide +kernel
theorem dX2_readHouse_29 : decode cX2_readHouse 29 = .ok (.aload_n 1, 1) := by decide +kernel
theorem dX2_readHouse_30 : decode cX2_readHouse 30 = .ok (.iload_n 2, 1) := by decide +kernel
theorem dX2_readHouse_31 : decode cX2_readHouse 31 = .ok (.iload_n 3, 1) := by decide +kernel
theorem dX2_readHouse_32 : decode cX2_readHouse 32 = .ok (.invokevirtual 100, 3) := by decide +kernel
theorem dX2_readHouse_35 : decode cX2_readHouse 35 = .ok (.ifCond .eq 7, 3) := by decide +kernel
theorem dX2_readHouse_38 : decode cX2_readHouse 38 = .ok (.iconst 1, 1) := by decide +kernel
theorem dX2_readHouse_39 : decode cX2_readHouse 39 = .ok (.goto 4, 3) := by decide +kernel
theorem dX2_readHouse_42 : decode cX2_readHouse 42 = .ok (.iconst 0, 1) := by decide +kernel
theorem dX2_readHouse_43 : decode cX2_readHouse 43 = .ok (.ireturn, 1) := by decide +kernel
set_option maxRecDepth 20000 in
theorem ggX2_readPath_X2_readNumber : GoodIn wsX2_readPath wsX2_readNumber := goodIn_r _ [7, 8, 9, 10, 11, 12, 13, 6, 14, 15, 16, 17, 18, 19, 20, 21, 22, 23, 24, 25, 47, 48, 49, 50, 51] (by decide +kernel) (by decide +kernel)
set_option maxRecDepth 20000 in
theorem gX2_readPath_X2_readNumber : GoodIn wsX2_readPath (wsV RX2 84 RX2 yX2_readNumber wsX2_readNumber) := goodIn_app (goodIn_of _ (by decide +kernel)) ggX2_readPath_X2_readNumber
set_option maxRecDepth 20000 in
theorem ggX2_readPath_X3_addPath : GoodIn wsX2_readPath wsX3_addPath := goodIn_r _ [30, 31, 32, 33, 34, 35, 36, 37, 38, 39, 40, 41, 42, 43, 44, 45, 46] (by decide +kernel) (by decide +kernel)
set_option maxRecDepth 20000 in
theorem gX2_readPath_X3_addPath : GoodIn wsX2_readPath (wsV RX2 107 RX3 yX3_addPath wsX3_addPath) := goodIn_app (goodIn_of _ (by decide +kernel)) ggX2_readPath_X3_addPath
theorem dX2_readPath_0 : decode cX2_readPath 0 = .ok (.aload_n 1, 1) := by decide +kernel
theorem dX2_readPath_1 : decode cX2_readPath 1 = .ok (.getfield 104, 3) := by decide +kernel
theorem dX2_readPath_4 : decode cX2_readPath 4 = .ok (.bipush 6, 2) := by decide +kernel
theorem dX2_readPath_6 : decode cX2_readPath 6 = .ok (.if_icmp .lt 5, 3) := by decide +kernel
theorem dX2_readPath_9 : decode cX2_readPath 9 = .ok (.iconst 0, 1) := by decide +kernel
theorem dX2_readPath_10 : decode cX2_readPath 10 = .ok (.ireturn, 1) := by decide +kernel
theorem dX2_readPath_11 : decode cX2_readPath 11 = .ok (.aload_n 0, 1) := by decide +kernel
theorem dX2_readPath_12 : decode cX2_readPath 12 = .ok (.iconst 0, 1) := by decide +kernel
theorem dX2_readPath_13 : decode cX2_readPath 13 = .ok (.aload_n 1, 1) := by decide +kernel
theorem dX2_readPath_14 : decode cX2_readPath 14 = .ok (.getfield 92, 3) := by decide +kernel
theorem dX2_readPath_17 : decode cX2_readPath 17 = .ok (.iconst 1, 1) := by decide +kernel
theorem dX2_readPath_18 : decode cX2_readPath 18 = .ok (.isub, 1) := by decide +kernel
theorem dX2_readPath_19 : decode cX2_readPath 19 = .ok (.iconst 2, 1) := by decide +kernel
theorem dX2_readPath_20 : decode cX2_readPath 20 = .ok (.invokevirtual 84, 3) := by decide +kernel
theorem dX2_readPath_23 : decode cX2_readPath 23 = .ok (.istore_n 2, 1) := by decide +kernel
theorem dX2_readPath_24 : decode cX2_readPath 24 = .ok (.iload_n 2, 1) := by decide +kernel
theorem dX2_readPath_25 : decode cX2_readPath 25 = .ok (.iconst (-1), 1) := by decide +kernel
theorem dX2_readPath_26 : decode cX2_readPath 26 = .ok (.if_icmp .ne 5, 3) := by decide +kernel
theorem dX2_readPath_29 : decode cX2_readPath 29 = .ok (.iconst 0, 1) := by decide +kernel
theorem dX2_readPath_30 : decode cX2_readPath 30 = .ok (.ireturn, 1) := by decide +kernel
theorem dX2_readPath_31 : decode cX2_readPath 31 = .ok (.aload_n 0, 1) := by decide +kernel
theorem dX2_readPath_32 : decode cX2_readPath 32 = .ok (.iconst 0, 1) := by decide +kernel
theorem dX2_readPath_33 : decode cX2_readPath 33 = .ok (.aload_n 1, 1) := by decide +kernel
theorem dX2_readPath_34 : decode cX2_readPath 34 = .ok (.getfield 92, 3) := by decide +kernel
theorem dX2_readPath_37 : decode cX2_readPath 37 = .ok (.iconst 1, 1) := by decide +kernel
theorem dX2_readPath_38 : decode cX2_readPath 38 = .ok (.isub, 1) := by decide +kernel
theorem dX2_readPath_39 : decode cX2_readPath 39 = .ok (.iconst 2, 1) := by decide +kernel
theorem dX2_readPath_40 : decode cX2_readPath 40 = .ok (.invokevirtual 84, 3) := by decide +kernel
theorem dX2_readPath_43 : decode cX2_readPath 43 = .ok (.istore_n 3, 1) := by decide +kernel
theorem dX2_readPath_44 : decode cX2_readPath 44 = .ok (.iload_n 3, 1) := by decide +kernel
theorem dX2_readPath_45 : decode cX2_readPath 45 = .ok (.iconst (-1), 1) := by decide +kernel
theorem dX2_readPath_46 : decode cX2_readPath 46 = .ok (.if_icmp .eq 16, 3) := by decide +kernel
theorem dX2_readPath_49 : decode cX2_readPath 49 = .ok (.aload_n 1, 1) := by decide +kernel
theorem dX2_readPath_50 : decode cX2_readPath 50 = .ok (.iload_n 2, 1) := by decide +kernel
theorem dX2_readPath_51 : decode cX2_readPath 51 = .ok (.iload_n 3, 1) := by decide +kernel
theorem dX2_readPath_52 : decode cX2_readPath 52 = .ok (.invokevirtual 107, 3) := by decide +kernel
theorem dX2_readPath_55 : decode cX2_readPath 55 = .ok (.ifCond .eq 7, 3) := by decide +kernel
theorem dX2_readPath_58 : decode cX2_readPath 58 = .ok (.iconst 1, 1) := by decide +kernel
theorem dX2_readPath_59 : decode cX2_readPath 59 = .ok (.goto 4, 3) := by decide +kernel
theorem dX2_readPath_62 : decode cX2_readPath 62 = .ok (.iconst 0, 1) := by decide +kernel
theorem dX2_readPath_63 : decode cX2_readPath 63 = .ok (.ireturn, 1) := by decide +kernel
set_option maxRecDepth 20000 in
theorem ggX2_readFeud_X2_readNumber : GoodIn wsX2_readFeud wsX2_readNumber := goodIn_r _ [7, 8, 9, 10, 11, 12, 13, 6, 14, 15, 16, 17, 18, 19, 20, 21, 22, 23, 24, 25, 47, 48, 49, 50, 51] (by decide +kernel) (by decide +kernel)
set_option maxRecDepth 20000 in
theorem gX2_readFeud_X2_readNumber : GoodIn wsX2_readFeud (wsV RX2 84 RX2 yX2_readNumber wsX2_readNumber) := goodIn_app (goodIn_of _ (by decide +kernel)) ggX2_readFeud_X2_readNumber
set_option maxRecDepth 20000 in
theorem ggX2_readFeud_X3_addFeud : GoodIn wsX2_readFeud wsX3_addFeud := goodIn_r _ [30, 31, 32, 33, 34, 35, 36, 37, 38, 39, 40, 41, 42, 43, 44, 45, 46] (by decide +kernel) (by decide +kernel)
set_option maxRecDepth 20000 in
theorem gX2_readFeud_X3_addFeud : GoodIn wsX2_readFeud (wsV RX2 113 RX3 yX3_addFeud wsX3_addFeud) := goodIn_app (goodIn_of _ (by decide +kernel)) ggX2_readFeud_X3_addFeud
theorem dX2_readFeud_0 : decode cX2_readFeud 0 = .ok (.aload_n 1, 1) := by decide +kernel
theorem dX2_readFeud_1 : decode cX2_readFeud 1 = .ok (.getfield 110, 3) := by decide +kernel
theorem dX2_readFeud_4 : decode cX2_readFeud 4 = .ok (.bipush 6, 2) := by decide +kernel
theorem dX2_readFeud_6 : decode cX2_readFeud 6 = .ok (.if_icmp .lt 5, 3) := by decide +kernel
theorem dX2_readFeud_9 : decode cX2_readFeud 9 = .ok (.iconst 0, 1) := by decide +kernel
theorem dX2_readFeud_10 : decode cX2_readFeud 10 = .ok (.ireturn, 1) := by decide +kernel
theorem dX2_readFeud_11 : decode cX2_readFeud 11 = .ok (.aload_n 0, 1) := by decide +kernel
theorem dX2_readFeud_12 : decode cX2_readFeud 12 = .ok (.iconst 0, 1) := by decide +kernel
theorem dX2_readFeud_13 : decode cX2_readFeud 13 = .ok (.aload_n 1, 1) := by decide +kernel
theorem dX2_readFeud_14 : decode cX2_readFeud 14 = .ok (.getfield 97, 3) := by decide +kernel
theorem dX2_readFeud_17 : decode cX2_readFeud 17 = .ok (.iconst 1, 1) := by decide +kernel
theorem dX2_readFeud_18 : decode cX2_readFeud 18 = .ok (.isub, 1) := by decide +kernel
theorem dX2_readFeud_19 : decode cX2_readFeud 19 = .ok (.iconst 2, 1) := by decide +kernel
theorem dX2_readFeud_20 : decode cX2_readFeud 20 = .ok (.invokevirtual 84, 3) := by decide +kernel
theorem dX2_readFeud_23 : decode cX2_readFeud 23 = .ok (.istore_n 2, 1) := by decide +kernel
theorem dX2_readFeud_24 : decode cX2_readFeud 24 = .ok (.iload_n 2, 1) := by decide +kernel
theorem dX2_readFeud_25 : decode cX2_readFeud 25 = .ok (.iconst (-1), 1) := by decide +kernel
theorem dX2_readFeud_26 : decode cX2_readFeud 26 = .ok (.if_icmp .ne 5, 3) := by decide +kernel
theorem dX2_readFeud_29 : decode cX2_readFeud 29 = .ok (.iconst 0, 1) := by decide +kernel
theorem dX2_readFeud_30 : decode cX2_readFeud 30 = .ok (.ireturn, 1) := by decide +kernel
theorem dX2_readFeud_31 : decode cX2_readFeud 31 = .ok (.aload_n 0, 1) := by decide +kernel
theorem dX2_readFeud_32 : decode cX2_readFeud 32 = .ok (.iconst 0, 1) := by decide +kernel
theorem dX2_readFeud_33 : decode cX2_readFeud 33 = .ok (.aload_n 1, 1) := by decide +kernel
theorem dX2_readFeud_34 : decode cX2_readFeud 34 = .ok (.getfield 97, 3) := by decide +kernel
theorem dX2_readFeud_37 : decode cX2_readFeud 37 = .ok (.iconst 1, 1) := by decide +kernel
theorem dX2_readFeud_38 : decode cX2_readFeud 38 = .ok (.isub, 1) := by decide +kernel
theorem dX2_readFeud_39 : decode cX2_readFeud 39 = .ok (.iconst 2, 1) := by decide +kernel
theorem dX2_readFeud_40 : decode cX2_readFeud 40 = .ok (.invokevirtual 84, 3) := by decide +kernel
theorem dX2_readFeud_43 : decode cX2_readFeud 43 = .ok (.istore_n 3, 1) := by decide +kernel
theorem dX2_readFeud_44 : decode cX2_readFeud 44 = .ok (.iload_n 3, 1) := by decide +kernel
theorem dX2_readFeud_45 : decode cX2_readFeud 45 = .ok (.iconst (-1), 1) := by decide +kernel
theorem dX2_readFeud_46 : decode cX2_readFeud 46 = .ok (.if_icmp .eq 16, 3) := by decide +kernel
theorem dX2_readFeud_49 : decode cX2_readFeud 49 = .ok (.aload_n 1, 1) := by decide +kernel
theorem dX2_readFeud_50 : decode cX2_readFeud 50 = .ok (.iload_n 2, 1) := by decide +kernel
theorem dX2_readFeud_51 : decode cX2_readFeud 51 = .ok (.iload_n 3, 1) := by decide +kernel
theorem dX2_readFeud_52 : decode cX2_readFeud 52 = .ok (.invokevirtual 113, 3) := by decide +kernel
theorem dX2_readFeud_55 : decode cX2_readFeud 55 = .ok (.ifCond .eq 7, 3) := by decide +kernel
theorem dX2_readFeud_58 : decode cX2_readFeud 58 = .ok (.iconst 1, 1) := by decide +kernel
theorem dX2_readFeud_59 : decode cX2_readFeud 59 = .ok (.goto 4, 3) := by decide +kernel
theorem dX2_readFeud_62 : decode cX2_readFeud 62 = .ok (.iconst 0, 1) := by decide +kernel
theorem dX2_readFeud_63 : decode cX2_readFeud 63 = .ok (.ireturn, 1) := by decide +kernel
set_option maxRecDepth 20000 in
theorem ggX2_readLot_X2_readNumber : GoodIn wsX2_readLot wsX2_readNumber := goodIn_r _ [7, 8, 9, 10, 11, 12, 13, 6, 14, 15, 16, 17, 18, 19, 20, 21, 22, 23, 24, 25, 39, 40, 41, 42, 43] (by decide +kernel) (by decide +kernel)
set_option maxRecDepth 20000 in
theorem gX2_readLot_X2_readNumber : GoodIn wsX2_readLot (wsV RX2 84 RX2 yX2_readNumber wsX2_readNumber) := goodIn_app (goodIn_of _ (by decide +kernel)) ggX2_readLot_X2_readNumber
theorem dX2_readLot_0 : decode cX2_readLot 0 = .ok (.aload_n 0, 1) := by decide +kernel
theorem dX2_readLot_1 : decode cX2_readLot 1 = .ok (.iconst 1, 1) := by decide +kernel
theorem dX2_readLot_2 : decode cX2_readLot 2 = .ok (.sipush 9999, 3) := by decide +kernel
theorem dX2_readLot_5 : decode cX2_readLot 5 = .ok (.iconst 4, 1) := by decide +kernel
theorem dX2_readLot_6 : decode cX2_readLot 6 = .ok (.invokevirtual 84, 3) := by decide +kernel
theorem dX2_readLot_9 : decode cX2_readLot 9 = .ok (.istore_n 2, 1) := by decide +kernel
theorem dX2_readLot_10 : decode cX2_readLot 10 = .ok (.iload_n 2, 1) := by decide +kernel
theorem dX2_readLot_11 : decode cX2_readLot 11 = .ok (.iconst (-1), 1) := by decide +kernel
theorem dX2_readLot_12 : decode cX2_readLot 12 = .ok (.if_icmp .ne 5, 3) := by decide +kernel
theorem dX2_readLot_15 : decode cX2_readLot 15 = .ok (.iconst 0, 1) := by decide +kernel
theorem dX2_readLot_16 : decode cX2_readLot 16 = .ok (.ireturn, 1) := by decide +kernel
theorem dX2_readLot_17 : decode cX2_readLot 17 = .ok (.aload_n 1, 1) := by decide +kernel
theorem dX2_readLot_18 : decode cX2_readLot 18 = .ok (.iconst 3, 1) := by decide +kernel
theorem dX2_readLot_19 : decode cX2_readLot 19 = .ok (.putfield 116, 3) := by decide +kernel
theorem dX2_readLot_22 : decode cX2_readLot 22 = .ok (.aload_n 1, 1) := by decide +kernel
theorem dX2_readLot_23 : decode cX2_readLot 23 = .ok (.iload_n 2, 1) := by decide +kernel
theorem dX2_readLot_24 : decode cX2_readLot 24 = .ok (.putfield 119, 3) := by decide +kernel
theorem dX2_readLot_27 : decode cX2_readLot 27 = .ok (.iconst 1, 1) := by decide +kernel
theorem dX2_readLot_28 : decode cX2_readLot 28 = .ok (.ireturn, 1) := by decide +kernel
set_option maxRecDepth 20000 in
theorem ggX2_readPlainLaw_X2_plainLawHere : GoodIn wsX2_readPlainLaw wsX2_plainLawHere := goodIn_r _ [6, 7, 8, 9, 5, 10, 11, 12, 13, 14, 15, 16, 17, 18, 19, 20, 21, 22, 23, 24, 25, 26, 27, 28, 29, 30, 31, 32, 33, 34, 35, 36, 37, 38, 39, 40, 41, 42, 43, 44, 45, 46, 47, 48, 49, 50, 51, 52, 53, 54, 55, 56, 57, 58, 59, 60, 61, 62, 76, 77, 78, 79, 80] (by decide +kernel) (by decide +kernel)
set_option maxRecDepth 20000 in
theorem gX2_readPlainLaw_X2_plainLawHere : GoodIn wsX2_readPlainLaw (wsV RX2 122 RX2 yX2_plainLawHere wsX2_plainLawHere) := goodIn_app (goodIn_of _ (by decide +kernel)) ggX2_readPlainLaw_X2_plainLawHere
theorem dX2_readPlainLaw_0 : decode cX2_readPlainLaw 0 = .ok (.aload_n 0, 1) := by decide +kernel
theorem dX2_readPlainLaw_1 : decode cX2_readPlainLaw 1 = .ok (.invokevirtual 122, 3) := by decide +kernel
theorem dX2_readPlainLaw_4 : decode cX2_readPlainLaw 4 = .ok (.istore_n 2, 1) := by decide +kernel
theorem dX2_readPlainLaw_5 : decode cX2_readPlainLaw 5 = .ok (.iload_n 2, 1) := by decide +kernel
theorem dX2_readPlainLaw_6 : decode cX2_readPlainLaw 6 = .ok (.iconst (-1), 1) := by decide +kernel
theorem dX2_readPlainLaw_7 : decode cX2_readPlainLaw 7 = .ok (.if_icmp .ne 5, 3) := by decide +kernel
theorem dX2_readPlainLaw_10 : decode cX2_readPlainLaw 10 = .ok (.iconst 0, 1) := by decide +kernel
theorem dX2_readPlainLaw_11 : decode cX2_readPlainLaw 11 = .ok (.ireturn, 1) := by decide +kernel
theorem dX2_readPlainLaw_12 : decode cX2_readPlainLaw 12 = .ok (.aload_n 1, 1) := by decide +kernel
theorem dX2_readPlainLaw_13 : decode cX2_readPlainLaw 13 = .ok (.iload_n 2, 1) := by decide +kernel
theorem dX2_readPlainLaw_14 : decode cX2_readPlainLaw 14 = .ok (.putfield 116, 3) := by decide +kernel
theorem dX2_readPlainLaw_17 : decode cX2_readPlainLaw 17 = .ok (.iconst 1, 1) := by decide +kernel
theorem dX2_readPlainLaw_18 : decode cX2_readPlainLaw 18 = .ok (.ireturn, 1) := by decide +kernel
set_option maxRecDepth 20000 in
theorem ggX2_kindHere_X2_isWord : GoodIn wsX2_kindHere wsX2_isWord := goodIn_r _ [5, 6, 7, 8, 9, 10, 11, 12, 13, 14, 15, 16, 17, 18, 19, 20, 21, 22, 23, 24, 25, 26, 27, 28, 29, 30, 31, 32, 33, 34, 35, 36, 37, 38, 39, 40, 41, 42, 43, 44, 45, 46, 47, 48, 49, 50, 51, 52, 53, 54, 55, 56, 57, 58, 59, 60, 61, 62] (by decide +kernel) (by decide +kernel)
set_option maxRecDepth 20000 in
theorem gX2_kindHere_X2_isWord : GoodIn wsX2_kindHere (wsV RX2 39 RX2 yX2_isWord wsX2_isWord) := goodIn_app (goodIn_of _ (by decide +kernel)) ggX2_kindHere_X2_isWord
theorem dX2_kindHere_0 : decode cX2_kindHere 0 = .ok (.aload_n 0, 1) := by decide +kernel
theorem dX2_kindHere_1 : decode cX2_kindHere 1 = .ok (.ldc 125, 2) := by decide +kernel
theorem dX2_kindHere_3 : decode cX2_kindHere 3 = .ok (.invokevirtual 39, 3) := by decide +kernel
theorem dX2_kindHere_6 : decode cX2_kindHere 6 = .ok (.ifCond .eq 5, 3) := by decide +kernel
theorem dX2_kindHere_9 : decode cX2_kindHere 9 = .ok (.iconst 0, 1) := by decide +kernel
theorem dX2_kindHere_10 : decode cX2_kindHere 10 = .ok (.ireturn, 1) := by decide +kernel
theorem dX2_kindHere_11 : decode cX2_kindHere 11 = .ok (.aload_n 0, 1) := by decide +kernel
theorem dX2_kindHere_12 : decode cX2_kindHere 12 = .ok (.ldc 127, 2) := by decide +kernel
theorem dX2_kindHere_14 : decode cX2_kindHere 14 = .ok (.invokevirtual 39, 3) := by decide +kernel
theorem dX2_kindHere_17 : decode cX2_kindHere 17 = .ok (.ifCond .eq 5, 3) := by decide +kernel
theorem dX2_kindHere_20 : decode cX2_kindHere 20 = .ok (.iconst 1, 1) := by decide +kernel
theorem dX2_kindHere_21 : decode cX2_kindHere 21 = .ok (.ireturn, 1) := by decide +kernel
theorem dX2_kindHere_22 : decode cX2_kindHere 22 = .ok (.aload_n 0, 1) := by decide +kernel
theorem dX2_kindHere_23 : decode cX2_kindHere 23 = .ok (.ldc 129, 2) := by decide +kernel
theorem dX2_kindHere_25 : decode cX2_kindHere 25 = .ok (.invokevirtual 39, 3) := by decide +kernel
theorem dX2_kindHere_28 : decode cX2_kindHere 28 = .ok (.ifCond .eq 5, 3) := by decide +kernel
theorem dX2_kindHere_31 : decode cX2_kindHere 31 = .ok (.iconst 2, 1) := by decide +kernel
theorem dX2_kindHere_32 : decode cX2_kindHere 32 = .ok (.ireturn, 1) := by decide +kernel
theorem dX2_kindHere_33 : decode cX2_kindHere 33 = .ok (.aload_n 0, 1) := by decide +kernel
theorem dX2_kindHere_34 : decode cX2_kindHere 34 = .ok (.ldc 131, 2) := by decide +kernel
theorem dX2_kindHere_36 : decode cX2_kindHere 36 = .ok (.invokevirtual 39, 3) := by decide +kernel
theorem dX2_kindHere_39 : decode cX2_kindHere 39 = .ok (.ifCond .eq 7, 3) := by decide +kernel
theorem dX2_kindHere_42 : decode cX2_kindHere 42 = .ok (.iconst 3, 1) := by decide +kernel
theorem dX2_kindHere_43 : decode cX2_kindHere 43 = .ok (.goto 4, 3) := by decide +kernel
theorem dX2_kindHere_46 : decode cX2_kindHere 46 = .ok (.iconst (-1), 1) := by decide +kernel
theorem dX2_kindHere_47 : decode cX2_kindHere 47 = .ok (.ireturn, 1) := by decide +kernel
set_option maxRecDepth 20000 in
theorem ggX2_plainLawHere_X2_isWord : GoodIn wsX2_plainLawHere wsX2_isWord := goodIn_r _ [5, 6, 7, 8, 9, 10, 11, 12, 13, 14, 15, 16, 17, 18, 19, 20, 21, 22, 23, 24, 25, 26, 27, 28, 29, 30, 31, 32, 33, 34, 35, 36, 37, 38, 39, 40, 41, 42, 43, 44, 45, 46, 47, 48, 49, 50, 51, 52, 53, 54, 55, 56, 57, 58, 59, 60, 61, 62] (by decide +kernel) (by decide +kernel)
set_option maxRecDepth 20000 in
theorem gX2_plainLawHere_X2_isWord : GoodIn wsX2_plainLawHere (wsV RX2 39 RX2 yX2_isWord wsX2_isWord) := goodIn_app (goodIn_of _ (by decide +kernel)) ggX2_plainLawHere_X2_isWord
theorem dX2_plainLawHere_0 : decode cX2_plainLawHere 0 = .ok (.aload_n 0, 1) := by decide +kernel
theorem dX2_plainLawHere_1 : decode cX2_plainLawHere 1 = .ok (.ldc 133, 2) := by decide +kernel
theorem dX2_plainLawHere_3 : decode cX2_plainLawHere 3 = .ok (.invokevirtual 39, 3) := by decide +kernel
theorem dX2_plainLawHere_6 : decode cX2_plainLawHere 6 = .ok (.ifCond .eq 5, 3) := by decide +kernel
theorem dX2_plainLawHere_9 : decode cX2_plainLawHere 9 = .ok (.iconst 0, 1) := by decide +kernel
theorem dX2_plainLawHere_10 : decode cX2_plainLawHere 10 = .ok (.ireturn, 1) := by decide +kernel
theorem dX2_plainLawHere_11 : decode cX2_plainLawHere 11 = .ok (.aload_n 0, 1) := by decide +kernel
theorem dX2_plainLawHere_12 : decode cX2_plainLawHere 12 = .ok (.ldc 135, 2) := by decide +kernel
theorem dX2_plainLawHere_14 : decode cX2_plainLawHere 14 = .ok (.invokevirtual 39, 3) := by decide +kernel
theorem dX2_plainLawHere_17 : decode cX2_plainLawHere 17 = .ok (.ifCond .eq 5, 3) := by decide +kernel
theorem dX2_plainLawHere_20 : decode cX2_plainLawHere 20 = .ok (.iconst 1, 1) := by decide +kernel
theorem dX2_plainLawHere_21 : decode cX2_plainLawHere 21 = .ok (.ireturn, 1) := by decide +kernel
theorem dX2_plainLawHere_22 : decode cX2_plainLawHere 22 = .ok (.aload_n 0, 1) := by decide +kernel
theorem dX2_plainLawHere_23 : decode cX2_plainLawHere 23 = .ok (.ldc 137, 2) := by decide +kernel
theorem dX2_plainLawHere_25 : decode cX2_plainLawHere 25 = .ok (.invokevirtual 39, 3) := by decide +kernel
theorem dX2_plainLawHere_28 : decode cX2_plainLawHere 28 = .ok (.ifCond .eq 7, 3) := by decide +kernel
theorem dX2_plainLawHere_31 : decode cX2_plainLawHere 31 = .ok (.iconst 2, 1) := by decide +kernel
theorem dX2_plainLawHere_32 : decode cX2_plainLawHere 32 = .ok (.goto 4, 3) := by decide +kernel
theorem dX2_plainLawHere_35 : decode cX2_plainLawHere 35 = .ok (.iconst (-1), 1) := by decide +kernel
theorem dX2_plainLawHere_36 : decode cX2_plainLawHere 36 = .ok (.ireturn, 1) := by decide +kernel
set_option maxRecDepth 20000 in
theorem ggX2_stepToToken_X2_goesOn : GoodIn wsX2_stepToToken wsX2_goesOn := goodIn_r _ [9, 4, 3, 10, 11, 8, 12, 13, 14, 15, 16, 17, 18, 19, 20] (by decide +kernel) (by decide +kernel)
set_option maxRecDepth 20000 in
theorem gX2_stepToToken_X2_goesOn : GoodIn wsX2_stepToToken (wsV RX2 139 RX2 yX2_goesOn wsX2_goesOn) := goodIn_app (goodIn_of _ (by decide +kernel)) ggX2_stepToToken_X2_goesOn
theorem dX2_stepToToken_0 : decode cX2_stepToToken 0 = .ok (.aload_n 0, 1) := by decide +kernel
theorem dX2_stepToToken_1 : decode cX2_stepToToken 1 = .ok (.getfield 21, 3) := by decide +kernel
theorem dX2_stepToToken_4 : decode cX2_stepToToken 4 = .ok (.istore_n 1, 1) := by decide +kernel
theorem dX2_stepToToken_5 : decode cX2_stepToToken 5 = .ok (.iload_n 1, 1) := by decide +kernel
theorem dX2_stepToToken_6 : decode cX2_stepToToken 6 = .ok (.aload_n 0, 1) := by decide +kernel
theorem dX2_stepToToken_7 : decode cX2_stepToToken 7 = .ok (.getfield 15, 3) := by decide +kernel
theorem dX2_stepToToken_10 : decode cX2_stepToToken 10 = .ok (.if_icmp .ge 20, 3) := by decide +kernel
theorem dX2_stepToToken_13 : decode cX2_stepToToken 13 = .ok (.aload_n 0, 1) := by decide +kernel
theorem dX2_stepToToken_14 : decode cX2_stepToToken 14 = .ok (.getfield 9, 3) := by decide +kernel
theorem dX2_stepToToken_17 : decode cX2_stepToToken 17 = .ok (.iload_n 1, 1) := by decide +kernel
theorem dX2_stepToToken_18 : decode cX2_stepToToken 18 = .ok (.iaload, 1) := by decide +kernel
theorem dX2_stepToToken_19 : decode cX2_stepToToken 19 = .ok (.bipush 32, 2) := by decide +kernel
theorem dX2_stepToToken_21 : decode cX2_stepToToken 21 = .ok (.if_icmp .ne 9, 3) := by decide +kernel
theorem dX2_stepToToken_24 : decode cX2_stepToToken 24 = .ok (.iinc 1 1, 3) := by decide +kernel
theorem dX2_stepToToken_27 : decode cX2_stepToToken 27 = .ok (.goto (-22), 3) := by decide +kernel
theorem dX2_stepToToken_30 : decode cX2_stepToToken 30 = .ok (.aload_n 0, 1) := by decide +kernel
theorem dX2_stepToToken_31 : decode cX2_stepToToken 31 = .ok (.iload_n 1, 1) := by decide +kernel
theorem dX2_stepToToken_32 : decode cX2_stepToToken 32 = .ok (.putfield 34, 3) := by decide +kernel
theorem dX2_stepToToken_35 : decode cX2_stepToToken 35 = .ok (.iload_n 1, 1) := by decide +kernel
theorem dX2_stepToToken_36 : decode cX2_stepToToken 36 = .ok (.aload_n 0, 1) := by decide +kernel
theorem dX2_stepToToken_37 : decode cX2_stepToToken 37 = .ok (.getfield 15, 3) := by decide +kernel
theorem dX2_stepToToken_40 : decode cX2_stepToToken 40 = .ok (.if_icmp .ge 17, 3) := by decide +kernel
theorem dX2_stepToToken_43 : decode cX2_stepToToken 43 = .ok (.aload_n 0, 1) := by decide +kernel
theorem dX2_stepToToken_44 : decode cX2_stepToToken 44 = .ok (.iload_n 1, 1) := by decide +kernel
theorem dX2_stepToToken_45 : decode cX2_stepToToken 45 = .ok (.invokevirtual 139, 3) := by decide +kernel
theorem dX2_stepToToken_48 : decode cX2_stepToToken 48 = .ok (.ifCond .eq 9, 3) := by decide +kernel
theorem dX2_stepToToken_51 : decode cX2_stepToToken 51 = .ok (.iinc 1 1, 3) := by decide +kernel
theorem dX2_stepToToken_54 : decode cX2_stepToToken 54 = .ok (.goto (-19), 3) := by decide +kernel
theorem dX2_stepToToken_57 : decode cX2_stepToToken 57 = .ok (.aload_n 0, 1) := by decide +kernel
theorem dX2_stepToToken_58 : decode cX2_stepToToken 58 = .ok (.iload_n 1, 1) := by decide +kernel
theorem dX2_stepToToken_59 : decode cX2_stepToToken 59 = .ok (.putfield 21, 3) := by decide +kernel
theorem dX2_stepToToken_62 : decode cX2_stepToToken 62 = .ok (.return_, 1) := by decide +kernel
set_option maxRecDepth 20000 in
theorem ggX2_goesOn_X2_isLetter : GoodIn wsX2_goesOn wsX2_isLetter := goodIn_r _ [6] (by decide +kernel) (by decide +kernel)
set_option maxRecDepth 20000 in
theorem gX2_goesOn_X2_isLetter : GoodIn wsX2_goesOn (va_wsS RX2 143 yX2_isLetter wsX2_isLetter) := goodIn_app (goodIn_of _ (by decide +kernel)) ggX2_goesOn_X2_isLetter
set_option maxRecDepth 20000 in
theorem ggX2_goesOn_X2_isDigit : GoodIn wsX2_goesOn wsX2_isDigit := goodIn_r _ [9] (by decide +kernel) (by decide +kernel)
set_option maxRecDepth 20000 in
theorem gX2_goesOn_X2_isDigit : GoodIn wsX2_goesOn (va_wsS RX2 146 yX2_isDigit wsX2_isDigit) := goodIn_app (goodIn_of _ (by decide +kernel)) ggX2_goesOn_X2_isDigit
theorem dX2_goesOn_0 : decode cX2_goesOn 0 = .ok (.iload_n 1, 1) := by decide +kernel
theorem dX2_goesOn_1 : decode cX2_goesOn 1 = .ok (.aload_n 0, 1) := by decide +kernel
theorem dX2_goesOn_2 : decode cX2_goesOn 2 = .ok (.getfield 34, 3) := by decide +kernel
theorem dX2_goesOn_5 : decode cX2_goesOn 5 = .ok (.if_icmp .ne 5, 3) := by decide +kernel
theorem dX2_goesOn_8 : decode cX2_goesOn 8 = .ok (.iconst 1, 1) := by decide +kernel
theorem dX2_goesOn_9 : decode cX2_goesOn 9 = .ok (.ireturn, 1) := by decide +kernel
theorem dX2_goesOn_10 : decode cX2_goesOn 10 = .ok (.aload_n 0, 1) := by decide +kernel
theorem dX2_goesOn_11 : decode cX2_goesOn 11 = .ok (.getfield 9, 3) := by decide +kernel
theorem dX2_goesOn_14 : decode cX2_goesOn 14 = .ok (.aload_n 0, 1) := by decide +kernel
theorem dX2_goesOn_15 : decode cX2_goesOn 15 = .ok (.getfield 34, 3) := by decide +kernel
theorem dX2_goesOn_18 : decode cX2_goesOn 18 = .ok (.iaload, 1) := by decide +kernel
theorem dX2_goesOn_19 : decode cX2_goesOn 19 = .ok (.istore_n 2, 1) := by decide +kernel
theorem dX2_goesOn_20 : decode cX2_goesOn 20 = .ok (.iload_n 2, 1) := by decide +kernel
theorem dX2_goesOn_21 : decode cX2_goesOn 21 = .ok (.invokestatic 143, 3) := by decide +kernel
theorem dX2_goesOn_24 : decode cX2_goesOn 24 = .ok (.ifCond .eq 15, 3) := by decide +kernel
theorem dX2_goesOn_27 : decode cX2_goesOn 27 = .ok (.aload_n 0, 1) := by decide +kernel
theorem dX2_goesOn_28 : decode cX2_goesOn 28 = .ok (.getfield 9, 3) := by decide +kernel
theorem dX2_goesOn_31 : decode cX2_goesOn 31 = .ok (.iload_n 1, 1) := by decide +kernel
theorem dX2_goesOn_32 : decode cX2_goesOn 32 = .ok (.iaload, 1) := by decide +kernel
theorem dX2_goesOn_33 : decode cX2_goesOn 33 = .ok (.invokestatic 143, 3) := by decide +kernel
theorem dX2_goesOn_36 : decode cX2_goesOn 36 = .ok (.ifCond .ne 22, 3) := by decide +kernel
theorem dX2_goesOn_39 : decode cX2_goesOn 39 = .ok (.iload_n 2, 1) := by decide +kernel
theorem dX2_goesOn_40 : decode cX2_goesOn 40 = .ok (.invokestatic 146, 3) := by decide +kernel
theorem dX2_goesOn_43 : decode cX2_goesOn 43 = .ok (.ifCond .eq 19, 3) := by decide +kernel
theorem dX2_goesOn_46 : decode cX2_goesOn 46 = .ok (.aload_n 0, 1) := by decide +kernel
theorem dX2_goesOn_47 : decode cX2_goesOn 47 = .ok (.getfield 9, 3) := by decide +kernel
theorem dX2_goesOn_50 : decode cX2_goesOn 50 = .ok (.iload_n 1, 1) := by decide +kernel
theorem dX2_goesOn_51 : decode cX2_goesOn 51 = .ok (.iaload, 1) := by decide +kernel
theorem dX2_goesOn_52 : decode cX2_goesOn 52 = .ok (.invokestatic 146, 3) := by decide +kernel
theorem dX2_goesOn_55 : decode cX2_goesOn 55 = .ok (.ifCond .eq 7, 3) := by decide +kernel
theorem dX2_goesOn_58 : decode cX2_goesOn 58 = .ok (.iconst 1, 1) := by decide +kernel
theorem dX2_goesOn_59 : decode cX2_goesOn 59 = .ok (.goto 4, 3) := by decide +kernel
theorem dX2_goesOn_62 : decode cX2_goesOn 62 = .ok (.iconst 0, 1) := by decide +kernel
theorem dX2_goesOn_63 : decode cX2_goesOn 63 = .ok (.ireturn, 1) := by decide +kernel
set_option maxRecDepth 20000 in
theorem ggX2_isWord_J0_length_8abf5 : GoodIn wsX2_isWord wsJ0_length_8abf5 := goodIn_r _ [8, 9, 10, 11, 12, 7, 13, 14, 15] (by decide +kernel) (by decide +kernel)
set_option maxRecDepth 20000 in
theorem gX2_isWord_J0_length_8abf5 : GoodIn wsX2_isWord (wsV RX2 149 RJ0 yJ0_length_8abf5 wsJ0_length_8abf5) := goodIn_app (goodIn_of _ (by decide +kernel)) ggX2_isWord_J0_length_8abf5
set_option maxRecDepth 20000 in
theorem ggX2_isWord_J0_charAt_5068e : GoodIn wsX2_isWord wsJ0_charAt_5068e := goodIn_r _ [19, 9, 20, 21, 22, 7, 23, 14, 15, 24, 25, 26, 27, 28, 29, 30, 31, 32, 33, 34, 35, 36, 37, 38, 39, 40, 41, 42, 43, 44, 45, 46, 47, 48, 49, 50, 51, 52] (by decide +kernel) (by decide +kernel)
set_option maxRecDepth 20000 in
theorem gX2_isWord_J0_charAt_5068e : GoodIn wsX2_isWord (wsV RX2 153 RJ0 yJ0_charAt_5068e wsJ0_charAt_5068e) := goodIn_app (goodIn_of _ (by decide +kernel)) ggX2_isWord_J0_charAt_5068e
theorem dX2_isWord_0 : decode cX2_isWord 0 = .ok (.aload_n 0, 1) := by decide +kernel
theorem dX2_isWord_1 : decode cX2_isWord 1 = .ok (.getfield 21, 3) := by decide +kernel
theorem dX2_isWord_4 : decode cX2_isWord 4 = .ok (.aload_n 0, 1) := by decide +kernel
theorem dX2_isWord_5 : decode cX2_isWord 5 = .ok (.getfield 34, 3) := by decide +kernel
theorem dX2_isWord_8 : decode cX2_isWord 8 = .ok (.isub, 1) := by decide +kernel
theorem dX2_isWord_9 : decode cX2_isWord 9 = .ok (.aload_n 1, 1) := by decide +kernel
theorem dX2_isWord_10 : decode cX2_isWord 10 = .ok (.invokevirtual 149, 3) := by decide +kernel
theorem dX2_isWord_13 : decode cX2_isWord 13 = .ok (.if_icmp .eq 5, 3) := by decide +kernel
theorem dX2_isWord_16 : decode cX2_isWord 16 = .ok (.iconst 0, 1) := by decide +kernel
theorem dX2_isWord_17 : decode cX2_isWord 17 = .ok (.ireturn, 1) := by decide +kernel
theorem dX2_isWord_18 : decode cX2_isWord 18 = .ok (.iconst 0, 1) := by decide +kernel
theorem dX2_isWord_19 : decode cX2_isWord 19 = .ok (.istore_n 2, 1) := by decide +kernel
theorem dX2_isWord_20 : decode cX2_isWord 20 = .ok (.iload_n 2, 1) := by decide +kernel
theorem dX2_isWord_21 : decode cX2_isWord 21 = .ok (.aload_n 1, 1) := by decide +kernel
theorem dX2_isWord_22 : decode cX2_isWord 22 = .ok (.invokevirtual 149, 3) := by decide +kernel
theorem dX2_isWord_25 : decode cX2_isWord 25 = .ok (.if_icmp .ge 30, 3) := by decide +kernel
theorem dX2_isWord_28 : decode cX2_isWord 28 = .ok (.aload_n 0, 1) := by decide +kernel
theorem dX2_isWord_29 : decode cX2_isWord 29 = .ok (.getfield 9, 3) := by decide +kernel
theorem dX2_isWord_32 : decode cX2_isWord 32 = .ok (.aload_n 0, 1) := by decide +kernel
theorem dX2_isWord_33 : decode cX2_isWord 33 = .ok (.getfield 34, 3) := by decide +kernel
theorem dX2_isWord_36 : decode cX2_isWord 36 = .ok (.iload_n 2, 1) := by decide +kernel
theorem dX2_isWord_37 : decode cX2_isWord 37 = .ok (.iadd, 1) := by decide +kernel
theorem dX2_isWord_38 : decode cX2_isWord 38 = .ok (.iaload, 1) := by decide +kernel
theorem dX2_isWord_39 : decode cX2_isWord 39 = .ok (.aload_n 1, 1) := by decide +kernel
theorem dX2_isWord_40 : decode cX2_isWord 40 = .ok (.iload_n 2, 1) := by decide +kernel
theorem dX2_isWord_41 : decode cX2_isWord 41 = .ok (.invokevirtual 153, 3) := by decide +kernel
theorem dX2_isWord_44 : decode cX2_isWord 44 = .ok (.if_icmp .eq 5, 3) := by decide +kernel
theorem dX2_isWord_47 : decode cX2_isWord 47 = .ok (.iconst 0, 1) := by decide +kernel
theorem dX2_isWord_48 : decode cX2_isWord 48 = .ok (.ireturn, 1) := by decide +kernel
theorem dX2_isWord_49 : decode cX2_isWord 49 = .ok (.iinc 2 1, 3) := by decide +kernel
theorem dX2_isWord_52 : decode cX2_isWord 52 = .ok (.goto (-32), 3) := by decide +kernel
theorem dX2_isWord_55 : decode cX2_isWord 55 = .ok (.iconst 1, 1) := by decide +kernel
theorem dX2_isWord_56 : decode cX2_isWord 56 = .ok (.ireturn, 1) := by decide +kernel
set_option maxRecDepth 20000 in
theorem ggX2_readNumber_X2_stepToToken : GoodIn wsX2_readNumber wsX2_stepToToken := goodIn_r _ [8, 1, 9, 3, 2, 10, 11, 12, 7, 13, 14, 15, 16, 17, 18, 19, 20, 21, 22, 23, 24] (by decide +kernel) (by decide +kernel)
set_option maxRecDepth 20000 in
theorem gX2_readNumber_X2_stepToToken : GoodIn wsX2_readNumber (wsV RX2 27 RX2 yX2_stepToToken wsX2_stepToToken) := goodIn_app (goodIn_of _ (by decide +kernel)) ggX2_readNumber_X2_stepToToken
set_option maxRecDepth 20000 in
theorem ggX2_readNumber_X2_isDigit : GoodIn wsX2_readNumber wsX2_isDigit := goodIn_r _ [19] (by decide +kernel) (by decide +kernel)
set_option maxRecDepth 20000 in
theorem gX2_readNumber_X2_isDigit : GoodIn wsX2_readNumber (va_wsS RX2 146 yX2_isDigit wsX2_isDigit) := goodIn_app (goodIn_of _ (by decide +kernel)) ggX2_readNumber_X2_isDigit
theorem dX2_readNumber_0 : decode cX2_readNumber 0 = .ok (.aload_n 0, 1) := by decide +kernel
theorem dX2_readNumber_1 : decode cX2_readNumber 1 = .ok (.invokevirtual 27, 3) := by decide +kernel
theorem dX2_readNumber_4 : decode cX2_readNumber 4 = .ok (.aload_n 0, 1) := by decide +kernel
theorem dX2_readNumber_5 : decode cX2_readNumber 5 = .ok (.getfield 21, 3) := by decide +kernel
theorem dX2_readNumber_8 : decode cX2_readNumber 8 = .ok (.aload_n 0, 1) := by decide +kernel
theorem dX2_readNumber_9 : decode cX2_readNumber 9 = .ok (.getfield 34, 3) := by decide +kernel
theorem dX2_readNumber_12 : decode cX2_readNumber 12 = .ok (.isub, 1) := by decide +kernel
theorem dX2_readNumber_13 : decode cX2_readNumber 13 = .ok (.istore 4, 2) := by decide +kernel
theorem dX2_readNumber_15 : decode cX2_readNumber 15 = .ok (.iload 4, 2) := by decide +kernel
theorem dX2_readNumber_17 : decode cX2_readNumber 17 = .ok (.iconst 1, 1) := by decide +kernel
theorem dX2_readNumber_18 : decode cX2_readNumber 18 = .ok (.if_icmp .lt 24, 3) := by decide +kernel
theorem dX2_readNumber_21 : decode cX2_readNumber 21 = .ok (.iload 4, 2) := by decide +kernel
theorem dX2_readNumber_23 : decode cX2_readNumber 23 = .ok (.iload_n 3, 1) := by decide +kernel
theorem dX2_readNumber_24 : decode cX2_readNumber 24 = .ok (.if_icmp .gt 18, 3) := by decide +kernel
theorem dX2_readNumber_27 : decode cX2_readNumber 27 = .ok (.aload_n 0, 1) := by decide +kernel
theorem dX2_readNumber_28 : decode cX2_readNumber 28 = .ok (.getfield 9, 3) := by decide +kernel
theorem dX2_readNumber_31 : decode cX2_readNumber 31 = .ok (.aload_n 0, 1) := by decide +kernel
theorem dX2_readNumber_32 : decode cX2_readNumber 32 = .ok (.getfield 34, 3) := by decide +kernel
theorem dX2_readNumber_35 : decode cX2_readNumber 35 = .ok (.iaload, 1) := by decide +kernel
theorem dX2_readNumber_36 : decode cX2_readNumber 36 = .ok (.invokestatic 146, 3) := by decide +kernel
theorem dX2_readNumber_39 : decode cX2_readNumber 39 = .ok (.ifCond .ne 5, 3) := by decide +kernel
theorem dX2_readNumber_42 : decode cX2_readNumber 42 = .ok (.iconst (-1), 1) := by decide +kernel
theorem dX2_readNumber_43 : decode cX2_readNumber 43 = .ok (.ireturn, 1) := by decide +kernel
theorem dX2_readNumber_44 : decode cX2_readNumber 44 = .ok (.iconst 0, 1) := by decide +kernel
theorem dX2_readNumber_45 : decode cX2_readNumber 45 = .ok (.istore 5, 2) := by decide +kernel
theorem dX2_readNumber_47 : decode cX2_readNumber 47 = .ok (.aload_n 0, 1) := by decide +kernel
theorem dX2_readNumber_48 : decode cX2_readNumber 48 = .ok (.getfield 34, 3) := by decide +kernel
theorem dX2_readNumber_51 : decode cX2_readNumber 51 = .ok (.istore 6, 2) := by decide +kernel
theorem dX2_readNumber_53 : decode cX2_readNumber 53 = .ok (.iload 6, 2) := by decide +kernel
theorem dX2_readNumber_55 : decode cX2_readNumber 55 = .ok (.aload_n 0, 1) := by decide +kernel
theorem dX2_readNumber_56 : decode cX2_readNumber 56 = .ok (.getfield 21, 3) := by decide +kernel
theorem dX2_readNumber_59 : decode cX2_readNumber 59 = .ok (.if_icmp .ge 27, 3) := by decide +kernel
theorem dX2_readNumber_62 : decode cX2_readNumber 62 = .ok (.bipush 10, 2) := by decide +kernel
theorem dX2_readNumber_64 : decode cX2_readNumber 64 = .ok (.iload 5, 2) := by decide +kernel
theorem dX2_readNumber_66 : decode cX2_readNumber 66 = .ok (.imul, 1) := by decide +kernel
theorem dX2_readNumber_67 : decode cX2_readNumber 67 = .ok (.aload_n 0, 1) := by decide +kernel
theorem dX2_readNumber_68 : decode cX2_readNumber 68 = .ok (.getfield 9, 3) := by decide +kernel
theorem dX2_readNumber_71 : decode cX2_readNumber 71 = .ok (.iload 6, 2) := by decide +kernel
theorem dX2_readNumber_73 : decode cX2_readNumber 73 = .ok (.iaload, 1) := by decide +kernel
theorem dX2_readNumber_74 : decode cX2_readNumber 74 = .ok (.iadd, 1) := by decide +kernel
theorem dX2_readNumber_75 : decode cX2_readNumber 75 = .ok (.bipush 48, 2) := by decide +kernel
theorem dX2_readNumber_77 : decode cX2_readNumber 77 = .ok (.isub, 1) := by decide +kernel
theorem dX2_readNumber_78 : decode cX2_readNumber 78 = .ok (.istore 5, 2) := by decide +kernel
theorem dX2_readNumber_80 : decode cX2_readNumber 80 = .ok (.iinc 6 1, 3) := by decide +kernel
theorem dX2_readNumber_83 : decode cX2_readNumber 83 = .ok (.goto (-30), 3) := by decide +kernel
theorem dX2_readNumber_86 : decode cX2_readNumber 86 = .ok (.iload 5, 2) := by decide +kernel
theorem dX2_readNumber_88 : decode cX2_readNumber 88 = .ok (.iload_n 1, 1) := by decide +kernel
theorem dX2_readNumber_89 : decode cX2_readNumber 89 = .ok (.if_icmp .lt 9, 3) := by decide +kernel
theorem dX2_readNumber_92 : decode cX2_readNumber 92 = .ok (.iload 5, 2) := by decide +kernel
theorem dX2_readNumber_94 : decode cX2_readNumber 94 = .ok (.iload_n 2, 1) := by decide +kernel
theorem dX2_readNumber_95 : decode cX2_readNumber 95 = .ok (.if_icmp .le 7, 3) := by decide +kernel
theorem dX2_readNumber_98 : decode cX2_readNumber 98 = .ok (.iconst (-1), 1) := by decide +kernel
theorem dX2_readNumber_99 : decode cX2_readNumber 99 = .ok (.goto 5, 3) := by decide +kernel
theorem dX2_readNumber_102 : decode cX2_readNumber 102 = .ok (.iload 5, 2) := by decide +kernel
theorem dX2_readNumber_104 : decode cX2_readNumber 104 = .ok (.ireturn, 1) := by decide +kernel
theorem dX2_isLetter_0 : decode cX2_isLetter 0 = .ok (.iload_n 0, 1) := by decide +kernel
theorem dX2_isLetter_1 : decode cX2_isLetter 1 = .ok (.bipush 97, 2) := by decide +kernel
theorem dX2_isLetter_3 : decode cX2_isLetter 3 = .ok (.if_icmp .lt 13, 3) := by decide +kernel
theorem dX2_isLetter_6 : decode cX2_isLetter 6 = .ok (.iload_n 0, 1) := by decide +kernel
theorem dX2_isLetter_7 : decode cX2_isLetter 7 = .ok (.bipush 122, 2) := by decide +kernel
theorem dX2_isLetter_9 : decode cX2_isLetter 9 = .ok (.if_icmp .gt 7, 3) := by decide +kernel
theorem dX2_isLetter_12 : decode cX2_isLetter 12 = .ok (.iconst 1, 1) := by decide +kernel
theorem dX2_isLetter_13 : decode cX2_isLetter 13 = .ok (.goto 4, 3) := by decide +kernel
theorem dX2_isLetter_16 : decode cX2_isLetter 16 = .ok (.iconst 0, 1) := by decide +kernel
theorem dX2_isLetter_17 : decode cX2_isLetter 17 = .ok (.ireturn, 1) := by decide +kernel
theorem dX2_isDigit_0 : decode cX2_isDigit 0 = .ok (.iload_n 0, 1) := by decide +kernel
theorem dX2_isDigit_1 : decode cX2_isDigit 1 = .ok (.bipush 48, 2) := by decide +kernel
theorem dX2_isDigit_3 : decode cX2_isDigit 3 = .ok (.if_icmp .lt 13, 3) := by decide +kernel
theorem dX2_isDigit_6 : decode cX2_isDigit 6 = .ok (.iload_n 0, 1) := by decide +kernel
theorem dX2_isDigit_7 : decode cX2_isDigit 7 = .ok (.bipush 57, 2) := by decide +kernel
theorem dX2_isDigit_9 : decode cX2_isDigit 9 = .ok (.if_icmp .gt 7, 3) := by decide +kernel
theorem dX2_isDigit_12 : decode cX2_isDigit 12 = .ok (.iconst 1, 1) := by decide +kernel
theorem dX2_isDigit_13 : decode cX2_isDigit 13 = .ok (.goto 4, 3) := by decide +kernel
theorem dX2_isDigit_16 : decode cX2_isDigit 16 = .ok (.iconst 0, 1) := by decide +kernel
theorem dX2_isDigit_17 : decode cX2_isDigit 17 = .ok (.ireturn, 1) := by decide +kernel
set_option maxRecDepth 20000 in
theorem ggX3_init_X3_layOut : GoodIn wsX3_init wsX3_layOut := goodIn_r _ [16, 17, 18, 19, 20, 5, 21, 22, 23, 24, 25, 26, 27, 15, 28, 29, 30, 31, 32, 33, 34, 35, 36, 37, 38, 39, 40, 41, 42, 43] (by decide +kernel) (by decide +kernel)
set_option maxRecDepth 20000 in
theorem gX3_init_X3_layOut : GoodIn wsX3_init (wsV RX3 33 RX3 yX3_layOut wsX3_layOut) := goodIn_app (goodIn_of _ (by decide +kernel)) ggX3_init_X3_layOut
theorem dX3_init_0 : decode cX3_init 0 = .ok (.aload_n 0, 1) := by decide +kernel
theorem dX3_init_1 : decode cX3_init 1 = .ok (.invokespecial 3, 3) := by decide +kernel
theorem dX3_init_4 : decode cX3_init 4 = .ok (.aload_n 0, 1) := by decide +kernel
theorem dX3_init_5 : decode cX3_init 5 = .ok (.bipush 12, 2) := by decide +kernel
theorem dX3_init_7 : decode cX3_init 7 = .ok (.newarray .int, 2) := by decide +kernel
theorem dX3_init_9 : decode cX3_init 9 = .ok (.putfield 9, 3) := by decide +kernel
theorem dX3_init_12 : decode cX3_init 12 = .ok (.aload_n 0, 1) := by decide +kernel
theorem dX3_init_13 : decode cX3_init 13 = .ok (.bipush 8, 2) := by decide +kernel
theorem dX3_init_15 : decode cX3_init 15 = .ok (.newarray .int, 2) := by decide +kernel
theorem dX3_init_17 : decode cX3_init 17 = .ok (.putfield 15, 3) := by decide +kernel
theorem dX3_init_20 : decode cX3_init 20 = .ok (.aload_n 0, 1) := by decide +kernel
theorem dX3_init_21 : decode cX3_init 21 = .ok (.bipush 8, 2) := by decide +kernel
theorem dX3_init_23 : decode cX3_init 23 = .ok (.newarray .int, 2) := by decide +kernel
theorem dX3_init_25 : decode cX3_init 25 = .ok (.putfield 18, 3) := by decide +kernel
theorem dX3_init_28 : decode cX3_init 28 = .ok (.aload_n 0, 1) := by decide +kernel
theorem dX3_init_29 : decode cX3_init 29 = .ok (.bipush 6, 2) := by decide +kernel
theorem dX3_init_31 : decode cX3_init 31 = .ok (.newarray .int, 2) := by decide +kernel
theorem dX3_init_33 : decode cX3_init 33 = .ok (.putfield 21, 3) := by decide +kernel
theorem dX3_init_36 : decode cX3_init 36 = .ok (.aload_n 0, 1) := by decide +kernel
theorem dX3_init_37 : decode cX3_init 37 = .ok (.bipush 6, 2) := by decide +kernel
theorem dX3_init_39 : decode cX3_init 39 = .ok (.newarray .int, 2) := by decide +kernel
theorem dX3_init_41 : decode cX3_init 41 = .ok (.putfield 24, 3) := by decide +kernel
theorem dX3_init_44 : decode cX3_init 44 = .ok (.aload_n 0, 1) := by decide +kernel
theorem dX3_init_45 : decode cX3_init 45 = .ok (.bipush 6, 2) := by decide +kernel
theorem dX3_init_47 : decode cX3_init 47 = .ok (.newarray .int, 2) := by decide +kernel
theorem dX3_init_49 : decode cX3_init 49 = .ok (.putfield 27, 3) := by decide +kernel
theorem dX3_init_52 : decode cX3_init 52 = .ok (.aload_n 0, 1) := by decide +kernel
theorem dX3_init_53 : decode cX3_init 53 = .ok (.bipush 6, 2) := by decide +kernel
theorem dX3_init_55 : decode cX3_init 55 = .ok (.newarray .int, 2) := by decide +kernel
theorem dX3_init_57 : decode cX3_init 57 = .ok (.putfield 30, 3) := by decide +kernel
theorem dX3_init_60 : decode cX3_init 60 = .ok (.aload_n 0, 1) := by decide +kernel
theorem dX3_init_61 : decode cX3_init 61 = .ok (.bipush 6, 2) := by decide +kernel
theorem dX3_init_63 : decode cX3_init 63 = .ok (.invokevirtual 33, 3) := by decide +kernel
theorem dX3_init_66 : decode cX3_init 66 = .ok (.return_, 1) := by decide +kernel
set_option maxRecDepth 20000 in
theorem ggX3_layOut_J7_fill_53178 : GoodIn wsX3_layOut wsJ7_fill_53178 := goodIn_r _ [9] (by decide +kernel) (by decide +kernel)
set_option maxRecDepth 20000 in
theorem gX3_layOut_J7_fill_53178 : GoodIn wsX3_layOut (va_wsS RX3 50 yJ7_fill_53178 wsJ7_fill_53178) := goodIn_app (goodIn_of _ (by decide +kernel)) ggX3_layOut_J7_fill_53178
set_option maxRecDepth 20000 in
theorem ggX3_layOut_X3_removeHouses : GoodIn wsX3_layOut wsX3_removeHouses := goodIn_r _ [14, 15, 16, 17, 18, 19, 20, 21, 22, 23, 24, 25, 26, 27, 28, 29] (by decide +kernel) (by decide +kernel)
set_option maxRecDepth 20000 in
theorem gX3_layOut_X3_removeHouses : GoodIn wsX3_layOut (wsV RX3 56 RX3 yX3_removeHouses wsX3_removeHouses) := goodIn_app (goodIn_of _ (by decide +kernel)) ggX3_layOut_X3_removeHouses
theorem dX3_layOut_0 : decode cX3_layOut 0 = .ok (.aload_n 0, 1) := by decide +kernel
theorem dX3_layOut_1 : decode cX3_layOut 1 = .ok (.iload_n 1, 1) := by decide +kernel
theorem dX3_layOut_2 : decode cX3_layOut 2 = .ok (.putfield 37, 3) := by decide +kernel
theorem dX3_layOut_5 : decode cX3_layOut 5 = .ok (.aload_n 0, 1) := by decide +kernel
theorem dX3_layOut_6 : decode cX3_layOut 6 = .ok (.iconst 0, 1) := by decide +kernel
theorem dX3_layOut_7 : decode cX3_layOut 7 = .ok (.putfield 41, 3) := by decide +kernel
theorem dX3_layOut_10 : decode cX3_layOut 10 = .ok (.aload_n 0, 1) := by decide +kernel
theorem dX3_layOut_11 : decode cX3_layOut 11 = .ok (.iconst 0, 1) := by decide +kernel
theorem dX3_layOut_12 : decode cX3_layOut 12 = .ok (.putfield 44, 3) := by decide +kernel
theorem dX3_layOut_15 : decode cX3_layOut 15 = .ok (.aload_n 0, 1) := by decide +kernel
theorem dX3_layOut_16 : decode cX3_layOut 16 = .ok (.iconst 1, 1) := by decide +kernel
theorem dX3_layOut_17 : decode cX3_layOut 17 = .ok (.putfield 47, 3) := by decide +kernel
theorem dX3_layOut_20 : decode cX3_layOut 20 = .ok (.aload_n 0, 1) := by decide +kernel
theorem dX3_layOut_21 : decode cX3_layOut 21 = .ok (.getfield 9, 3) := by decide +kernel
theorem dX3_layOut_24 : decode cX3_layOut 24 = .ok (.iconst 1, 1) := by decide +kernel
theorem dX3_layOut_25 : decode cX3_layOut 25 = .ok (.invokestatic 50, 3) := by decide +kernel
theorem dX3_layOut_28 : decode cX3_layOut 28 = .ok (.aload_n 0, 1) := by decide +kernel
theorem dX3_layOut_29 : decode cX3_layOut 29 = .ok (.invokevirtual 56, 3) := by decide +kernel
theorem dX3_layOut_32 : decode cX3_layOut 32 = .ok (.return_, 1) := by decide +kernel
theorem dX3_removeHouses_0 : decode cX3_removeHouses 0 = .ok (.aload_n 0, 1) := by decide +kernel
theorem dX3_removeHouses_1 : decode cX3_removeHouses 1 = .ok (.iconst 0, 1) := by decide +kernel
theorem dX3_removeHouses_2 : decode cX3_removeHouses 2 = .ok (.putfield 59, 3) := by decide +kernel
theorem dX3_removeHouses_5 : decode cX3_removeHouses 5 = .ok (.aload_n 0, 1) := by decide +kernel
theorem dX3_removeHouses_6 : decode cX3_removeHouses 6 = .ok (.iconst 0, 1) := by decide +kernel
theorem dX3_removeHouses_7 : decode cX3_removeHouses 7 = .ok (.putfield 62, 3) := by decide +kernel
theorem dX3_removeHouses_10 : decode cX3_removeHouses 10 = .ok (.return_, 1) := by decide +kernel
theorem dX3_copyFrom_0 : decode cX3_copyFrom 0 = .ok (.aload_n 0, 1) := by decide +kernel
theorem dX3_copyFrom_1 : decode cX3_copyFrom 1 = .ok (.aload_n 1, 1) := by decide +kernel
theorem dX3_copyFrom_2 : decode cX3_copyFrom 2 = .ok (.getfield 37, 3) := by decide +kernel
theorem dX3_copyFrom_5 : decode cX3_copyFrom 5 = .ok (.putfield 37, 3) := by decide +kernel
theorem dX3_copyFrom_8 : decode cX3_copyFrom 8 = .ok (.aload_n 0, 1) := by decide +kernel
theorem dX3_copyFrom_9 : decode cX3_copyFrom 9 = .ok (.aload_n 1, 1) := by decide +kernel
theorem dX3_copyFrom_10 : decode cX3_copyFrom 10 = .ok (.getfield 59, 3) := by decide +kernel
theorem dX3_copyFrom_13 : decode cX3_copyFrom 13 = .ok (.putfield 59, 3) := by decide +kernel
theorem dX3_copyFrom_16 : decode cX3_copyFrom 16 = .ok (.aload_n 0, 1) := by decide +kernel
theorem dX3_copyFrom_17 : decode cX3_copyFrom 17 = .ok (.aload_n 1, 1) := by decide +kernel
theorem dX3_copyFrom_18 : decode cX3_copyFrom 18 = .ok (.getfield 41, 3) := by decide +kernel
theorem dX3_copyFrom_21 : decode cX3_copyFrom 21 = .ok (.putfield 41, 3) := by decide +kernel
theorem dX3_copyFrom_24 : decode cX3_copyFrom 24 = .ok (.aload_n 0, 1) := by decide +kernel
theorem dX3_copyFrom_25 : decode cX3_copyFrom 25 = .ok (.aload_n 1, 1) := by decide +kernel
theorem dX3_copyFrom_26 : decode cX3_copyFrom 26 = .ok (.getfield 62, 3) := by decide +kernel
theorem dX3_copyFrom_29 : decode cX3_copyFrom 29 = .ok (.putfield 62, 3) := by decide +kernel
theorem dX3_copyFrom_32 : decode cX3_copyFrom 32 = .ok (.aload_n 0, 1) := by decide +kernel
theorem dX3_copyFrom_33 : decode cX3_copyFrom 33 = .ok (.aload_n 1, 1) := by decide +kernel
theorem dX3_copyFrom_34 : decode cX3_copyFrom 34 = .ok (.getfield 44, 3) := by decide +kernel
theorem dX3_copyFrom_37 : decode cX3_copyFrom 37 = .ok (.putfield 44, 3) := by decide +kernel
theorem dX3_copyFrom_40 : decode cX3_copyFrom 40 = .ok (.aload_n 0, 1) := by decide +kernel
theorem dX3_copyFrom_41 : decode cX3_copyFrom 41 = .ok (.aload_n 1, 1) := by decide +kernel
theorem dX3_copyFrom_42 : decode cX3_copyFrom 42 = .ok (.getfield 47, 3) := by decide +kernel
theorem dX3_copyFrom_45 : decode cX3_copyFrom 45 = .ok (.putfield 47, 3) := by decide +kernel
theorem dX3_copyFrom_48 : decode cX3_copyFrom 48 = .ok (.aload_n 1, 1) := by decide +kernel
theorem dX3_copyFrom_49 : decode cX3_copyFrom 49 = .ok (.getfield 9, 3) := by decide +kernel
theorem dX3_copyFrom_52 : decode cX3_copyFrom 52 = .ok (.iconst 0, 1) := by decide +kernel
theorem dX3_copyFrom_53 : decode cX3_copyFrom 53 = .ok (.aload_n 0, 1) := by decide +kernel
theorem dX3_copyFrom_54 : decode cX3_copyFrom 54 = .ok (.getfield 9, 3) := by decide +kernel
theorem dX3_copyFrom_57 : decode cX3_copyFrom 57 = .ok (.iconst 0, 1) := by decide +kernel
theorem dX3_copyFrom_58 : decode cX3_copyFrom 58 = .ok (.bipush 12, 2) := by decide +kernel
theorem dX3_copyFrom_60 : decode cX3_copyFrom 60 = .ok (.invokestatic 65, 3) := by decide +kernel
theorem dX3_copyFrom_63 : decode cX3_copyFrom 63 = .ok (.aload_n 1, 1) := by decide +kernel
theorem dX3_copyFrom_64 : decode cX3_copyFrom 64 = .ok (.getfield 15, 3) := by decide +kernel
theorem dX3_copyFrom_67 : decode cX3_copyFrom 67 = .ok (.iconst 0, 1) := by decide +kernel
theorem dX3_copyFrom_68 : decode cX3_copyFrom 68 = .ok (.aload_n 0, 1) := by decide +kernel
theorem dX3_copyFrom_69 : decode cX3_copyFrom 69 = .ok (.getfield 15, 3) := by decide +kernel
theorem dX3_copyFrom_72 : decode cX3_copyFrom 72 = .ok (.iconst 0, 1) := by decide +kernel
theorem dX3_copyFrom_73 : decode cX3_copyFrom 73 = .ok (.bipush 8, 2) := by decide +kernel
theorem dX3_copyFrom_75 : decode cX3_copyFrom 75 = .ok (.invokestatic 65, 3) := by decide +kernel
theorem dX3_copyFrom_78 : decode cX3_copyFrom 78 = .ok (.aload_n 1, 1) := by decide +kernel
theorem dX3_copyFrom_79 : decode cX3_copyFrom 79 = .ok (.getfield 18, 3) := by decide +kernel
theorem dX3_copyFrom_82 : decode cX3_copyFrom 82 = .ok (.iconst 0, 1) := by decide +kernel
theorem dX3_copyFrom_83 : decode cX3_copyFrom 83 = .ok (.aload_n 0, 1) := by decide +kernel
theorem dX3_copyFrom_84 : decode cX3_copyFrom 84 = .ok (.getfield 18, 3) := by decide +kernel
theorem dX3_copyFrom_87 : decode cX3_copyFrom 87 = .ok (.iconst 0, 1) := by decide +kernel
theorem dX3_copyFrom_88 : decode cX3_copyFrom 88 = .ok (.bipush 8, 2) := by decide +kernel
theorem dX3_copyFrom_90 : decode cX3_copyFrom 90 = .ok (.invokestatic 65, 3) := by decide +kernel
theorem dX3_copyFrom_93 : decode cX3_copyFrom 93 = .ok (.aload_n 1, 1) := by decide +kernel
theorem dX3_copyFrom_94 : decode cX3_copyFrom 94 = .ok (.getfield 21, 3) := by decide +kernel
theorem dX3_copyFrom_97 : decode cX3_copyFrom 97 = .ok (.iconst 0, 1) := by decide +kernel
theorem dX3_copyFrom_98 : decode cX3_copyFrom 98 = .ok (.aload_n 0, 1) := by decide +kernel
theorem dX3_copyFrom_99 : decode cX3_copyFrom 99 = .ok (.getfield 21, 3) := by decide +kernel
theorem dX3_copyFrom_102 : decode cX3_copyFrom 102 = .ok (.iconst 0, 1) := by decide +kernel
theorem dX3_copyFrom_103 : decode cX3_copyFrom 103 = .ok (.bipush 6, 2) := by decide +kernel
theorem dX3_copyFrom_105 : decode cX3_copyFrom 105 = .ok (.invokestatic 65, 3) := by decide +kernel
theorem dX3_copyFrom_108 : decode cX3_copyFrom 108 = .ok (.aload_n 1, 1) := by decide +kernel
theorem dX3_copyFrom_109 : decode cX3_copyFrom 109 = .ok (.getfield 24, 3) := by decide +kernel
theorem dX3_copyFrom_112 : decode cX3_copyFrom 112 = .ok (.iconst 0, 1) := by decide +kernel
theorem dX3_copyFrom_113 : decode cX3_copyFrom 113 = .ok (.aload_n 0, 1) := by decide +kernel
theorem dX3_copyFrom_114 : decode cX3_copyFrom 114 = .ok (.getfield 24, 3) := by decide +kernel
theorem dX3_copyFrom_117 : decode cX3_copyFrom 117 = .ok (.iconst 0, 1) := by decide +kernel
theorem dX3_copyFrom_118 : decode cX3_copyFrom 118 = .ok (.bipush 6, 2) := by decide +kernel
theorem dX3_copyFrom_120 : decode cX3_copyFrom 120 = .ok (.invokestatic 65, 3) := by decide +kernel
theorem dX3_copyFrom_123 : decode cX3_copyFrom 123 = .ok (.aload_n 1, 1) := by decide +kernel
theorem dX3_copyFrom_124 : decode cX3_copyFrom 124 = .ok (.getfield 27, 3) := by decide +kernel
theorem dX3_copyFrom_127 : decode cX3_copyFrom 127 = .ok (.iconst 0, 1) := by decide +kernel
theorem dX3_copyFrom_128 : decode cX3_copyFrom 128 = .ok (.aload_n 0, 1) := by decide +kernel
theorem dX3_copyFrom_129 : decode cX3_copyFrom 129 = .ok (.getfield 27, 3) := by decide +kernel
theorem dX3_copyFrom_132 : decode cX3_copyFrom 132 = .ok (.iconst 0, 1) := by decide +kernel
theorem dX3_copyFrom_133 : decode cX3_copyFrom 133 = .ok (.bipush 6, 2) := by decide +kernel
theorem dX3_copyFrom_135 : decode cX3_copyFrom 135 = .ok (.invokestatic 65, 3) := by decide +kernel
theorem dX3_copyFrom_138 : decode cX3_copyFrom 138 = .ok (.aload_n 1, 1) := by decide +kernel
theorem dX3_copyFrom_139 : decode cX3_copyFrom 139 = .ok (.getfield 30, 3) := by decide +kernel
theorem dX3_copyFrom_142 : decode cX3_copyFrom 142 = .ok (.iconst 0, 1) := by decide +kernel
theorem dX3_copyFrom_143 : decode cX3_copyFrom 143 = .ok (.aload_n 0, 1) := by decide +kernel
theorem dX3_copyFrom_144 : decode cX3_copyFrom 144 = .ok (.getfield 30, 3) := by decide +kernel
theorem dX3_copyFrom_147 : decode cX3_copyFrom 147 = .ok (.iconst 0, 1) := by decide +kernel
theorem dX3_copyFrom_148 : decode cX3_copyFrom 148 = .ok (.bipush 6, 2) := by decide +kernel
theorem dX3_copyFrom_150 : decode cX3_copyFrom 150 = .ok (.invokestatic 65, 3) := by decide +kernel
theorem dX3_copyFrom_153 : decode cX3_copyFrom 153 = .ok (.return_, 1) := by decide +kernel
theorem dX3_next_0 : decode cX3_next 0 = .ok (.iload_n 1, 1) := by decide +kernel
theorem dX3_next_1 : decode cX3_next 1 = .ok (.iconst 1, 1) := by decide +kernel
theorem dX3_next_2 : decode cX3_next 2 = .ok (.iadd, 1) := by decide +kernel
theorem dX3_next_3 : decode cX3_next 3 = .ok (.aload_n 0, 1) := by decide +kernel
theorem dX3_next_4 : decode cX3_next 4 = .ok (.getfield 37, 3) := by decide +kernel
theorem dX3_next_7 : decode cX3_next 7 = .ok (.if_icmp .ge 9, 3) := by decide +kernel
theorem dX3_next_10 : decode cX3_next 10 = .ok (.iload_n 1, 1) := by decide +kernel
theorem dX3_next_11 : decode cX3_next 11 = .ok (.iconst 1, 1) := by decide +kernel
theorem dX3_next_12 : decode cX3_next 12 = .ok (.iadd, 1) := by decide +kernel
theorem dX3_next_13 : decode cX3_next 13 = .ok (.goto 4, 3) := by decide +kernel
theorem dX3_next_16 : decode cX3_next 16 = .ok (.iconst 0, 1) := by decide +kernel
theorem dX3_next_17 : decode cX3_next 17 = .ok (.ireturn, 1) := by decide +kernel
theorem dX3_previous_0 : decode cX3_previous 0 = .ok (.iload_n 1, 1) := by decide +kernel
theorem dX3_previous_1 : decode cX3_previous 1 = .ok (.ifCond .le 9, 3) := by decide +kernel
theorem dX3_previous_4 : decode cX3_previous 4 = .ok (.iload_n 1, 1) := by decide +kernel
theorem dX3_previous_5 : decode cX3_previous 5 = .ok (.iconst 1, 1) := by decide +kernel
theorem dX3_previous_6 : decode cX3_previous 6 = .ok (.isub, 1) := by decide +kernel
theorem dX3_previous_7 : decode cX3_previous 7 = .ok (.goto 9, 3) := by decide +kernel
theorem dX3_previous_10 : decode cX3_previous 10 = .ok (.aload_n 0, 1) := by decide +kernel
theorem dX3_previous_11 : decode cX3_previous 11 = .ok (.getfield 37, 3) := by decide +kernel
theorem dX3_previous_14 : decode cX3_previous 14 = .ok (.iconst 1, 1) := by decide +kernel
theorem dX3_previous_15 : decode cX3_previous 15 = .ok (.isub, 1) := by decide +kernel
theorem dX3_previous_16 : decode cX3_previous 16 = .ok (.ireturn, 1) := by decide +kernel
theorem dX3_allPlots_0 : decode cX3_allPlots 0 = .ok (.iconst 1, 1) := by decide +kernel
theorem dX3_allPlots_1 : decode cX3_allPlots 1 = .ok (.aload_n 0, 1) := by decide +kernel
theorem dX3_allPlots_2 : decode cX3_allPlots 2 = .ok (.getfield 37, 3) := by decide +kernel
theorem dX3_allPlots_5 : decode cX3_allPlots 5 = .ok (.ishl, 1) := by decide +kernel
theorem dX3_allPlots_6 : decode cX3_allPlots 6 = .ok (.iconst 1, 1) := by decide +kernel
theorem dX3_allPlots_7 : decode cX3_allPlots 7 = .ok (.isub, 1) := by decide +kernel
theorem dX3_allPlots_8 : decode cX3_allPlots 8 = .ok (.ireturn, 1) := by decide +kernel
set_option maxRecDepth 20000 in
theorem ggX3_ground_X3_next : GoodIn wsX3_ground wsX3_next := goodIn_r _ [5, 6, 7, 8, 9, 10, 11, 12, 13, 14, 15, 16, 17, 18, 19] (by decide +kernel) (by decide +kernel)
set_option maxRecDepth 20000 in
theorem gX3_ground_X3_next : GoodIn wsX3_ground (wsV RX3 71 RX3 yX3_next wsX3_next) := goodIn_app (goodIn_of _ (by decide +kernel)) ggX3_ground_X3_next
theorem dX3_ground_0 : decode cX3_ground 0 = .ok (.iload_n 1, 1) := by decide +kernel
theorem dX3_ground_1 : decode cX3_ground 1 = .ok (.iconst 3, 1) := by decide +kernel
theorem dX3_ground_2 : decode cX3_ground 2 = .ok (.if_icmp .ne 17, 3) := by decide +kernel
theorem dX3_ground_5 : decode cX3_ground 5 = .ok (.iconst 1, 1) := by decide +kernel
theorem dX3_ground_6 : decode cX3_ground 6 = .ok (.iload_n 2, 1) := by decide +kernel
theorem dX3_ground_7 : decode cX3_ground 7 = .ok (.ishl, 1) := by decide +kernel
theorem dX3_ground_8 : decode cX3_ground 8 = .ok (.iconst 1, 1) := by decide +kernel
theorem dX3_ground_9 : decode cX3_ground 9 = .ok (.aload_n 0, 1) := by decide +kernel
theorem dX3_ground_10 : decode cX3_ground 10 = .ok (.iload_n 2, 1) := by decide +kernel
theorem dX3_ground_11 : decode cX3_ground 11 = .ok (.invokevirtual 71, 3) := by decide +kernel
theorem dX3_ground_14 : decode cX3_ground 14 = .ok (.ishl, 1) := by decide +kernel
theorem dX3_ground_15 : decode cX3_ground 15 = .ok (.ior, 1) := by decide +kernel
theorem dX3_ground_16 : decode cX3_ground 16 = .ok (.goto 6, 3) := by decide +kernel
theorem dX3_ground_19 : decode cX3_ground 19 = .ok (.iconst 1, 1) := by decide +kernel
theorem dX3_ground_20 : decode cX3_ground 20 = .ok (.iload_n 2, 1) := by decide +kernel
theorem dX3_ground_21 : decode cX3_ground 21 = .ok (.ishl, 1) := by decide +kernel
theorem dX3_ground_22 : decode cX3_ground 22 = .ok (.ireturn, 1) := by decide +kernel
set_option maxRecDepth 20000 in
theorem ggX3_around_X3_allPlots : GoodIn wsX3_around wsX3_allPlots := goodIn_r _ [6, 1, 7, 8, 9, 10, 11, 12, 13, 14, 15, 16, 17, 18, 19] (by decide +kernel) (by decide +kernel)
set_option maxRecDepth 20000 in
theorem gX3_around_X3_allPlots : GoodIn wsX3_around (wsV RX3 75 RX3 yX3_allPlots wsX3_allPlots) := goodIn_app (goodIn_of _ (by decide +kernel)) ggX3_around_X3_allPlots
theorem dX3_around_0 : decode cX3_around 0 = .ok (.iload_n 1, 1) := by decide +kernel
theorem dX3_around_1 : decode cX3_around 1 = .ok (.iconst 1, 1) := by decide +kernel
theorem dX3_around_2 : decode cX3_around 2 = .ok (.ishl, 1) := by decide +kernel
theorem dX3_around_3 : decode cX3_around 3 = .ok (.iload_n 1, 1) := by decide +kernel
theorem dX3_around_4 : decode cX3_around 4 = .ok (.aload_n 0, 1) := by decide +kernel
theorem dX3_around_5 : decode cX3_around 5 = .ok (.getfield 37, 3) := by decide +kernel
theorem dX3_around_8 : decode cX3_around 8 = .ok (.iconst 1, 1) := by decide +kernel
theorem dX3_around_9 : decode cX3_around 9 = .ok (.isub, 1) := by decide +kernel
theorem dX3_around_10 : decode cX3_around 10 = .ok (.ishr, 1) := by decide +kernel
theorem dX3_around_11 : decode cX3_around 11 = .ok (.ior, 1) := by decide +kernel
theorem dX3_around_12 : decode cX3_around 12 = .ok (.istore_n 2, 1) := by decide +kernel
theorem dX3_around_13 : decode cX3_around 13 = .ok (.iload_n 1, 1) := by decide +kernel
theorem dX3_around_14 : decode cX3_around 14 = .ok (.iconst 1, 1) := by decide +kernel
theorem dX3_around_15 : decode cX3_around 15 = .ok (.ishr, 1) := by decide +kernel
theorem dX3_around_16 : decode cX3_around 16 = .ok (.iload_n 1, 1) := by decide +kernel
theorem dX3_around_17 : decode cX3_around 17 = .ok (.aload_n 0, 1) := by decide +kernel
theorem dX3_around_18 : decode cX3_around 18 = .ok (.getfield 37, 3) := by decide +kernel
theorem dX3_around_21 : decode cX3_around 21 = .ok (.iconst 1, 1) := by decide +kernel
theorem dX3_around_22 : decode cX3_around 22 = .ok (.isub, 1) := by decide +kernel
theorem dX3_around_23 : decode cX3_around 23 = .ok (.ishl, 1) := by decide +kernel
theorem dX3_around_24 : decode cX3_around 24 = .ok (.ior, 1) := by decide +kernel
theorem dX3_around_25 : decode cX3_around 25 = .ok (.istore_n 3, 1) := by decide +kernel
theorem dX3_around_26 : decode cX3_around 26 = .ok (.iload_n 2, 1) := by decide +kernel
theorem dX3_around_27 : decode cX3_around 27 = .ok (.iload_n 3, 1) := by decide +kernel
theorem dX3_around_28 : decode cX3_around 28 = .ok (.ior, 1) := by decide +kernel
theorem dX3_around_29 : decode cX3_around 29 = .ok (.aload_n 0, 1) := by decide +kernel
theorem dX3_around_30 : decode cX3_around 30 = .ok (.invokevirtual 75, 3) := by decide +kernel
theorem dX3_around_33 : decode cX3_around 33 = .ok (.iand, 1) := by decide +kernel
theorem dX3_around_34 : decode cX3_around 34 = .ok (.ireturn, 1) := by decide +kernel
set_option maxRecDepth 20000 in
theorem ggX3_takenAtFirst_X3_ground : GoodIn wsX3_takenAtFirst wsX3_ground := goodIn_r _ [8, 9, 10, 11, 7, 12, 13, 14, 15, 16, 17, 18, 19, 20, 21, 22, 23, 24, 25, 26] (by decide +kernel) (by decide +kernel)
set_option maxRecDepth 20000 in
theorem gX3_takenAtFirst_X3_ground : GoodIn wsX3_takenAtFirst (wsV RX3 79 RX3 yX3_ground wsX3_ground) := goodIn_app (goodIn_of _ (by decide +kernel)) ggX3_takenAtFirst_X3_ground
theorem dX3_takenAtFirst_0 : decode cX3_takenAtFirst 0 = .ok (.iconst 0, 1) := by decide +kernel
theorem dX3_takenAtFirst_1 : decode cX3_takenAtFirst 1 = .ok (.istore_n 1, 1) := by decide +kernel
theorem dX3_takenAtFirst_2 : decode cX3_takenAtFirst 2 = .ok (.iconst 0, 1) := by decide +kernel
theorem dX3_takenAtFirst_3 : decode cX3_takenAtFirst 3 = .ok (.istore_n 2, 1) := by decide +kernel
theorem dX3_takenAtFirst_4 : decode cX3_takenAtFirst 4 = .ok (.iload_n 2, 1) := by decide +kernel
theorem dX3_takenAtFirst_5 : decode cX3_takenAtFirst 5 = .ok (.aload_n 0, 1) := by decide +kernel
theorem dX3_takenAtFirst_6 : decode cX3_takenAtFirst 6 = .ok (.getfield 59, 3) := by decide +kernel
theorem dX3_takenAtFirst_9 : decode cX3_takenAtFirst 9 = .ok (.if_icmp .ge 28, 3) := by decide +kernel
theorem dX3_takenAtFirst_12 : decode cX3_takenAtFirst 12 = .ok (.iload_n 1, 1) := by decide +kernel
theorem dX3_takenAtFirst_13 : decode cX3_takenAtFirst 13 = .ok (.aload_n 0, 1) := by decide +kernel
theorem dX3_takenAtFirst_14 : decode cX3_takenAtFirst 14 = .ok (.aload_n 0, 1) := by decide +kernel
theorem dX3_takenAtFirst_15 : decode cX3_takenAtFirst 15 = .ok (.getfield 15, 3) := by decide +kernel
theorem dX3_takenAtFirst_18 : decode cX3_takenAtFirst 18 = .ok (.iload_n 2, 1) := by decide +kernel
theorem dX3_takenAtFirst_19 : decode cX3_takenAtFirst 19 = .ok (.iaload, 1) := by decide +kernel
theorem dX3_takenAtFirst_20 : decode cX3_takenAtFirst 20 = .ok (.aload_n 0, 1) := by decide +kernel
theorem dX3_takenAtFirst_21 : decode cX3_takenAtFirst 21 = .ok (.getfield 18, 3) := by decide +kernel
theorem dX3_takenAtFirst_24 : decode cX3_takenAtFirst 24 = .ok (.iload_n 2, 1) := by decide +kernel
theorem dX3_takenAtFirst_25 : decode cX3_takenAtFirst 25 = .ok (.iaload, 1) := by decide +kernel
theorem dX3_takenAtFirst_26 : decode cX3_takenAtFirst 26 = .ok (.invokevirtual 79, 3) := by decide +kernel
theorem dX3_takenAtFirst_29 : decode cX3_takenAtFirst 29 = .ok (.ior, 1) := by decide +kernel
theorem dX3_takenAtFirst_30 : decode cX3_takenAtFirst 30 = .ok (.istore_n 1, 1) := by decide +kernel
theorem dX3_takenAtFirst_31 : decode cX3_takenAtFirst 31 = .ok (.iinc 2 1, 3) := by decide +kernel
theorem dX3_takenAtFirst_34 : decode cX3_takenAtFirst 34 = .ok (.goto (-30), 3) := by decide +kernel
theorem dX3_takenAtFirst_37 : decode cX3_takenAtFirst 37 = .ok (.iload_n 1, 1) := by decide +kernel
theorem dX3_takenAtFirst_38 : decode cX3_takenAtFirst 38 = .ok (.ireturn, 1) := by decide +kernel
theorem dX3_stuckOnes_0 : decode cX3_stuckOnes 0 = .ok (.iconst 0, 1) := by decide +kernel
theorem dX3_stuckOnes_1 : decode cX3_stuckOnes 1 = .ok (.istore_n 1, 1) := by decide +kernel
theorem dX3_stuckOnes_2 : decode cX3_stuckOnes 2 = .ok (.iconst 0, 1) := by decide +kernel
theorem dX3_stuckOnes_3 : decode cX3_stuckOnes 3 = .ok (.istore_n 2, 1) := by decide +kernel
theorem dX3_stuckOnes_4 : decode cX3_stuckOnes 4 = .ok (.iload_n 2, 1) := by decide +kernel
theorem dX3_stuckOnes_5 : decode cX3_stuckOnes 5 = .ok (.aload_n 0, 1) := by decide +kernel
theorem dX3_stuckOnes_6 : decode cX3_stuckOnes 6 = .ok (.getfield 59, 3) := by decide +kernel
theorem dX3_stuckOnes_9 : decode cX3_stuckOnes 9 = .ok (.if_icmp .ge 25, 3) := by decide +kernel
theorem dX3_stuckOnes_12 : decode cX3_stuckOnes 12 = .ok (.aload_n 0, 1) := by decide +kernel
theorem dX3_stuckOnes_13 : decode cX3_stuckOnes 13 = .ok (.getfield 15, 3) := by decide +kernel
theorem dX3_stuckOnes_16 : decode cX3_stuckOnes 16 = .ok (.iload_n 2, 1) := by decide +kernel
theorem dX3_stuckOnes_17 : decode cX3_stuckOnes 17 = .ok (.iaload, 1) := by decide +kernel
theorem dX3_stuckOnes_18 : decode cX3_stuckOnes 18 = .ok (.iconst 2, 1) := by decide +kernel
theorem dX3_stuckOnes_19 : decode cX3_stuckOnes 19 = .ok (.if_icmp .ne 9, 3) := by decide +kernel
theorem dX3_stuckOnes_22 : decode cX3_stuckOnes 22 = .ok (.iload_n 1, 1) := by decide +kernel
theorem dX3_stuckOnes_23 : decode cX3_stuckOnes 23 = .ok (.iconst 1, 1) := by decide +kernel
theorem dX3_stuckOnes_24 : decode cX3_stuckOnes 24 = .ok (.iload_n 2, 1) := by decide +kernel
theorem dX3_stuckOnes_25 : decode cX3_stuckOnes 25 = .ok (.ishl, 1) := by decide +kernel
theorem dX3_stuckOnes_26 : decode cX3_stuckOnes 26 = .ok (.ior, 1) := by decide +kernel
theorem dX3_stuckOnes_27 : decode cX3_stuckOnes 27 = .ok (.istore_n 1, 1) := by decide +kernel
theorem dX3_stuckOnes_28 : decode cX3_stuckOnes 28 = .ok (.iinc 2 1, 3) := by decide +kernel
theorem dX3_stuckOnes_31 : decode cX3_stuckOnes 31 = .ok (.goto (-27), 3) := by decide +kernel
theorem dX3_stuckOnes_34 : decode cX3_stuckOnes 34 = .ok (.iload_n 1, 1) := by decide +kernel
theorem dX3_stuckOnes_35 : decode cX3_stuckOnes 35 = .ok (.ireturn, 1) := by decide +kernel
set_option maxRecDepth 20000 in
theorem ggX3_settle_X3_takenAtFirst : GoodIn wsX3_settle wsX3_takenAtFirst := goodIn_r _ [8, 1, 2, 3, 9, 10, 11, 7, 12, 13, 14, 15, 16, 17, 22, 23, 24, 25, 26, 27, 28, 29, 30, 31, 32, 33, 34] (by decide +kernel) (by decide +kernel)
set_option maxRecDepth 20000 in
theorem gX3_settle_X3_takenAtFirst : GoodIn wsX3_settle (wsV RX3 83 RX3 yX3_takenAtFirst wsX3_takenAtFirst) := goodIn_app (goodIn_of _ (by decide +kernel)) ggX3_settle_X3_takenAtFirst
set_option maxRecDepth 20000 in
theorem ggX3_settle_X3_ground : GoodIn wsX3_settle wsX3_ground := goodIn_r _ [12, 13, 14, 15, 7, 16, 17, 22, 23, 24, 25, 26, 27, 28, 29, 30, 31, 32, 33, 34] (by decide +kernel) (by decide +kernel)
set_option maxRecDepth 20000 in
theorem gX3_settle_X3_ground : GoodIn wsX3_settle (wsV RX3 79 RX3 yX3_ground wsX3_ground) := goodIn_app (goodIn_of _ (by decide +kernel)) ggX3_settle_X3_ground
set_option maxRecDepth 20000 in
theorem ggX3_settle_X3_allPlots : GoodIn wsX3_settle wsX3_allPlots := goodIn_r _ [21, 17, 22, 23, 24, 25, 26, 27, 28, 29, 30, 31, 32, 33, 34] (by decide +kernel) (by decide +kernel)
set_option maxRecDepth 20000 in
theorem gX3_settle_X3_allPlots : GoodIn wsX3_settle (wsV RX3 75 RX3 yX3_allPlots wsX3_allPlots) := goodIn_app (goodIn_of _ (by decide +kernel)) ggX3_settle_X3_allPlots
theorem dX3_settle_0 : decode cX3_settle 0 = .ok (.aload_n 0, 1) := by decide +kernel
theorem dX3_settle_1 : decode cX3_settle 1 = .ok (.invokevirtual 83, 3) := by decide +kernel
theorem dX3_settle_4 : decode cX3_settle 4 = .ok (.istore_n 3, 1) := by decide +kernel
theorem dX3_settle_5 : decode cX3_settle 5 = .ok (.aload_n 0, 1) := by decide +kernel
theorem dX3_settle_6 : decode cX3_settle 6 = .ok (.iload_n 1, 1) := by decide +kernel
theorem dX3_settle_7 : decode cX3_settle 7 = .ok (.iload_n 2, 1) := by decide +kernel
theorem dX3_settle_8 : decode cX3_settle 8 = .ok (.invokevirtual 79, 3) := by decide +kernel
theorem dX3_settle_11 : decode cX3_settle 11 = .ok (.istore 4, 2) := by decide +kernel
theorem dX3_settle_13 : decode cX3_settle 13 = .ok (.aload_n 0, 1) := by decide +kernel
theorem dX3_settle_14 : decode cX3_settle 14 = .ok (.getfield 59, 3) := by decide +kernel
theorem dX3_settle_17 : decode cX3_settle 17 = .ok (.bipush 8, 2) := by decide +kernel
theorem dX3_settle_19 : decode cX3_settle 19 = .ok (.if_icmp .ge 21, 3) := by decide +kernel
theorem dX3_settle_22 : decode cX3_settle 22 = .ok (.iload_n 3, 1) := by decide +kernel
theorem dX3_settle_23 : decode cX3_settle 23 = .ok (.iload 4, 2) := by decide +kernel
theorem dX3_settle_25 : decode cX3_settle 25 = .ok (.iand, 1) := by decide +kernel
theorem dX3_settle_26 : decode cX3_settle 26 = .ok (.ifCond .ne 14, 3) := by decide +kernel
theorem dX3_settle_29 : decode cX3_settle 29 = .ok (.iload_n 3, 1) := by decide +kernel
theorem dX3_settle_30 : decode cX3_settle 30 = .ok (.iload 4, 2) := by decide +kernel
theorem dX3_settle_32 : decode cX3_settle 32 = .ok (.ior, 1) := by decide +kernel
theorem dX3_settle_33 : decode cX3_settle 33 = .ok (.aload_n 0, 1) := by decide +kernel
theorem dX3_settle_34 : decode cX3_settle 34 = .ok (.invokevirtual 75, 3) := by decide +kernel
theorem dX3_settle_37 : decode cX3_settle 37 = .ok (.if_icmp .ne 5, 3) := by decide +kernel
theorem dX3_settle_40 : decode cX3_settle 40 = .ok (.iconst 0, 1) := by decide +kernel
theorem dX3_settle_41 : decode cX3_settle 41 = .ok (.ireturn, 1) := by decide +kernel
theorem dX3_settle_42 : decode cX3_settle 42 = .ok (.aload_n 0, 1) := by decide +kernel
theorem dX3_settle_43 : decode cX3_settle 43 = .ok (.getfield 15, 3) := by decide +kernel
theorem dX3_settle_46 : decode cX3_settle 46 = .ok (.aload_n 0, 1) := by decide +kernel
theorem dX3_settle_47 : decode cX3_settle 47 = .ok (.getfield 59, 3) := by decide +kernel
theorem dX3_settle_50 : decode cX3_settle 50 = .ok (.iload_n 1, 1) := by decide +kernel
theorem dX3_settle_51 : decode cX3_settle 51 = .ok (.iastore, 1) := by decide +kernel
theorem dX3_settle_52 : decode cX3_settle 52 = .ok (.aload_n 0, 1) := by decide +kernel
theorem dX3_settle_53 : decode cX3_settle 53 = .ok (.getfield 18, 3) := by decide +kernel
theorem dX3_settle_56 : decode cX3_settle 56 = .ok (.aload_n 0, 1) := by decide +kernel
theorem dX3_settle_57 : decode cX3_settle 57 = .ok (.getfield 59, 3) := by decide +kernel
theorem dX3_settle_60 : decode cX3_settle 60 = .ok (.iload_n 2, 1) := by decide +kernel
theorem dX3_settle_61 : decode cX3_settle 61 = .ok (.iastore, 1) := by decide +kernel
theorem dX3_settle_62 : decode cX3_settle 62 = .ok (.aload_n 0, 1) := by decide +kernel
theorem dX3_settle_63 : decode cX3_settle 63 = .ok (.dup, 1) := by decide +kernel
theorem dX3_settle_64 : decode cX3_settle 64 = .ok (.getfield 59, 3) := by decide +kernel
theorem dX3_settle_67 : decode cX3_settle 67 = .ok (.iconst 1, 1) := by decide +kernel
theorem dX3_settle_68 : decode cX3_settle 68 = .ok (.iadd, 1) := by decide +kernel
theorem dX3_settle_69 : decode cX3_settle 69 = .ok (.putfield 59, 3) := by decide +kernel
theorem dX3_settle_72 : decode cX3_settle 72 = .ok (.iconst 1, 1) := by decide +kernel
theorem dX3_settle_73 : decode cX3_settle 73 = .ok (.ireturn, 1) := by decide +kernel
theorem dX3_addPath_0 : decode cX3_addPath 0 = .ok (.aload_n 0, 1) := by decide +kernel
theorem dX3_addPath_1 : decode cX3_addPath 1 = .ok (.getfield 41, 3) := by decide +kernel
theorem dX3_addPath_4 : decode cX3_addPath 4 = .ok (.bipush 6, 2) := by decide +kernel
theorem dX3_addPath_6 : decode cX3_addPath 6 = .ok (.if_icmp .ge 8, 3) := by decide +kernel
theorem dX3_addPath_9 : decode cX3_addPath 9 = .ok (.iload_n 1, 1) := by decide +kernel
theorem dX3_addPath_10 : decode cX3_addPath 10 = .ok (.iload_n 2, 1) := by decide +kernel
theorem dX3_addPath_11 : decode cX3_addPath 11 = .ok (.if_icmp .ne 5, 3) := by decide +kernel
theorem dX3_addPath_14 : decode cX3_addPath 14 = .ok (.iconst 0, 1) := by decide +kernel
theorem dX3_addPath_15 : decode cX3_addPath 15 = .ok (.ireturn, 1) := by decide +kernel
theorem dX3_addPath_16 : decode cX3_addPath 16 = .ok (.aload_n 0, 1) := by decide +kernel
theorem dX3_addPath_17 : decode cX3_addPath 17 = .ok (.getfield 21, 3) := by decide +kernel
theorem dX3_addPath_20 : decode cX3_addPath 20 = .ok (.aload_n 0, 1) := by decide +kernel
theorem dX3_addPath_21 : decode cX3_addPath 21 = .ok (.getfield 41, 3) := by decide +kernel
theorem dX3_addPath_24 : decode cX3_addPath 24 = .ok (.iload_n 1, 1) := by decide +kernel
theorem dX3_addPath_25 : decode cX3_addPath 25 = .ok (.iastore, 1) := by decide +kernel
theorem dX3_addPath_26 : decode cX3_addPath 26 = .ok (.aload_n 0, 1) := by decide +kernel
theorem dX3_addPath_27 : decode cX3_addPath 27 = .ok (.getfield 24, 3) := by decide +kernel
theorem dX3_addPath_30 : decode cX3_addPath 30 = .ok (.aload_n 0, 1) := by decide +kernel
theorem dX3_addPath_31 : decode cX3_addPath 31 = .ok (.getfield 41, 3) := by decide +kernel
theorem dX3_addPath_34 : decode cX3_addPath 34 = .ok (.iload_n 2, 1) := by decide +kernel
theorem dX3_addPath_35 : decode cX3_addPath 35 = .ok (.iastore, 1) := by decide +kernel
theorem dX3_addPath_36 : decode cX3_addPath 36 = .ok (.aload_n 0, 1) := by decide +kernel
theorem dX3_addPath_37 : decode cX3_addPath 37 = .ok (.dup, 1) := by decide +kernel
theorem dX3_addPath_38 : decode cX3_addPath 38 = .ok (.getfield 41, 3) := by decide +kernel
theorem dX3_addPath_41 : decode cX3_addPath 41 = .ok (.iconst 1, 1) := by decide +kernel
theorem dX3_addPath_42 : decode cX3_addPath 42 = .ok (.iadd, 1) := by decide +kernel
theorem dX3_addPath_43 : decode cX3_addPath 43 = .ok (.putfield 41, 3) := by decide +kernel
theorem dX3_addPath_46 : decode cX3_addPath 46 = .ok (.iconst 1, 1) := by decide +kernel
theorem dX3_addPath_47 : decode cX3_addPath 47 = .ok (.ireturn, 1) := by decide +kernel
theorem dX3_addFeud_0 : decode cX3_addFeud 0 = .ok (.aload_n 0, 1) := by decide +kernel
theorem dX3_addFeud_1 : decode cX3_addFeud 1 = .ok (.getfield 62, 3) := by decide +kernel
theorem dX3_addFeud_4 : decode cX3_addFeud 4 = .ok (.bipush 6, 2) := by decide +kernel
theorem dX3_addFeud_6 : decode cX3_addFeud 6 = .ok (.if_icmp .ge 8, 3) := by decide +kernel
theorem dX3_addFeud_9 : decode cX3_addFeud 9 = .ok (.iload_n 1, 1) := by decide +kernel
theorem dX3_addFeud_10 : decode cX3_addFeud 10 = .ok (.iload_n 2, 1) := by decide +kernel
theorem dX3_addFeud_11 : decode cX3_addFeud 11 = .ok (.if_icmp .ne 5, 3) := by decide +kernel
theorem dX3_addFeud_14 : decode cX3_addFeud 14 = .ok (.iconst 0, 1) := by decide +kernel
theorem dX3_addFeud_15 : decode cX3_addFeud 15 = .ok (.ireturn, 1) := by decide +kernel
theorem dX3_addFeud_16 : decode cX3_addFeud 16 = .ok (.aload_n 0, 1) := by decide +kernel
theorem dX3_addFeud_17 : decode cX3_addFeud 17 = .ok (.getfield 27, 3) := by decide +kernel
theorem dX3_addFeud_20 : decode cX3_addFeud 20 = .ok (.aload_n 0, 1) := by decide +kernel
theorem dX3_addFeud_21 : decode cX3_addFeud 21 = .ok (.getfield 62, 3) := by decide +kernel
theorem dX3_addFeud_24 : decode cX3_addFeud 24 = .ok (.iload_n 1, 1) := by decide +kernel
theorem dX3_addFeud_25 : decode cX3_addFeud 25 = .ok (.iastore, 1) := by decide +kernel
theorem dX3_addFeud_26 : decode cX3_addFeud 26 = .ok (.aload_n 0, 1) := by decide +kernel
theorem dX3_addFeud_27 : decode cX3_addFeud 27 = .ok (.getfield 30, 3) := by decide +kernel
theorem dX3_addFeud_30 : decode cX3_addFeud 30 = .ok (.aload_n 0, 1) := by decide +kernel
theorem dX3_addFeud_31 : decode cX3_addFeud 31 = .ok (.getfield 62, 3) := by decide +kernel
theorem dX3_addFeud_34 : decode cX3_addFeud 34 = .ok (.iload_n 2, 1) := by decide +kernel
theorem dX3_addFeud_35 : decode cX3_addFeud 35 = .ok (.iastore, 1) := by decide +kernel
theorem dX3_addFeud_36 : decode cX3_addFeud 36 = .ok (.aload_n 0, 1) := by decide +kernel
theorem dX3_addFeud_37 : decode cX3_addFeud 37 = .ok (.dup, 1) := by decide +kernel
theorem dX3_addFeud_38 : decode cX3_addFeud 38 = .ok (.getfield 62, 3) := by decide +kernel
theorem dX3_addFeud_41 : decode cX3_addFeud 41 = .ok (.iconst 1, 1) := by decide +kernel
theorem dX3_addFeud_42 : decode cX3_addFeud 42 = .ok (.iadd, 1) := by decide +kernel
theorem dX3_addFeud_43 : decode cX3_addFeud 43 = .ok (.putfield 62, 3) := by decide +kernel
theorem dX3_addFeud_46 : decode cX3_addFeud 46 = .ok (.iconst 1, 1) := by decide +kernel
theorem dX3_addFeud_47 : decode cX3_addFeud 47 = .ok (.ireturn, 1) := by decide +kernel
theorem dX3_otherEnd_0 : decode cX3_otherEnd 0 = .ok (.aload_n 0, 1) := by decide +kernel
theorem dX3_otherEnd_1 : decode cX3_otherEnd 1 = .ok (.getfield 21, 3) := by decide +kernel
theorem dX3_otherEnd_4 : decode cX3_otherEnd 4 = .ok (.iload_n 1, 1) := by decide +kernel
theorem dX3_otherEnd_5 : decode cX3_otherEnd 5 = .ok (.iaload, 1) := by decide +kernel
theorem dX3_otherEnd_6 : decode cX3_otherEnd 6 = .ok (.iload_n 2, 1) := by decide +kernel
theorem dX3_otherEnd_7 : decode cX3_otherEnd 7 = .ok (.if_icmp .ne 10, 3) := by decide +kernel
theorem dX3_otherEnd_10 : decode cX3_otherEnd 10 = .ok (.aload_n 0, 1) := by decide +kernel
theorem dX3_otherEnd_11 : decode cX3_otherEnd 11 = .ok (.getfield 24, 3) := by decide +kernel
theorem dX3_otherEnd_14 : decode cX3_otherEnd 14 = .ok (.iload_n 1, 1) := by decide +kernel
theorem dX3_otherEnd_15 : decode cX3_otherEnd 15 = .ok (.iaload, 1) := by decide +kernel
theorem dX3_otherEnd_16 : decode cX3_otherEnd 16 = .ok (.ireturn, 1) := by decide +kernel
theorem dX3_otherEnd_17 : decode cX3_otherEnd 17 = .ok (.aload_n 0, 1) := by decide +kernel
theorem dX3_otherEnd_18 : decode cX3_otherEnd 18 = .ok (.getfield 24, 3) := by decide +kernel
theorem dX3_otherEnd_21 : decode cX3_otherEnd 21 = .ok (.iload_n 1, 1) := by decide +kernel
theorem dX3_otherEnd_22 : decode cX3_otherEnd 22 = .ok (.iaload, 1) := by decide +kernel
theorem dX3_otherEnd_23 : decode cX3_otherEnd 23 = .ok (.iload_n 2, 1) := by decide +kernel
theorem dX3_otherEnd_24 : decode cX3_otherEnd 24 = .ok (.if_icmp .ne 12, 3) := by decide +kernel
theorem dX3_otherEnd_27 : decode cX3_otherEnd 27 = .ok (.aload_n 0, 1) := by decide +kernel
theorem dX3_otherEnd_28 : decode cX3_otherEnd 28 = .ok (.getfield 21, 3) := by decide +kernel
theorem dX3_otherEnd_31 : decode cX3_otherEnd 31 = .ok (.iload_n 1, 1) := by decide +kernel
theorem dX3_otherEnd_32 : decode cX3_otherEnd 32 = .ok (.iaload, 1) := by decide +kernel
theorem dX3_otherEnd_33 : decode cX3_otherEnd 33 = .ok (.goto 4, 3) := by decide +kernel
theorem dX3_otherEnd_36 : decode cX3_otherEnd 36 = .ok (.iconst (-1), 1) := by decide +kernel
theorem dX3_otherEnd_37 : decode cX3_otherEnd 37 = .ok (.ireturn, 1) := by decide +kernel
set_option maxRecDepth 20000 in
theorem ggX4_init_X3_init : GoodIn wsX4_init wsX3_init := goodIn_r _ [34, 35, 2, 3, 25, 36, 37, 38, 39, 40, 41, 42, 43, 44, 45, 6, 46, 47, 48, 49, 50, 51, 52, 53, 54, 55, 56, 57, 58, 59, 60, 109, 110, 111, 112, 113, 114, 115, 116, 117, 118, 119, 120, 121] (by decide +kernel) (by decide +kernel)
set_option maxRecDepth 20000 in
theorem gX4_init_X3_init : GoodIn wsX4_init (wsX3_init) := ggX4_init_X3_init
set_option maxRecDepth 20000 in
theorem ggX4_init_X2_init : GoodIn wsX4_init wsX2_init := goodIn_r _ [62, 63, 2, 3, 25, 64, 136, 137, 138, 139, 140] (by decide +kernel) (by decide +kernel)
set_option maxRecDepth 20000 in
theorem gX4_init_X2_init_n21 : GoodIn wsX4_init (wsX2_init) := ggX4_init_X2_init
set_option maxRecDepth 20000 in
theorem ggX4_init_X1_init : GoodIn wsX4_init wsX1_init := goodIn_r _ [67, 68, 2, 3, 25, 69, 70, 71, 72, 73, 74, 75, 15, 76, 77, 78, 79, 80, 81, 82, 83, 84, 85, 86, 87, 88, 52, 53, 54, 89, 90, 91, 6, 92, 59, 37, 38, 93, 94, 95, 96, 97, 98, 99, 100, 47, 141, 142, 143, 144, 145, 146, 147, 148, 149, 109, 110, 111, 112, 113, 114, 115, 116, 117, 118, 119, 120, 121] (by decide +kernel) (by decide +kernel)
set_option maxRecDepth 20000 in
theorem gX4_init_X1_init : GoodIn wsX4_init (wsX1_init) := ggX4_init_X1_init
set_option maxRecDepth 20000 in
theorem ggX4_init_X0_init : GoodIn wsX4_init wsX0_init := goodIn_r _ [103, 104, 2, 3, 105, 25, 106, 27, 107, 108, 150, 151, 152, 153, 154, 155] (by decide +kernel) (by decide +kernel)
set_option maxRecDepth 20000 in
theorem gX4_init_X0_init : GoodIn wsX4_init (wsX0_init) := ggX4_init_X0_init
theorem dX4_init_0 : decode cX4_init 0 = .ok (.aload_n 0, 1) := by decide +kernel
theorem dX4_init_1 : decode cX4_init 1 = .ok (.invokespecial 3, 3) := by decide +kernel
theorem dX4_init_4 : decode cX4_init 4 = .ok (.aload_n 0, 1) := by decide +kernel
theorem dX4_init_5 : decode cX4_init 5 = .ok (.new 9, 3) := by decide +kernel
theorem dX4_init_8 : decode cX4_init 8 = .ok (.dup, 1) := by decide +kernel
theorem dX4_init_9 : decode cX4_init 9 = .ok (.invokespecial 11, 3) := by decide +kernel
theorem dX4_init_12 : decode cX4_init 12 = .ok (.putfield 12, 3) := by decide +kernel
theorem dX4_init_15 : decode cX4_init 15 = .ok (.aload_n 0, 1) := by decide +kernel
theorem dX4_init_16 : decode cX4_init 16 = .ok (.new 9, 3) := by decide +kernel
theorem dX4_init_19 : decode cX4_init 19 = .ok (.dup, 1) := by decide +kernel
theorem dX4_init_20 : decode cX4_init 20 = .ok (.invokespecial 11, 3) := by decide +kernel
theorem dX4_init_23 : decode cX4_init 23 = .ok (.putfield 16, 3) := by decide +kernel
theorem dX4_init_26 : decode cX4_init 26 = .ok (.aload_n 0, 1) := by decide +kernel
theorem dX4_init_27 : decode cX4_init 27 = .ok (.new 19, 3) := by decide +kernel
theorem dX4_init_30 : decode cX4_init 30 = .ok (.dup, 1) := by decide +kernel
theorem dX4_init_31 : decode cX4_init 31 = .ok (.invokespecial 21, 3) := by decide +kernel
theorem dX4_init_34 : decode cX4_init 34 = .ok (.putfield 22, 3) := by decide +kernel
theorem dX4_init_37 : decode cX4_init 37 = .ok (.aload_n 0, 1) := by decide +kernel
theorem dX4_init_38 : decode cX4_init 38 = .ok (.new 26, 3) := by decide +kernel
theorem dX4_init_41 : decode cX4_init 41 = .ok (.dup, 1) := by decide +kernel
theorem dX4_init_42 : decode cX4_init 42 = .ok (.aload_n 0, 1) := by decide +kernel
theorem dX4_init_43 : decode cX4_init 43 = .ok (.getfield 12, 3) := by decide +kernel
theorem dX4_init_46 : decode cX4_init 46 = .ok (.invokespecial 28, 3) := by decide +kernel
theorem dX4_init_49 : decode cX4_init 49 = .ok (.putfield 31, 3) := by decide +kernel
theorem dX4_init_52 : decode cX4_init 52 = .ok (.aload_n 0, 1) := by decide +kernel
theorem dX4_init_53 : decode cX4_init 53 = .ok (.new 26, 3) := by decide +kernel
theorem dX4_init_56 : decode cX4_init 56 = .ok (.dup, 1) := by decide +kernel
theorem dX4_init_57 : decode cX4_init 57 = .ok (.aload_n 0, 1) := by decide +kernel
theorem dX4_init_58 : decode cX4_init 58 = .ok (.getfield 12, 3) := by decide +kernel
theorem dX4_init_61 : decode cX4_init 61 = .ok (.invokespecial 28, 3) := by decide +kernel
theorem dX4_init_64 : decode cX4_init 64 = .ok (.putfield 35, 3) := by decide +kernel
theorem dX4_init_67 : decode cX4_init 67 = .ok (.aload_n 0, 1) := by decide +kernel
theorem dX4_init_68 : decode cX4_init 68 = .ok (.iconst 2, 1) := by decide +kernel
theorem dX4_init_69 : decode cX4_init 69 = .ok (.anewarray 26, 3) := by decide +kernel
theorem dX4_init_72 : decode cX4_init 72 = .ok (.putfield 38, 3) := by decide +kernel
theorem dX4_init_75 : decode cX4_init 75 = .ok (.aload_n 0, 1) := by decide +kernel
theorem dX4_init_76 : decode cX4_init 76 = .ok (.iconst 2, 1) := by decide +kernel
theorem dX4_init_77 : decode cX4_init 77 = .ok (.newarray .boolean, 2) := by decide +kernel
theorem dX4_init_79 : decode cX4_init 79 = .ok (.putfield 42, 3) := by decide +kernel
theorem dX4_init_82 : decode cX4_init 82 = .ok (.aload_n 0, 1) := by decide +kernel
theorem dX4_init_83 : decode cX4_init 83 = .ok (.new 46, 3) := by decide +kernel
theorem dX4_init_86 : decode cX4_init 86 = .ok (.dup, 1) := by decide +kernel
theorem dX4_init_87 : decode cX4_init 87 = .ok (.aload_n 0, 1) := by decide +kernel
theorem dX4_init_88 : decode cX4_init 88 = .ok (.getfield 35, 3) := by decide +kernel
theorem dX4_init_91 : decode cX4_init 91 = .ok (.invokespecial 48, 3) := by decide +kernel
theorem dX4_init_94 : decode cX4_init 94 = .ok (.putfield 51, 3) := by decide +kernel
theorem dX4_init_97 : decode cX4_init 97 = .ok (.aload_n 0, 1) := by decide +kernel
theorem dX4_init_98 : decode cX4_init 98 = .ok (.bipush 8, 2) := by decide +kernel
theorem dX4_init_100 : decode cX4_init 100 = .ok (.newarray .int, 2) := by decide +kernel
theorem dX4_init_102 : decode cX4_init 102 = .ok (.putfield 55, 3) := by decide +kernel
theorem dX4_init_105 : decode cX4_init 105 = .ok (.aload_n 0, 1) := by decide +kernel
theorem dX4_init_106 : decode cX4_init 106 = .ok (.sipush 501, 3) := by decide +kernel
theorem dX4_init_109 : decode cX4_init 109 = .ok (.newarray .long, 2) := by decide +kernel
theorem dX4_init_111 : decode cX4_init 111 = .ok (.putfield 59, 3) := by decide +kernel
theorem dX4_init_114 : decode cX4_init 114 = .ok (.aload_n 0, 1) := by decide +kernel
theorem dX4_init_115 : decode cX4_init 115 = .ok (.bipush 8, 2) := by decide +kernel
theorem dX4_init_117 : decode cX4_init 117 = .ok (.newarray .int, 2) := by decide +kernel
theorem dX4_init_119 : decode cX4_init 119 = .ok (.putfield 63, 3) := by decide +kernel
theorem dX4_init_122 : decode cX4_init 122 = .ok (.aload_n 0, 1) := by decide +kernel
theorem dX4_init_123 : decode cX4_init 123 = .ok (.bipush 8, 2) := by decide +kernel
theorem dX4_init_125 : decode cX4_init 125 = .ok (.newarray .int, 2) := by decide +kernel
theorem dX4_init_127 : decode cX4_init 127 = .ok (.putfield 66, 3) := by decide +kernel
theorem dX4_init_130 : decode cX4_init 130 = .ok (.aload_n 0, 1) := by decide +kernel
theorem dX4_init_131 : decode cX4_init 131 = .ok (.bipush 8, 2) := by decide +kernel
theorem dX4_init_133 : decode cX4_init 133 = .ok (.newarray .int, 2) := by decide +kernel
theorem dX4_init_135 : decode cX4_init 135 = .ok (.putfield 69, 3) := by decide +kernel
theorem dX4_init_138 : decode cX4_init 138 = .ok (.iconst 0, 1) := by decide +kernel
theorem dX4_init_139 : decode cX4_init 139 = .ok (.istore_n 1, 1) := by decide +kernel
theorem dX4_init_140 : decode cX4_init 140 = .ok (.iload_n 1, 1) := by decide +kernel
theorem dX4_init_141 : decode cX4_init 141 = .ok (.iconst 2, 1) := by decide +kernel
theorem dX4_init_142 : decode cX4_init 142 = .ok (.if_icmp .ge 26, 3) := by decide +kernel
theorem dX4_init_145 : decode cX4_init 145 = .ok (.aload_n 0, 1) := by decide +kernel
theorem dX4_init_146 : decode cX4_init 146 = .ok (.getfield 38, 3) := by decide +kernel
theorem dX4_init_149 : decode cX4_init 149 = .ok (.iload_n 1, 1) := by decide +kernel
theorem dX4_init_150 : decode cX4_init 150 = .ok (.new 26, 3) := by decide +kernel
theorem dX4_init_153 : decode cX4_init 153 = .ok (.dup, 1) := by decide +kernel
theorem dX4_init_154 : decode cX4_init 154 = .ok (.aload_n 0, 1) := by decide +kernel
theorem dX4_init_155 : decode cX4_init 155 = .ok (.getfield 12, 3) := by decide +kernel
theorem dX4_init_158 : decode cX4_init 158 = .ok (.invokespecial 28, 3) := by decide +kernel
theorem dX4_init_161 : decode cX4_init 161 = .ok (.aastore, 1) := by decide +kernel
theorem dX4_init_162 : decode cX4_init 162 = .ok (.iinc 1 1, 3) := by decide +kernel
theorem dX4_init_165 : decode cX4_init 165 = .ok (.goto (-25), 3) := by decide +kernel
theorem dX4_init_168 : decode cX4_init 168 = .ok (.return_, 1) := by decide +kernel
set_option maxRecDepth 20000 in
theorem ggX4_write_X2_append : GoodIn wsX4_write wsX2_append := goodIn_r _ [7, 8, 9, 10, 25, 26, 27, 28, 29] (by decide +kernel) (by decide +kernel)
set_option maxRecDepth 20000 in
theorem gX4_write_X2_append : GoodIn wsX4_write (wsV RX4 72 RX2 yX2_append wsX2_append) := goodIn_app (goodIn_of _ (by decide +kernel)) ggX4_write_X2_append
theorem dX4_write_0 : decode cX4_write 0 = .ok (.iload_n 3, 1) := by decide +kernel
theorem dX4_write_1 : decode cX4_write 1 = .ok (.iconst 1, 1) := by decide +kernel
theorem dX4_write_2 : decode cX4_write 2 = .ok (.if_icmp .lt 9, 3) := by decide +kernel
theorem dX4_write_5 : decode cX4_write 5 = .ok (.iload_n 3, 1) := by decide +kernel
theorem dX4_write_6 : decode cX4_write 6 = .ok (.bipush 8, 2) := by decide +kernel
theorem dX4_write_8 : decode cX4_write 8 = .ok (.if_icmp .le 6, 3) := by decide +kernel
theorem dX4_write_11 : decode cX4_write 11 = .ok (.bipush (-3), 2) := by decide +kernel
theorem dX4_write_13 : decode cX4_write 13 = .ok (.ireturn, 1) := by decide +kernel
theorem dX4_write_14 : decode cX4_write 14 = .ok (.aload_n 0, 1) := by decide +kernel
theorem dX4_write_15 : decode cX4_write 15 = .ok (.getfield 22, 3) := by decide +kernel
theorem dX4_write_18 : decode cX4_write 18 = .ok (.lload_n 1, 1) := by decide +kernel
theorem dX4_write_19 : decode cX4_write 19 = .ok (.iload_n 3, 1) := by decide +kernel
theorem dX4_write_20 : decode cX4_write 20 = .ok (.invokevirtual 72, 3) := by decide +kernel
theorem dX4_write_23 : decode cX4_write 23 = .ok (.ifCond .eq 13, 3) := by decide +kernel
theorem dX4_write_26 : decode cX4_write 26 = .ok (.aload_n 0, 1) := by decide +kernel
theorem dX4_write_27 : decode cX4_write 27 = .ok (.getfield 22, 3) := by decide +kernel
theorem dX4_write_30 : decode cX4_write 30 = .ok (.getfield 76, 3) := by decide +kernel
theorem dX4_write_33 : decode cX4_write 33 = .ok (.goto 5, 3) := by decide +kernel
theorem dX4_write_36 : decode cX4_write 36 = .ok (.bipush (-5), 2) := by decide +kernel
theorem dX4_write_38 : decode cX4_write 38 = .ok (.ireturn, 1) := by decide +kernel
theorem dX4_erase_0 : decode cX4_erase 0 = .ok (.aload_n 0, 1) := by decide +kernel
theorem dX4_erase_1 : decode cX4_erase 1 = .ok (.getfield 22, 3) := by decide +kernel
theorem dX4_erase_4 : decode cX4_erase 4 = .ok (.getfield 76, 3) := by decide +kernel
theorem dX4_erase_7 : decode cX4_erase 7 = .ok (.istore_n 1, 1) := by decide +kernel
theorem dX4_erase_8 : decode cX4_erase 8 = .ok (.aload_n 0, 1) := by decide +kernel
theorem dX4_erase_9 : decode cX4_erase 9 = .ok (.getfield 22, 3) := by decide +kernel
theorem dX4_erase_12 : decode cX4_erase 12 = .ok (.iconst 0, 1) := by decide +kernel
theorem dX4_erase_13 : decode cX4_erase 13 = .ok (.putfield 76, 3) := by decide +kernel
theorem dX4_erase_16 : decode cX4_erase 16 = .ok (.iload_n 1, 1) := by decide +kernel
theorem dX4_erase_17 : decode cX4_erase 17 = .ok (.ireturn, 1) := by decide +kernel
set_option maxRecDepth 20000 in
theorem ggX4_fault_X3_copyFrom : GoodIn wsX4_fault wsX3_copyFrom := goodIn_r _ [8, 9, 10, 11, 12, 13, 14, 15, 16, 17, 18, 19, 20, 21, 22, 23, 24, 25, 209, 210, 211, 212, 213, 214, 215, 216, 217, 218, 219, 220, 221] (by decide +kernel) (by decide +kernel)
set_option maxRecDepth 20000 in
theorem gX4_fault_X3_copyFrom : GoodIn wsX4_fault (wsV RX4 80 RX3 yX3_copyFrom wsX3_copyFrom) := goodIn_app (goodIn_of _ (by decide +kernel)) ggX4_fault_X3_copyFrom
set_option maxRecDepth 20000 in
theorem ggX4_fault_X2_readInto : GoodIn wsX4_fault wsX2_readInto := goodIn_r _ [30, 31, 32, 33, 34, 35, 36, 37, 38, 29, 39, 40, 41, 42, 43, 44, 45, 46, 47, 48, 49, 50, 51, 52, 53, 54, 55, 56, 57, 58, 59, 60, 61, 62, 63, 64, 65, 66, 67, 68, 69, 70, 71, 72, 73, 74, 75, 76, 77, 78, 79, 80, 81, 82, 83, 84, 85, 86, 87, 88, 89, 90, 91, 92, 93, 94, 95, 96, 97, 98, 99, 100, 101, 102, 103, 104, 105, 106, 107, 108, 109, 110, 111, 112, 113, 114, 115, 116, 117, 7, 118, 9, 11, 13, 14, 15, 119, 120, 121, 122, 123, 124, 125, 126, 10, 12, 127, 128, 129, 130, 131, 132, 133, 134, 135, 136, 137, 138, 139, 140, 141, 142, 143, 144, 145, 20, 21, 146, 147, 148, 149, 150, 151, 152, 153, 154, 155, 156, 157, 158, 159, 160, 161, 162, 163, 164, 165, 166, 167, 168, 169, 170, 22, 23, 171, 172, 173, 174, 175, 176, 177, 178, 179, 24, 25, 180, 181, 182, 183, 184, 185, 186, 187, 188, 189, 190, 191, 192, 193, 194, 222, 223, 224, 225, 226, 209, 210, 211, 212, 213, 214, 215, 216, 217, 218, 219, 220, 221] (by decide +kernel) (by decide +kernel)
set_option maxRecDepth 20000 in
theorem gX4_fault_X2_readInto : GoodIn wsX4_fault (wsV RX4 83 RX2 yX2_readInto wsX2_readInto) := goodIn_app (goodIn_of _ (by decide +kernel)) ggX4_fault_X2_readInto
theorem dX4_fault_0 : decode cX4_fault 0 = .ok (.aload_n 0, 1) := by decide +kernel
theorem dX4_fault_1 : decode cX4_fault 1 = .ok (.getfield 16, 3) := by decide +kernel
theorem dX4_fault_4 : decode cX4_fault 4 = .ok (.aload_n 0, 1) := by decide +kernel
theorem dX4_fault_5 : decode cX4_fault 5 = .ok (.getfield 12, 3) := by decide +kernel
theorem dX4_fault_8 : decode cX4_fault 8 = .ok (.invokevirtual 80, 3) := by decide +kernel
theorem dX4_fault_11 : decode cX4_fault 11 = .ok (.aload_n 0, 1) := by decide +kernel
theorem dX4_fault_12 : decode cX4_fault 12 = .ok (.getfield 22, 3) := by decide +kernel
theorem dX4_fault_15 : decode cX4_fault 15 = .ok (.aload_n 0, 1) := by decide +kernel
theorem dX4_fault_16 : decode cX4_fault 16 = .ok (.getfield 16, 3) := by decide +kernel
theorem dX4_fault_19 : decode cX4_fault 19 = .ok (.invokevirtual 83, 3) := by decide +kernel
theorem dX4_fault_22 : decode cX4_fault 22 = .ok (.ireturn, 1) := by decide +kernel
set_option maxRecDepth 20000 in
theorem ggX4_green_X3_copyFrom : GoodIn wsX4_green wsX3_copyFrom := goodIn_r _ [13, 14, 15, 16, 17, 18, 19, 20, 21, 22, 23, 24, 25, 26, 27, 28, 29, 30, 237, 238, 239, 240, 241, 242, 243, 244, 245, 246, 247, 248, 249] (by decide +kernel) (by decide +kernel)
set_option maxRecDepth 20000 in
theorem gX4_green_X3_copyFrom : GoodIn wsX4_green (wsV RX4 80 RX3 yX3_copyFrom wsX3_copyFrom) := goodIn_app (goodIn_of _ (by decide +kernel)) ggX4_green_X3_copyFrom
set_option maxRecDepth 20000 in
theorem ggX4_green_X2_readInto : GoodIn wsX4_green wsX2_readInto := goodIn_r _ [35, 36, 37, 38, 39, 40, 41, 42, 43, 34, 44, 45, 46, 47, 48, 49, 50, 51, 52, 53, 54, 55, 56, 57, 58, 59, 60, 61, 62, 63, 64, 65, 66, 67, 68, 69, 70, 71, 72, 73, 74, 75, 76, 77, 78, 79, 80, 81, 82, 83, 84, 85, 86, 87, 88, 89, 90, 91, 92, 93, 94, 95, 96, 97, 98, 99, 100, 101, 102, 103, 104, 105, 106, 107, 108, 109, 110, 111, 112, 113, 114, 115, 116, 117, 118, 119, 120, 121, 122, 12, 123, 14, 16, 18, 19, 20, 124, 125, 126, 127, 128, 129, 130, 131, 15, 17, 132, 133, 134, 135, 136, 137, 138, 139, 140, 141, 142, 143, 144, 145, 146, 147, 148, 149, 150, 25, 26, 151, 152, 153, 154, 155, 156, 157, 158, 159, 160, 161, 162, 163, 164, 165, 166, 167, 168, 169, 170, 171, 172, 173, 174, 175, 27, 28, 176, 177, 178, 179, 180, 181, 182, 183, 184, 29, 30, 185, 186, 187, 188, 189, 190, 191, 192, 193, 194, 195, 196, 197, 198, 199, 232, 233, 234, 235, 236, 237, 238, 239, 240, 241, 242, 243, 244, 245, 246, 247, 248, 249] (by decide +kernel) (by decide +kernel)
set_option maxRecDepth 20000 in
theorem gX4_green_X2_readInto : GoodIn wsX4_green (wsV RX4 83 RX2 yX2_readInto wsX2_readInto) := goodIn_app (goodIn_of _ (by decide +kernel)) ggX4_green_X2_readInto
set_option maxRecDepth 20000 in
theorem ggX4_green_X1_startAsTold : GoodIn wsX4_green wsX1_startAsTold := goodIn_r _ [204, 205, 206, 207, 208, 22, 23, 24, 209, 210, 211, 212, 213, 214, 215, 216, 125, 126, 127, 217, 152, 153, 12, 154, 15, 25, 26, 155, 156, 157, 158, 159, 160, 161, 162, 14, 250, 251, 252, 253, 254, 255, 256, 257, 258, 237, 238, 239, 240, 241, 242, 243, 244, 245, 246, 247, 248, 249] (by decide +kernel) (by decide +kernel)
set_option maxRecDepth 20000 in
theorem gX4_green_X1_startAsTold : GoodIn wsX4_green (wsV RX4 87 RX1 yX1_startAsTold wsX1_startAsTold) := goodIn_app (goodIn_of _ (by decide +kernel)) ggX4_green_X1_startAsTold
theorem dX4_green_0 : decode cX4_green 0 = .ok (.aload_n 0, 1) := by decide +kernel
theorem dX4_green_1 : decode cX4_green 1 = .ok (.getfield 16, 3) := by decide +kernel
theorem dX4_green_4 : decode cX4_green 4 = .ok (.aload_n 0, 1) := by decide +kernel
theorem dX4_green_5 : decode cX4_green 5 = .ok (.getfield 12, 3) := by decide +kernel
theorem dX4_green_8 : decode cX4_green 8 = .ok (.invokevirtual 80, 3) := by decide +kernel
theorem dX4_green_11 : decode cX4_green 11 = .ok (.aload_n 0, 1) := by decide +kernel
theorem dX4_green_12 : decode cX4_green 12 = .ok (.getfield 22, 3) := by decide +kernel
theorem dX4_green_15 : decode cX4_green 15 = .ok (.aload_n 0, 1) := by decide +kernel
theorem dX4_green_16 : decode cX4_green 16 = .ok (.getfield 16, 3) := by decide +kernel
theorem dX4_green_19 : decode cX4_green 19 = .ok (.invokevirtual 83, 3) := by decide +kernel
theorem dX4_green_22 : decode cX4_green 22 = .ok (.iconst (-1), 1) := by decide +kernel
theorem dX4_green_23 : decode cX4_green 23 = .ok (.if_icmp .eq 6, 3) := by decide +kernel
theorem dX4_green_26 : decode cX4_green 26 = .ok (.bipush (-4), 2) := by decide +kernel
theorem dX4_green_28 : decode cX4_green 28 = .ok (.ireturn, 1) := by decide +kernel
theorem dX4_green_29 : decode cX4_green 29 = .ok (.aload_n 0, 1) := by decide +kernel
theorem dX4_green_30 : decode cX4_green 30 = .ok (.getfield 12, 3) := by decide +kernel
theorem dX4_green_33 : decode cX4_green 33 = .ok (.aload_n 0, 1) := by decide +kernel
theorem dX4_green_34 : decode cX4_green 34 = .ok (.getfield 16, 3) := by decide +kernel
theorem dX4_green_37 : decode cX4_green 37 = .ok (.invokevirtual 80, 3) := by decide +kernel
theorem dX4_green_40 : decode cX4_green 40 = .ok (.aload_n 0, 1) := by decide +kernel
theorem dX4_green_41 : decode cX4_green 41 = .ok (.getfield 22, 3) := by decide +kernel
theorem dX4_green_44 : decode cX4_green 44 = .ok (.iconst 0, 1) := by decide +kernel
theorem dX4_green_45 : decode cX4_green 45 = .ok (.putfield 76, 3) := by decide +kernel
theorem dX4_green_48 : decode cX4_green 48 = .ok (.aload_n 0, 1) := by decide +kernel
theorem dX4_green_49 : decode cX4_green 49 = .ok (.getfield 31, 3) := by decide +kernel
theorem dX4_green_52 : decode cX4_green 52 = .ok (.invokevirtual 87, 3) := by decide +kernel
theorem dX4_green_55 : decode cX4_green 55 = .ok (.aload_n 0, 1) := by decide +kernel
theorem dX4_green_56 : decode cX4_green 56 = .ok (.iconst 0, 1) := by decide +kernel
theorem dX4_green_57 : decode cX4_green 57 = .ok (.putfield 90, 3) := by decide +kernel
theorem dX4_green_60 : decode cX4_green 60 = .ok (.iconst 0, 1) := by decide +kernel
theorem dX4_green_61 : decode cX4_green 61 = .ok (.istore_n 1, 1) := by decide +kernel
theorem dX4_green_62 : decode cX4_green 62 = .ok (.iload_n 1, 1) := by decide +kernel
theorem dX4_green_63 : decode cX4_green 63 = .ok (.iconst 2, 1) := by decide +kernel
theorem dX4_green_64 : decode cX4_green 64 = .ok (.if_icmp .ge 16, 3) := by decide +kernel
theorem dX4_green_67 : decode cX4_green 67 = .ok (.aload_n 0, 1) := by decide +kernel
theorem dX4_green_68 : decode cX4_green 68 = .ok (.getfield 42, 3) := by decide +kernel
theorem dX4_green_71 : decode cX4_green 71 = .ok (.iload_n 1, 1) := by decide +kernel
theorem dX4_green_72 : decode cX4_green 72 = .ok (.iconst 0, 1) := by decide +kernel
theorem dX4_green_73 : decode cX4_green 73 = .ok (.bastore, 1) := by decide +kernel
theorem dX4_green_74 : decode cX4_green 74 = .ok (.iinc 1 1, 3) := by decide +kernel
theorem dX4_green_77 : decode cX4_green 77 = .ok (.goto (-15), 3) := by decide +kernel
theorem dX4_green_80 : decode cX4_green 80 = .ok (.aload_n 0, 1) := by decide +kernel
theorem dX4_green_81 : decode cX4_green 81 = .ok (.getfield 22, 3) := by decide +kernel
theorem dX4_green_84 : decode cX4_green 84 = .ok (.getfield 93, 3) := by decide +kernel
theorem dX4_green_87 : decode cX4_green 87 = .ok (.ireturn, 1) := by decide +kernel
set_option maxRecDepth 20000 in
theorem ggX4_plot_X4_isPlot : GoodIn wsX4_plot wsX4_isPlot := goodIn_r _ [8, 2, 9, 33, 34, 35, 36, 37, 38, 39, 40, 41, 42, 43, 44, 45, 46, 47, 48, 49, 50, 51, 52, 53, 54, 55, 56, 57, 58, 59] (by decide +kernel) (by decide +kernel)
set_option maxRecDepth 20000 in
theorem gX4_plot_X4_isPlot : GoodIn wsX4_plot (wsV RX4 96 RX4 yX4_isPlot wsX4_isPlot) := goodIn_app (goodIn_of _ (by decide +kernel)) ggX4_plot_X4_isPlot
set_option maxRecDepth 20000 in
theorem ggX4_plot_X1_houseOn : GoodIn wsX4_plot wsX1_houseOn := goodIn_r _ [14, 15, 16, 17, 18, 19, 13, 20, 21, 22, 23, 24, 25, 26, 27, 28, 29, 30, 31, 32, 60, 61, 62, 63, 64, 65, 66, 67, 68, 47, 48, 49, 50, 51, 52, 53, 54, 55, 56, 57, 58, 59] (by decide +kernel) (by decide +kernel)
set_option maxRecDepth 20000 in
theorem gX4_plot_X1_houseOn : GoodIn wsX4_plot (wsV RX4 100 RX1 yX1_houseOn wsX1_houseOn) := goodIn_app (goodIn_of _ (by decide +kernel)) ggX4_plot_X1_houseOn
theorem dX4_plot_0 : decode cX4_plot 0 = .ok (.aload_n 0, 1) := by decide +kernel
theorem dX4_plot_1 : decode cX4_plot 1 = .ok (.iload_n 1, 1) := by decide +kernel
theorem dX4_plot_2 : decode cX4_plot 2 = .ok (.invokevirtual 96, 3) := by decide +kernel
theorem dX4_plot_5 : decode cX4_plot 5 = .ok (.ifCond .ne 6, 3) := by decide +kernel
theorem dX4_plot_8 : decode cX4_plot 8 = .ok (.bipush (-2), 2) := by decide +kernel
theorem dX4_plot_10 : decode cX4_plot 10 = .ok (.ireturn, 1) := by decide +kernel
theorem dX4_plot_11 : decode cX4_plot 11 = .ok (.iload_n 2, 1) := by decide +kernel
theorem dX4_plot_12 : decode cX4_plot 12 = .ok (.ifCond .lt 8, 3) := by decide +kernel
theorem dX4_plot_15 : decode cX4_plot 15 = .ok (.iload_n 2, 1) := by decide +kernel
theorem dX4_plot_16 : decode cX4_plot 16 = .ok (.iconst 1, 1) := by decide +kernel
theorem dX4_plot_17 : decode cX4_plot 17 = .ok (.if_icmp .le 6, 3) := by decide +kernel
theorem dX4_plot_20 : decode cX4_plot 20 = .ok (.bipush (-3), 2) := by decide +kernel
theorem dX4_plot_22 : decode cX4_plot 22 = .ok (.ireturn, 1) := by decide +kernel
theorem dX4_plot_23 : decode cX4_plot 23 = .ok (.iload_n 2, 1) := by decide +kernel
theorem dX4_plot_24 : decode cX4_plot 24 = .ok (.ifCond .ne 14, 3) := by decide +kernel
theorem dX4_plot_27 : decode cX4_plot 27 = .ok (.aload_n 0, 1) := by decide +kernel
theorem dX4_plot_28 : decode cX4_plot 28 = .ok (.getfield 31, 3) := by decide +kernel
theorem dX4_plot_31 : decode cX4_plot 31 = .ok (.iload_n 1, 1) := by decide +kernel
theorem dX4_plot_32 : decode cX4_plot 32 = .ok (.invokevirtual 100, 3) := by decide +kernel
theorem dX4_plot_35 : decode cX4_plot 35 = .ok (.goto 12, 3) := by decide +kernel
theorem dX4_plot_38 : decode cX4_plot 38 = .ok (.aload_n 0, 1) := by decide +kernel
theorem dX4_plot_39 : decode cX4_plot 39 = .ok (.getfield 12, 3) := by decide +kernel
theorem dX4_plot_42 : decode cX4_plot 42 = .ok (.getfield 104, 3) := by decide +kernel
theorem dX4_plot_45 : decode cX4_plot 45 = .ok (.iload_n 1, 1) := by decide +kernel
theorem dX4_plot_46 : decode cX4_plot 46 = .ok (.iaload, 1) := by decide +kernel
theorem dX4_plot_47 : decode cX4_plot 47 = .ok (.ireturn, 1) := by decide +kernel
set_option maxRecDepth 20000 in
theorem ggX4_house_X4_isHouse : GoodIn wsX4_house wsX4_isHouse := goodIn_r _ [11, 1, 12, 13, 14, 15, 16, 17, 18, 19, 20, 21, 22, 23, 24, 25, 26, 27, 28, 29, 30, 31, 32, 33, 34, 35, 36, 37, 38, 39] (by decide +kernel) (by decide +kernel)
set_option maxRecDepth 20000 in
theorem gX4_house_X4_isHouse : GoodIn wsX4_house (wsV RX4 107 RX4 yX4_isHouse wsX4_isHouse) := goodIn_app (goodIn_of _ (by decide +kernel)) ggX4_house_X4_isHouse
theorem dX4_house_0 : decode cX4_house 0 = .ok (.aload_n 0, 1) := by decide +kernel
theorem dX4_house_1 : decode cX4_house 1 = .ok (.iload_n 1, 1) := by decide +kernel
theorem dX4_house_2 : decode cX4_house 2 = .ok (.invokevirtual 107, 3) := by decide +kernel
theorem dX4_house_5 : decode cX4_house 5 = .ok (.ifCond .ne 6, 3) := by decide +kernel
theorem dX4_house_8 : decode cX4_house 8 = .ok (.bipush (-2), 2) := by decide +kernel
theorem dX4_house_10 : decode cX4_house 10 = .ok (.ireturn, 1) := by decide +kernel
theorem dX4_house_11 : decode cX4_house 11 = .ok (.iload_n 2, 1) := by decide +kernel
theorem dX4_house_12 : decode cX4_house 12 = .ok (.tableswitch 82 0 2 #[28, 38, 48], 28) := by decide +kernel
theorem dX4_house_40 : decode cX4_house 40 = .ok (.aload_n 0, 1) := by decide +kernel
theorem dX4_house_41 : decode cX4_house 41 = .ok (.getfield 12, 3) := by decide +kernel
theorem dX4_house_44 : decode cX4_house 44 = .ok (.getfield 110, 3) := by decide +kernel
theorem dX4_house_47 : decode cX4_house 47 = .ok (.iload_n 1, 1) := by decide +kernel
theorem dX4_house_48 : decode cX4_house 48 = .ok (.iaload, 1) := by decide +kernel
theorem dX4_house_49 : decode cX4_house 49 = .ok (.ireturn, 1) := by decide +kernel
theorem dX4_house_50 : decode cX4_house 50 = .ok (.aload_n 0, 1) := by decide +kernel
theorem dX4_house_51 : decode cX4_house 51 = .ok (.getfield 31, 3) := by decide +kernel
theorem dX4_house_54 : decode cX4_house 54 = .ok (.getfield 113, 3) := by decide +kernel
theorem dX4_house_57 : decode cX4_house 57 = .ok (.iload_n 1, 1) := by decide +kernel
theorem dX4_house_58 : decode cX4_house 58 = .ok (.iaload, 1) := by decide +kernel
theorem dX4_house_59 : decode cX4_house 59 = .ok (.ireturn, 1) := by decide +kernel
theorem dX4_house_60 : decode cX4_house 60 = .ok (.aload_n 0, 1) := by decide +kernel
theorem dX4_house_61 : decode cX4_house 61 = .ok (.getfield 31, 3) := by decide +kernel
theorem dX4_house_64 : decode cX4_house 64 = .ok (.getfield 116, 3) := by decide +kernel
theorem dX4_house_67 : decode cX4_house 67 = .ok (.iload_n 1, 1) := by decide +kernel
theorem dX4_house_68 : decode cX4_house 68 = .ok (.iaload, 1) := by decide +kernel
theorem dX4_house_69 : decode cX4_house 69 = .ok (.ifCond .ne 7, 3) := by decide +kernel
theorem dX4_house_72 : decode cX4_house 72 = .ok (.iconst (-1), 1) := by decide +kernel
theorem dX4_house_73 : decode cX4_house 73 = .ok (.goto 20, 3) := by decide +kernel
theorem dX4_house_76 : decode cX4_house 76 = .ok (.aload_n 0, 1) := by decide +kernel
theorem dX4_house_77 : decode cX4_house 77 = .ok (.getfield 31, 3) := by decide +kernel
theorem dX4_house_80 : decode cX4_house 80 = .ok (.getfield 119, 3) := by decide +kernel
theorem dX4_house_83 : decode cX4_house 83 = .ok (.aload_n 0, 1) := by decide +kernel
theorem dX4_house_84 : decode cX4_house 84 = .ok (.getfield 31, 3) := by decide +kernel
theorem dX4_house_87 : decode cX4_house 87 = .ok (.getfield 116, 3) := by decide +kernel
theorem dX4_house_90 : decode cX4_house 90 = .ok (.iload_n 1, 1) := by decide +kernel
theorem dX4_house_91 : decode cX4_house 91 = .ok (.iaload, 1) := by decide +kernel
theorem dX4_house_92 : decode cX4_house 92 = .ok (.isub, 1) := by decide +kernel
theorem dX4_house_93 : decode cX4_house 93 = .ok (.ireturn, 1) := by decide +kernel
theorem dX4_house_94 : decode cX4_house 94 = .ok (.bipush (-3), 2) := by decide +kernel
theorem dX4_house_96 : decode cX4_house 96 = .ok (.ireturn, 1) := by decide +kernel
set_option maxRecDepth 20000 in
theorem ggX4_as_X4_isHouse : GoodIn wsX4_as wsX4_isHouse := goodIn_r _ [9, 1, 10, 49, 50, 51, 52, 53, 54, 55, 56, 57, 58, 59, 60, 61, 62, 63, 64, 65, 66, 67, 68, 69, 70, 71, 72, 73, 74, 75] (by decide +kernel) (by decide +kernel)
set_option maxRecDepth 20000 in
theorem gX4_as_X4_isHouse : GoodIn wsX4_as (wsV RX4 107 RX4 yX4_isHouse wsX4_isHouse) := goodIn_app (goodIn_of _ (by decide +kernel)) ggX4_as_X4_isHouse
set_option maxRecDepth 20000 in
theorem ggX4_as_X4_isSuch : GoodIn wsX4_as wsX4_isSuch := goodIn_r _ [13] (by decide +kernel) (by decide +kernel)
set_option maxRecDepth 20000 in
theorem gX4_as_X4_isSuch : GoodIn wsX4_as (va_wsS RX4 122 yX4_isSuch wsX4_isSuch) := goodIn_app (goodIn_of _ (by decide +kernel)) ggX4_as_X4_isSuch
set_option maxRecDepth 20000 in
theorem ggX4_as_X1_findWays : GoodIn wsX4_as wsX1_findWays := goodIn_r _ [18, 19, 20, 21, 22, 23, 24, 25, 26, 27, 28, 29, 30, 31, 32, 33, 34, 35, 17, 36, 37, 38, 39, 40, 41, 42, 43, 44, 45, 46, 47, 48, 76, 77, 78, 79, 80, 81, 82, 83, 84, 63, 64, 65, 66, 67, 68, 69, 70, 71, 72, 73, 74, 75] (by decide +kernel) (by decide +kernel)
set_option maxRecDepth 20000 in
theorem gX4_as_X1_findWays : GoodIn wsX4_as (wsV RX4 126 RX1 yX1_findWays wsX1_findWays) := goodIn_app (goodIn_of _ (by decide +kernel)) ggX4_as_X1_findWays
theorem dX4_as_0 : decode cX4_as 0 = .ok (.aload_n 0, 1) := by decide +kernel
theorem dX4_as_1 : decode cX4_as 1 = .ok (.iload_n 1, 1) := by decide +kernel
theorem dX4_as_2 : decode cX4_as 2 = .ok (.invokevirtual 107, 3) := by decide +kernel
theorem dX4_as_5 : decode cX4_as 5 = .ok (.ifCond .ne 6, 3) := by decide +kernel
theorem dX4_as_8 : decode cX4_as 8 = .ok (.bipush (-2), 2) := by decide +kernel
theorem dX4_as_10 : decode cX4_as 10 = .ok (.ireturn, 1) := by decide +kernel
theorem dX4_as_11 : decode cX4_as 11 = .ok (.iload_n 2, 1) := by decide +kernel
theorem dX4_as_12 : decode cX4_as 12 = .ok (.ifCond .lt 8, 3) := by decide +kernel
theorem dX4_as_15 : decode cX4_as 15 = .ok (.iload_n 2, 1) := by decide +kernel
theorem dX4_as_16 : decode cX4_as 16 = .ok (.iconst 4, 1) := by decide +kernel
theorem dX4_as_17 : decode cX4_as 17 = .ok (.if_icmp .le 6, 3) := by decide +kernel
theorem dX4_as_20 : decode cX4_as 20 = .ok (.bipush (-3), 2) := by decide +kernel
theorem dX4_as_22 : decode cX4_as 22 = .ok (.ireturn, 1) := by decide +kernel
theorem dX4_as_23 : decode cX4_as 23 = .ok (.aload_n 0, 1) := by decide +kernel
theorem dX4_as_24 : decode cX4_as 24 = .ok (.getfield 12, 3) := by decide +kernel
theorem dX4_as_27 : decode cX4_as 27 = .ok (.getfield 110, 3) := by decide +kernel
theorem dX4_as_30 : decode cX4_as 30 = .ok (.iload_n 1, 1) := by decide +kernel
theorem dX4_as_31 : decode cX4_as 31 = .ok (.iaload, 1) := by decide +kernel
theorem dX4_as_32 : decode cX4_as 32 = .ok (.iload_n 2, 1) := by decide +kernel
theorem dX4_as_33 : decode cX4_as 33 = .ok (.invokestatic 122, 3) := by decide +kernel
theorem dX4_as_36 : decode cX4_as 36 = .ok (.ifCond .eq 18, 3) := by decide +kernel
theorem dX4_as_39 : decode cX4_as 39 = .ok (.aload_n 0, 1) := by decide +kernel
theorem dX4_as_40 : decode cX4_as 40 = .ok (.getfield 31, 3) := by decide +kernel
theorem dX4_as_43 : decode cX4_as 43 = .ok (.iload_n 1, 1) := by decide +kernel
theorem dX4_as_44 : decode cX4_as 44 = .ok (.aload_n 0, 1) := by decide +kernel
theorem dX4_as_45 : decode cX4_as 45 = .ok (.getfield 55, 3) := by decide +kernel
theorem dX4_as_48 : decode cX4_as 48 = .ok (.invokevirtual 126, 3) := by decide +kernel
theorem dX4_as_51 : decode cX4_as 51 = .ok (.goto 5, 3) := by decide +kernel
theorem dX4_as_54 : decode cX4_as 54 = .ok (.bipush (-4), 2) := by decide +kernel
theorem dX4_as_56 : decode cX4_as 56 = .ok (.ireturn, 1) := by decide +kernel
set_option maxRecDepth 20000 in
theorem ggX4_can_X4_isHouse : GoodIn wsX4_can wsX4_isHouse := goodIn_r _ [7, 8, 9, 45, 46, 47, 48, 49, 50, 51, 52, 53, 54, 55, 56, 57, 58, 59, 60, 61, 62, 63, 64, 65, 66, 67, 68, 69, 70, 71] (by decide +kernel) (by decide +kernel)
set_option maxRecDepth 20000 in
theorem gX4_can_X4_isHouse : GoodIn wsX4_can (wsV RX4 107 RX4 yX4_isHouse wsX4_isHouse) := goodIn_app (goodIn_of _ (by decide +kernel)) ggX4_can_X4_isHouse
set_option maxRecDepth 20000 in
theorem ggX4_can_X1_findWays : GoodIn wsX4_can wsX1_findWays := goodIn_r _ [14, 15, 16, 17, 18, 19, 20, 21, 22, 23, 24, 25, 26, 27, 28, 29, 30, 31, 13, 32, 33, 34, 35, 36, 37, 38, 39, 40, 41, 42, 43, 44, 72, 73, 74, 75, 76, 77, 78, 79, 80, 59, 60, 61, 62, 63, 64, 65, 66, 67, 68, 69, 70, 71] (by decide +kernel) (by decide +kernel)
set_option maxRecDepth 20000 in
theorem gX4_can_X1_findWays : GoodIn wsX4_can (wsV RX4 126 RX1 yX1_findWays wsX1_findWays) := goodIn_app (goodIn_of _ (by decide +kernel)) ggX4_can_X1_findWays
theorem dX4_can_0 : decode cX4_can 0 = .ok (.aload_n 0, 1) := by decide +kernel
theorem dX4_can_1 : decode cX4_can 1 = .ok (.iload_n 1, 1) := by decide +kernel
theorem dX4_can_2 : decode cX4_can 2 = .ok (.invokevirtual 107, 3) := by decide +kernel
theorem dX4_can_5 : decode cX4_can 5 = .ok (.ifCond .ne 6, 3) := by decide +kernel
theorem dX4_can_8 : decode cX4_can 8 = .ok (.bipush (-2), 2) := by decide +kernel
theorem dX4_can_10 : decode cX4_can 10 = .ok (.ireturn, 1) := by decide +kernel
theorem dX4_can_11 : decode cX4_can 11 = .ok (.iload_n 2, 1) := by decide +kernel
theorem dX4_can_12 : decode cX4_can 12 = .ok (.ifCond .ge 6, 3) := by decide +kernel
theorem dX4_can_15 : decode cX4_can 15 = .ok (.bipush (-3), 2) := by decide +kernel
theorem dX4_can_17 : decode cX4_can 17 = .ok (.ireturn, 1) := by decide +kernel
theorem dX4_can_18 : decode cX4_can 18 = .ok (.aload_n 0, 1) := by decide +kernel
theorem dX4_can_19 : decode cX4_can 19 = .ok (.getfield 31, 3) := by decide +kernel
theorem dX4_can_22 : decode cX4_can 22 = .ok (.iload_n 1, 1) := by decide +kernel
theorem dX4_can_23 : decode cX4_can 23 = .ok (.aload_n 0, 1) := by decide +kernel
theorem dX4_can_24 : decode cX4_can 24 = .ok (.getfield 55, 3) := by decide +kernel
theorem dX4_can_27 : decode cX4_can 27 = .ok (.invokevirtual 126, 3) := by decide +kernel
theorem dX4_can_30 : decode cX4_can 30 = .ok (.istore_n 3, 1) := by decide +kernel
theorem dX4_can_31 : decode cX4_can 31 = .ok (.iload_n 2, 1) := by decide +kernel
theorem dX4_can_32 : decode cX4_can 32 = .ok (.iload_n 3, 1) := by decide +kernel
theorem dX4_can_33 : decode cX4_can 33 = .ok (.if_icmp .ge 21, 3) := by decide +kernel
theorem dX4_can_36 : decode cX4_can 36 = .ok (.iload_n 2, 1) := by decide +kernel
theorem dX4_can_37 : decode cX4_can 37 = .ok (.aload_n 0, 1) := by decide +kernel
theorem dX4_can_38 : decode cX4_can 38 = .ok (.getfield 55, 3) := by decide +kernel
theorem dX4_can_41 : decode cX4_can 41 = .ok (.arraylength, 1) := by decide +kernel
theorem dX4_can_42 : decode cX4_can 42 = .ok (.if_icmp .ge 12, 3) := by decide +kernel
theorem dX4_can_45 : decode cX4_can 45 = .ok (.aload_n 0, 1) := by decide +kernel
theorem dX4_can_46 : decode cX4_can 46 = .ok (.getfield 55, 3) := by decide +kernel
theorem dX4_can_49 : decode cX4_can 49 = .ok (.iload_n 2, 1) := by decide +kernel
theorem dX4_can_50 : decode cX4_can 50 = .ok (.iaload, 1) := by decide +kernel
theorem dX4_can_51 : decode cX4_can 51 = .ok (.goto 4, 3) := by decide +kernel
theorem dX4_can_54 : decode cX4_can 54 = .ok (.iconst (-1), 1) := by decide +kernel
theorem dX4_can_55 : decode cX4_can 55 = .ok (.ireturn, 1) := by decide +kernel
set_option maxRecDepth 20000 in
theorem ggX4_go_X1_passNight : GoodIn wsX4_go wsX1_passNight := goodIn_r _ [9, 10, 11, 12, 13, 14, 8, 15, 16, 17, 18, 19, 20, 21, 22, 23, 24, 25, 26, 27, 28, 29, 30, 31, 32, 33, 34, 35, 36, 37, 38, 39, 40, 41, 42, 43, 44, 45, 46, 47, 48, 49, 50, 51, 52, 53, 54, 55, 56, 57, 58, 59, 60, 61, 62, 63, 64, 65, 66, 67, 68, 69, 70, 71, 72, 73, 74, 75, 76, 77, 78, 79, 80, 81, 82, 83, 84, 85, 86, 87, 102, 103, 104, 105, 106, 107, 108, 109, 110, 111, 112, 113, 114, 115, 116, 117, 118, 119, 120, 121, 122, 123] (by decide +kernel) (by decide +kernel)
set_option maxRecDepth 20000 in
theorem gX4_go_X1_passNight : GoodIn wsX4_go (wsV RX4 133 RX1 yX1_passNight wsX1_passNight) := goodIn_app (goodIn_of _ (by decide +kernel)) ggX4_go_X1_passNight
theorem dX4_go_0 : decode cX4_go 0 = .ok (.iload_n 1, 1) := by decide +kernel
theorem dX4_go_1 : decode cX4_go 1 = .ok (.iconst 1, 1) := by decide +kernel
theorem dX4_go_2 : decode cX4_go 2 = .ok (.if_icmp .lt 9, 3) := by decide +kernel
theorem dX4_go_5 : decode cX4_go 5 = .ok (.iload_n 1, 1) := by decide +kernel
theorem dX4_go_6 : decode cX4_go 6 = .ok (.bipush 99, 2) := by decide +kernel
theorem dX4_go_8 : decode cX4_go 8 = .ok (.if_icmp .le 6, 3) := by decide +kernel
theorem dX4_go_11 : decode cX4_go 11 = .ok (.bipush (-3), 2) := by decide +kernel
theorem dX4_go_13 : decode cX4_go 13 = .ok (.ireturn, 1) := by decide +kernel
theorem dX4_go_14 : decode cX4_go 14 = .ok (.aload_n 0, 1) := by decide +kernel
theorem dX4_go_15 : decode cX4_go 15 = .ok (.getfield 31, 3) := by decide +kernel
theorem dX4_go_18 : decode cX4_go 18 = .ok (.getfield 119, 3) := by decide +kernel
theorem dX4_go_21 : decode cX4_go 21 = .ok (.iload_n 1, 1) := by decide +kernel
theorem dX4_go_22 : decode cX4_go 22 = .ok (.iadd, 1) := by decide +kernel
theorem dX4_go_23 : decode cX4_go 23 = .ok (.sipush 9999, 3) := by decide +kernel
theorem dX4_go_26 : decode cX4_go 26 = .ok (.if_icmp .le 6, 3) := by decide +kernel
theorem dX4_go_29 : decode cX4_go 29 = .ok (.bipush (-5), 2) := by decide +kernel
theorem dX4_go_31 : decode cX4_go 31 = .ok (.ireturn, 1) := by decide +kernel
theorem dX4_go_32 : decode cX4_go 32 = .ok (.iconst 0, 1) := by decide +kernel
theorem dX4_go_33 : decode cX4_go 33 = .ok (.istore_n 2, 1) := by decide +kernel
theorem dX4_go_34 : decode cX4_go 34 = .ok (.iload_n 2, 1) := by decide +kernel
theorem dX4_go_35 : decode cX4_go 35 = .ok (.iload_n 1, 1) := by decide +kernel
theorem dX4_go_36 : decode cX4_go 36 = .ok (.if_icmp .ge 23, 3) := by decide +kernel
theorem dX4_go_39 : decode cX4_go 39 = .ok (.aload_n 0, 1) := by decide +kernel
theorem dX4_go_40 : decode cX4_go 40 = .ok (.getfield 31, 3) := by decide +kernel
theorem dX4_go_43 : decode cX4_go 43 = .ok (.aload_n 0, 1) := by decide +kernel
theorem dX4_go_44 : decode cX4_go 44 = .ok (.getfield 12, 3) := by decide +kernel
theorem dX4_go_47 : decode cX4_go 47 = .ok (.getfield 130, 3) := by decide +kernel
theorem dX4_go_50 : decode cX4_go 50 = .ok (.invokevirtual 133, 3) := by decide +kernel
theorem dX4_go_53 : decode cX4_go 53 = .ok (.iinc 2 1, 3) := by decide +kernel
theorem dX4_go_56 : decode cX4_go 56 = .ok (.goto (-22), 3) := by decide +kernel
theorem dX4_go_59 : decode cX4_go 59 = .ok (.aload_n 0, 1) := by decide +kernel
theorem dX4_go_60 : decode cX4_go 60 = .ok (.getfield 31, 3) := by decide +kernel
theorem dX4_go_63 : decode cX4_go 63 = .ok (.getfield 119, 3) := by decide +kernel
theorem dX4_go_66 : decode cX4_go 66 = .ok (.ireturn, 1) := by decide +kernel
set_option maxRecDepth 20000 in
theorem ggX4_roll_X4_isHouse : GoodIn wsX4_roll wsX4_isHouse := goodIn_r _ [9, 3, 10, 77, 78, 79, 80, 81, 82, 83, 84, 85, 86, 87, 88, 89, 90, 100, 101, 102, 103, 104, 105, 106, 107, 108, 109, 110, 111, 112] (by decide +kernel) (by decide +kernel)
set_option maxRecDepth 20000 in
theorem gX4_roll_X4_isHouse : GoodIn wsX4_roll (wsV RX4 107 RX4 yX4_isHouse wsX4_isHouse) := goodIn_app (goodIn_of _ (by decide +kernel)) ggX4_roll_X4_isHouse
set_option maxRecDepth 20000 in
theorem ggX4_roll_X4_isPlot : GoodIn wsX4_roll wsX4_isPlot := goodIn_r _ [14, 3, 15, 77, 78, 79, 80, 81, 82, 83, 84, 85, 86, 87, 88, 89, 90, 100, 101, 102, 103, 104, 105, 106, 107, 108, 109, 110, 111, 112] (by decide +kernel) (by decide +kernel)
set_option maxRecDepth 20000 in
theorem gX4_roll_X4_isPlot : GoodIn wsX4_roll (wsV RX4 96 RX4 yX4_isPlot wsX4_isPlot) := goodIn_app (goodIn_of _ (by decide +kernel)) ggX4_roll_X4_isPlot
set_option maxRecDepth 20000 in
theorem ggX4_roll_X1_hasWayTo : GoodIn wsX4_roll wsX1_hasWayTo := goodIn_r _ [20, 21, 22, 23, 24, 19, 25, 26, 27, 28, 29, 30, 31, 32, 33, 34, 35, 36, 37, 38, 39, 40, 41, 42, 43, 44, 45, 46, 47, 48, 49, 50, 51, 52, 53, 54, 55, 91, 92, 93, 94, 95, 96, 97, 98, 99, 100, 101, 102, 103, 104, 105, 106, 107, 108, 109, 110, 111, 112] (by decide +kernel) (by decide +kernel)
set_option maxRecDepth 20000 in
theorem gX4_roll_X1_hasWayTo : GoodIn wsX4_roll (wsV RX4 137 RX1 yX1_hasWayTo wsX1_hasWayTo) := goodIn_app (goodIn_of _ (by decide +kernel)) ggX4_roll_X1_hasWayTo
set_option maxRecDepth 20000 in
theorem ggX4_roll_X1_passNightOf : GoodIn wsX4_roll wsX1_passNightOf := goodIn_r _ [59, 60, 61, 26, 62, 63, 64, 65, 66, 19, 67, 44, 29, 68, 69, 70, 71, 27, 72, 73, 74, 33, 75, 76, 31, 32, 34, 35, 91, 92, 93, 94, 95, 96, 97, 98, 99, 100, 101, 102, 103, 104, 105, 106, 107, 108, 109, 110, 111, 112] (by decide +kernel) (by decide +kernel)
set_option maxRecDepth 20000 in
theorem gX4_roll_X1_passNightOf : GoodIn wsX4_roll (wsV RX4 140 RX1 yX1_passNightOf wsX1_passNightOf) := goodIn_app (goodIn_of _ (by decide +kernel)) ggX4_roll_X1_passNightOf
theorem dX4_roll_0 : decode cX4_roll 0 = .ok (.aload_n 0, 1) := by decide +kernel
theorem dX4_roll_1 : decode cX4_roll 1 = .ok (.iload_n 1, 1) := by decide +kernel
theorem dX4_roll_2 : decode cX4_roll 2 = .ok (.invokevirtual 107, 3) := by decide +kernel
theorem dX4_roll_5 : decode cX4_roll 5 = .ok (.ifCond .eq 11, 3) := by decide +kernel
theorem dX4_roll_8 : decode cX4_roll 8 = .ok (.aload_n 0, 1) := by decide +kernel
theorem dX4_roll_9 : decode cX4_roll 9 = .ok (.iload_n 2, 1) := by decide +kernel
theorem dX4_roll_10 : decode cX4_roll 10 = .ok (.invokevirtual 96, 3) := by decide +kernel
theorem dX4_roll_13 : decode cX4_roll 13 = .ok (.ifCond .ne 6, 3) := by decide +kernel
theorem dX4_roll_16 : decode cX4_roll 16 = .ok (.bipush (-2), 2) := by decide +kernel
theorem dX4_roll_18 : decode cX4_roll 18 = .ok (.ireturn, 1) := by decide +kernel
theorem dX4_roll_19 : decode cX4_roll 19 = .ok (.aload_n 0, 1) := by decide +kernel
theorem dX4_roll_20 : decode cX4_roll 20 = .ok (.getfield 31, 3) := by decide +kernel
theorem dX4_roll_23 : decode cX4_roll 23 = .ok (.iload_n 1, 1) := by decide +kernel
theorem dX4_roll_24 : decode cX4_roll 24 = .ok (.iload_n 2, 1) := by decide +kernel
theorem dX4_roll_25 : decode cX4_roll 25 = .ok (.invokevirtual 137, 3) := by decide +kernel
theorem dX4_roll_28 : decode cX4_roll 28 = .ok (.ifCond .ne 6, 3) := by decide +kernel
theorem dX4_roll_31 : decode cX4_roll 31 = .ok (.bipush (-4), 2) := by decide +kernel
theorem dX4_roll_33 : decode cX4_roll 33 = .ok (.ireturn, 1) := by decide +kernel
theorem dX4_roll_34 : decode cX4_roll 34 = .ok (.aload_n 0, 1) := by decide +kernel
theorem dX4_roll_35 : decode cX4_roll 35 = .ok (.getfield 31, 3) := by decide +kernel
theorem dX4_roll_38 : decode cX4_roll 38 = .ok (.getfield 119, 3) := by decide +kernel
theorem dX4_roll_41 : decode cX4_roll 41 = .ok (.sipush 9999, 3) := by decide +kernel
theorem dX4_roll_44 : decode cX4_roll 44 = .ok (.if_icmp .lt 6, 3) := by decide +kernel
theorem dX4_roll_47 : decode cX4_roll 47 = .ok (.bipush (-5), 2) := by decide +kernel
theorem dX4_roll_49 : decode cX4_roll 49 = .ok (.ireturn, 1) := by decide +kernel
theorem dX4_roll_50 : decode cX4_roll 50 = .ok (.aload_n 0, 1) := by decide +kernel
theorem dX4_roll_51 : decode cX4_roll 51 = .ok (.getfield 31, 3) := by decide +kernel
theorem dX4_roll_54 : decode cX4_roll 54 = .ok (.iload_n 1, 1) := by decide +kernel
theorem dX4_roll_55 : decode cX4_roll 55 = .ok (.iload_n 2, 1) := by decide +kernel
theorem dX4_roll_56 : decode cX4_roll 56 = .ok (.aload_n 0, 1) := by decide +kernel
theorem dX4_roll_57 : decode cX4_roll 57 = .ok (.getfield 12, 3) := by decide +kernel
theorem dX4_roll_60 : decode cX4_roll 60 = .ok (.getfield 130, 3) := by decide +kernel
theorem dX4_roll_63 : decode cX4_roll 63 = .ok (.invokevirtual 140, 3) := by decide +kernel
theorem dX4_roll_66 : decode cX4_roll 66 = .ok (.aload_n 0, 1) := by decide +kernel
theorem dX4_roll_67 : decode cX4_roll 67 = .ok (.getfield 31, 3) := by decide +kernel
theorem dX4_roll_70 : decode cX4_roll 70 = .ok (.getfield 119, 3) := by decide +kernel
theorem dX4_roll_73 : decode cX4_roll 73 = .ok (.ireturn, 1) := by decide +kernel
set_option maxRecDepth 20000 in
theorem ggX4_keep_X1_copyFrom : GoodIn wsX4_keep wsX1_copyFrom := goodIn_r _ [9, 10, 11, 12, 13, 14, 15, 16, 17, 18, 19, 20, 35, 36, 37, 38, 39, 40, 41, 42, 43] (by decide +kernel) (by decide +kernel)
set_option maxRecDepth 20000 in
theorem gX4_keep_X1_copyFrom : GoodIn wsX4_keep (wsV RX4 144 RX1 yX1_copyFrom wsX1_copyFrom) := goodIn_app (goodIn_of _ (by decide +kernel)) ggX4_keep_X1_copyFrom
theorem dX4_keep_0 : decode cX4_keep 0 = .ok (.iload_n 1, 1) := by decide +kernel
theorem dX4_keep_1 : decode cX4_keep 1 = .ok (.ifCond .lt 8, 3) := by decide +kernel
theorem dX4_keep_4 : decode cX4_keep 4 = .ok (.iload_n 1, 1) := by decide +kernel
theorem dX4_keep_5 : decode cX4_keep 5 = .ok (.iconst 2, 1) := by decide +kernel
theorem dX4_keep_6 : decode cX4_keep 6 = .ok (.if_icmp .lt 6, 3) := by decide +kernel
theorem dX4_keep_9 : decode cX4_keep 9 = .ok (.bipush (-2), 2) := by decide +kernel
theorem dX4_keep_11 : decode cX4_keep 11 = .ok (.ireturn, 1) := by decide +kernel
theorem dX4_keep_12 : decode cX4_keep 12 = .ok (.aload_n 0, 1) := by decide +kernel
theorem dX4_keep_13 : decode cX4_keep 13 = .ok (.getfield 38, 3) := by decide +kernel
theorem dX4_keep_16 : decode cX4_keep 16 = .ok (.iload_n 1, 1) := by decide +kernel
theorem dX4_keep_17 : decode cX4_keep 17 = .ok (.aaload, 1) := by decide +kernel
theorem dX4_keep_18 : decode cX4_keep 18 = .ok (.aload_n 0, 1) := by decide +kernel
theorem dX4_keep_19 : decode cX4_keep 19 = .ok (.getfield 31, 3) := by decide +kernel
theorem dX4_keep_22 : decode cX4_keep 22 = .ok (.invokevirtual 144, 3) := by decide +kernel
theorem dX4_keep_25 : decode cX4_keep 25 = .ok (.aload_n 0, 1) := by decide +kernel
theorem dX4_keep_26 : decode cX4_keep 26 = .ok (.getfield 42, 3) := by decide +kernel
theorem dX4_keep_29 : decode cX4_keep 29 = .ok (.iload_n 1, 1) := by decide +kernel
theorem dX4_keep_30 : decode cX4_keep 30 = .ok (.iconst 1, 1) := by decide +kernel
theorem dX4_keep_31 : decode cX4_keep 31 = .ok (.bastore, 1) := by decide +kernel
theorem dX4_keep_32 : decode cX4_keep 32 = .ok (.aload_n 0, 1) := by decide +kernel
theorem dX4_keep_33 : decode cX4_keep 33 = .ok (.getfield 31, 3) := by decide +kernel
theorem dX4_keep_36 : decode cX4_keep 36 = .ok (.getfield 119, 3) := by decide +kernel
theorem dX4_keep_39 : decode cX4_keep 39 = .ok (.ireturn, 1) := by decide +kernel
set_option maxRecDepth 20000 in
theorem ggX4_back_X1_copyFrom : GoodIn wsX4_back wsX1_copyFrom := goodIn_r _ [9, 10, 11, 12, 13, 14, 15, 16, 17, 18, 19, 20, 35, 36, 37, 38, 39, 40, 41, 42, 43] (by decide +kernel) (by decide +kernel)
set_option maxRecDepth 20000 in
theorem gX4_back_X1_copyFrom : GoodIn wsX4_back (wsV RX4 144 RX1 yX1_copyFrom wsX1_copyFrom) := goodIn_app (goodIn_of _ (by decide +kernel)) ggX4_back_X1_copyFrom
theorem dX4_back_0 : decode cX4_back 0 = .ok (.iload_n 1, 1) := by decide +kernel
theorem dX4_back_1 : decode cX4_back 1 = .ok (.ifCond .lt 8, 3) := by decide +kernel
theorem dX4_back_4 : decode cX4_back 4 = .ok (.iload_n 1, 1) := by decide +kernel
theorem dX4_back_5 : decode cX4_back 5 = .ok (.iconst 2, 1) := by decide +kernel
theorem dX4_back_6 : decode cX4_back 6 = .ok (.if_icmp .lt 6, 3) := by decide +kernel
theorem dX4_back_9 : decode cX4_back 9 = .ok (.bipush (-2), 2) := by decide +kernel
theorem dX4_back_11 : decode cX4_back 11 = .ok (.ireturn, 1) := by decide +kernel
theorem dX4_back_12 : decode cX4_back 12 = .ok (.aload_n 0, 1) := by decide +kernel
theorem dX4_back_13 : decode cX4_back 13 = .ok (.getfield 42, 3) := by decide +kernel
theorem dX4_back_16 : decode cX4_back 16 = .ok (.iload_n 1, 1) := by decide +kernel
theorem dX4_back_17 : decode cX4_back 17 = .ok (.baload, 1) := by decide +kernel
theorem dX4_back_18 : decode cX4_back 18 = .ok (.ifCond .ne 6, 3) := by decide +kernel
theorem dX4_back_21 : decode cX4_back 21 = .ok (.bipush (-4), 2) := by decide +kernel
theorem dX4_back_23 : decode cX4_back 23 = .ok (.ireturn, 1) := by decide +kernel
theorem dX4_back_24 : decode cX4_back 24 = .ok (.aload_n 0, 1) := by decide +kernel
theorem dX4_back_25 : decode cX4_back 25 = .ok (.getfield 31, 3) := by decide +kernel
theorem dX4_back_28 : decode cX4_back 28 = .ok (.aload_n 0, 1) := by decide +kernel
theorem dX4_back_29 : decode cX4_back 29 = .ok (.getfield 38, 3) := by decide +kernel
theorem dX4_back_32 : decode cX4_back 32 = .ok (.iload_n 1, 1) := by decide +kernel
theorem dX4_back_33 : decode cX4_back 33 = .ok (.aaload, 1) := by decide +kernel
theorem dX4_back_34 : decode cX4_back 34 = .ok (.invokevirtual 144, 3) := by decide +kernel
theorem dX4_back_37 : decode cX4_back 37 = .ok (.aload_n 0, 1) := by decide +kernel
theorem dX4_back_38 : decode cX4_back 38 = .ok (.getfield 31, 3) := by decide +kernel
theorem dX4_back_41 : decode cX4_back 41 = .ok (.getfield 119, 3) := by decide +kernel
theorem dX4_back_44 : decode cX4_back 44 = .ok (.ireturn, 1) := by decide +kernel
set_option maxRecDepth 20000 in
theorem ggX4_later_X4_isHouse : GoodIn wsX4_later wsX4_isHouse := goodIn_r _ [10, 3, 11, 103, 104, 105, 106, 107, 108, 109, 110, 111, 112, 113, 114, 115, 116, 117, 118, 119, 120, 121, 122, 123, 124, 125, 126, 127, 128, 129] (by decide +kernel) (by decide +kernel)
set_option maxRecDepth 20000 in
theorem gX4_later_X4_isHouse : GoodIn wsX4_later (wsV RX4 107 RX4 yX4_isHouse wsX4_isHouse) := goodIn_app (goodIn_of _ (by decide +kernel)) ggX4_later_X4_isHouse
set_option maxRecDepth 20000 in
theorem ggX4_later_X1_copyFrom : GoodIn wsX4_later wsX1_copyFrom := goodIn_r _ [16, 17, 18, 19, 20, 21, 22, 23, 24, 25, 26, 27, 130, 131, 132, 133, 134, 135, 136, 137, 138] (by decide +kernel) (by decide +kernel)
set_option maxRecDepth 20000 in
theorem gX4_later_X1_copyFrom : GoodIn wsX4_later (wsV RX4 144 RX1 yX1_copyFrom wsX1_copyFrom) := goodIn_app (goodIn_of _ (by decide +kernel)) ggX4_later_X1_copyFrom
set_option maxRecDepth 20000 in
theorem ggX4_later_X1_passNight : GoodIn wsX4_later wsX1_passNight := goodIn_r _ [31, 24, 32, 33, 34, 35, 15, 36, 37, 38, 26, 39, 40, 41, 42, 43, 44, 27, 17, 45, 46, 47, 48, 49, 50, 51, 52, 53, 54, 55, 56, 57, 58, 23, 59, 60, 61, 62, 63, 64, 65, 66, 67, 68, 69, 70, 71, 72, 73, 74, 75, 76, 77, 22, 25, 78, 79, 80, 81, 82, 83, 84, 85, 86, 87, 88, 89, 90, 91, 92, 93, 94, 95, 96, 97, 98, 99, 100, 101, 102, 130, 131, 132, 133, 134, 135, 136, 137, 138, 117, 118, 119, 120, 121, 122, 123, 124, 125, 126, 127, 128, 129] (by decide +kernel) (by decide +kernel)
set_option maxRecDepth 20000 in
theorem gX4_later_X1_passNight : GoodIn wsX4_later (wsV RX4 133 RX1 yX1_passNight wsX1_passNight) := goodIn_app (goodIn_of _ (by decide +kernel)) ggX4_later_X1_passNight
theorem dX4_later_0 : decode cX4_later 0 = .ok (.aload_n 0, 1) := by decide +kernel
theorem dX4_later_1 : decode cX4_later 1 = .ok (.iload_n 1, 1) := by decide +kernel
theorem dX4_later_2 : decode cX4_later 2 = .ok (.invokevirtual 107, 3) := by decide +kernel
theorem dX4_later_5 : decode cX4_later 5 = .ok (.ifCond .ne 6, 3) := by decide +kernel
theorem dX4_later_8 : decode cX4_later 8 = .ok (.bipush (-2), 2) := by decide +kernel
theorem dX4_later_10 : decode cX4_later 10 = .ok (.ireturn, 1) := by decide +kernel
theorem dX4_later_11 : decode cX4_later 11 = .ok (.iload_n 2, 1) := by decide +kernel
theorem dX4_later_12 : decode cX4_later 12 = .ok (.ifCond .lt 9, 3) := by decide +kernel
theorem dX4_later_15 : decode cX4_later 15 = .ok (.iload_n 2, 1) := by decide +kernel
theorem dX4_later_16 : decode cX4_later 16 = .ok (.bipush 99, 2) := by decide +kernel
theorem dX4_later_18 : decode cX4_later 18 = .ok (.if_icmp .le 6, 3) := by decide +kernel
theorem dX4_later_21 : decode cX4_later 21 = .ok (.bipush (-3), 2) := by decide +kernel
theorem dX4_later_23 : decode cX4_later 23 = .ok (.ireturn, 1) := by decide +kernel
theorem dX4_later_24 : decode cX4_later 24 = .ok (.aload_n 0, 1) := by decide +kernel
theorem dX4_later_25 : decode cX4_later 25 = .ok (.getfield 35, 3) := by decide +kernel
theorem dX4_later_28 : decode cX4_later 28 = .ok (.aload_n 0, 1) := by decide +kernel
theorem dX4_later_29 : decode cX4_later 29 = .ok (.getfield 31, 3) := by decide +kernel
theorem dX4_later_32 : decode cX4_later 32 = .ok (.invokevirtual 144, 3) := by decide +kernel
theorem dX4_later_35 : decode cX4_later 35 = .ok (.iconst 0, 1) := by decide +kernel
theorem dX4_later_36 : decode cX4_later 36 = .ok (.istore_n 3, 1) := by decide +kernel
theorem dX4_later_37 : decode cX4_later 37 = .ok (.iload_n 3, 1) := by decide +kernel
theorem dX4_later_38 : decode cX4_later 38 = .ok (.iload_n 2, 1) := by decide +kernel
theorem dX4_later_39 : decode cX4_later 39 = .ok (.if_icmp .ge 23, 3) := by decide +kernel
theorem dX4_later_42 : decode cX4_later 42 = .ok (.aload_n 0, 1) := by decide +kernel
theorem dX4_later_43 : decode cX4_later 43 = .ok (.getfield 35, 3) := by decide +kernel
theorem dX4_later_46 : decode cX4_later 46 = .ok (.aload_n 0, 1) := by decide +kernel
theorem dX4_later_47 : decode cX4_later 47 = .ok (.getfield 12, 3) := by decide +kernel
theorem dX4_later_50 : decode cX4_later 50 = .ok (.getfield 130, 3) := by decide +kernel
theorem dX4_later_53 : decode cX4_later 53 = .ok (.invokevirtual 133, 3) := by decide +kernel
theorem dX4_later_56 : decode cX4_later 56 = .ok (.iinc 3 1, 3) := by decide +kernel
theorem dX4_later_59 : decode cX4_later 59 = .ok (.goto (-22), 3) := by decide +kernel
theorem dX4_later_62 : decode cX4_later 62 = .ok (.aload_n 0, 1) := by decide +kernel
theorem dX4_later_63 : decode cX4_later 63 = .ok (.getfield 35, 3) := by decide +kernel
theorem dX4_later_66 : decode cX4_later 66 = .ok (.getfield 113, 3) := by decide +kernel
theorem dX4_later_69 : decode cX4_later 69 = .ok (.iload_n 1, 1) := by decide +kernel
theorem dX4_later_70 : decode cX4_later 70 = .ok (.iaload, 1) := by decide +kernel
theorem dX4_later_71 : decode cX4_later 71 = .ok (.ireturn, 1) := by decide +kernel
set_option maxRecDepth 20000 in
theorem ggX4_round_X1_copyFrom : GoodIn wsX4_round wsX1_copyFrom := goodIn_r _ [10, 11, 12, 13, 14, 15, 16, 17, 18, 19, 20, 21, 145, 146, 147, 148, 149, 150, 151, 152, 153] (by decide +kernel) (by decide +kernel)
set_option maxRecDepth 20000 in
theorem gX4_round_X1_copyFrom : GoodIn wsX4_round (wsV RX4 144 RX1 yX1_copyFrom wsX1_copyFrom) := goodIn_app (goodIn_of _ (by decide +kernel)) ggX4_round_X1_copyFrom
set_option maxRecDepth 20000 in
theorem ggX4_round_X1_stateKey : GoodIn wsX4_round wsX1_stateKey := goodIn_r _ [25, 19, 20, 26, 27, 28, 9, 29, 30, 31, 11, 32, 33, 34, 35, 36, 37, 38, 39, 16, 145, 146, 147, 148, 149, 150, 151, 152, 153, 132, 133, 134, 135, 136, 137, 138, 139, 140, 141, 142, 143, 144] (by decide +kernel) (by decide +kernel)
set_option maxRecDepth 20000 in
theorem gX4_round_X1_stateKey : GoodIn wsX4_round (wsV RX4 146 RX1 yX1_stateKey wsX1_stateKey) := goodIn_app (goodIn_of _ (by decide +kernel)) ggX4_round_X1_stateKey
set_option maxRecDepth 20000 in
theorem ggX4_round_X4_firstNightWith : GoodIn wsX4_round wsX4_firstNightWith := goodIn_r _ [44, 5, 118, 119, 120, 121, 122, 123, 124, 125, 126, 127, 128, 129, 130, 131] (by decide +kernel) (by decide +kernel)
set_option maxRecDepth 20000 in
theorem gX4_round_X4_firstNightWith : GoodIn wsX4_round (wsV RX4 150 RX4 yX4_firstNightWith wsX4_firstNightWith) := goodIn_app (goodIn_of _ (by decide +kernel)) ggX4_round_X4_firstNightWith
set_option maxRecDepth 20000 in
theorem ggX4_round_X1_passNight : GoodIn wsX4_round wsX1_passNight := goodIn_r _ [48, 18, 49, 50, 51, 52, 9, 53, 30, 31, 20, 54, 55, 56, 57, 58, 59, 21, 11, 60, 61, 62, 63, 64, 65, 66, 67, 68, 69, 70, 71, 72, 73, 17, 74, 75, 76, 77, 78, 79, 80, 81, 82, 83, 84, 85, 86, 87, 88, 89, 90, 91, 92, 16, 19, 93, 94, 95, 96, 97, 98, 99, 100, 101, 102, 103, 104, 105, 106, 107, 108, 109, 110, 111, 112, 113, 114, 115, 116, 117, 145, 146, 147, 148, 149, 150, 151, 152, 153, 132, 133, 134, 135, 136, 137, 138, 139, 140, 141, 142, 143, 144] (by decide +kernel) (by decide +kernel)
set_option maxRecDepth 20000 in
theorem gX4_round_X1_passNight : GoodIn wsX4_round (wsV RX4 133 RX1 yX1_passNight wsX1_passNight) := goodIn_app (goodIn_of _ (by decide +kernel)) ggX4_round_X1_passNight
theorem dX4_round_0 : decode cX4_round 0 = .ok (.iload_n 1, 1) := by decide +kernel
theorem dX4_round_1 : decode cX4_round 1 = .ok (.ifCond .lt 8, 3) := by decide +kernel
theorem dX4_round_4 : decode cX4_round 4 = .ok (.iload_n 1, 1) := by decide +kernel
theorem dX4_round_5 : decode cX4_round 5 = .ok (.iconst 1, 1) := by decide +kernel
theorem dX4_round_6 : decode cX4_round 6 = .ok (.if_icmp .le 6, 3) := by decide +kernel
theorem dX4_round_9 : decode cX4_round 9 = .ok (.bipush (-3), 2) := by decide +kernel
theorem dX4_round_11 : decode cX4_round 11 = .ok (.ireturn, 1) := by decide +kernel
theorem dX4_round_12 : decode cX4_round 12 = .ok (.aload_n 0, 1) := by decide +kernel
theorem dX4_round_13 : decode cX4_round 13 = .ok (.getfield 35, 3) := by decide +kernel
theorem dX4_round_16 : decode cX4_round 16 = .ok (.aload_n 0, 1) := by decide +kernel
theorem dX4_round_17 : decode cX4_round 17 = .ok (.getfield 31, 3) := by decide +kernel
theorem dX4_round_20 : decode cX4_round 20 = .ok (.invokevirtual 144, 3) := by decide +kernel
theorem dX4_round_23 : decode cX4_round 23 = .ok (.iconst 0, 1) := by decide +kernel
theorem dX4_round_24 : decode cX4_round 24 = .ok (.istore_n 2, 1) := by decide +kernel
theorem dX4_round_25 : decode cX4_round 25 = .ok (.iload_n 2, 1) := by decide +kernel
theorem dX4_round_26 : decode cX4_round 26 = .ok (.sipush 500, 3) := by decide +kernel
theorem dX4_round_29 : decode cX4_round 29 = .ok (.if_icmp .gt 73, 3) := by decide +kernel
theorem dX4_round_32 : decode cX4_round 32 = .ok (.aload_n 0, 1) := by decide +kernel
theorem dX4_round_33 : decode cX4_round 33 = .ok (.getfield 35, 3) := by decide +kernel
theorem dX4_round_36 : decode cX4_round 36 = .ok (.aload_n 0, 1) := by decide +kernel
theorem dX4_round_37 : decode cX4_round 37 = .ok (.getfield 12, 3) := by decide +kernel
theorem dX4_round_40 : decode cX4_round 40 = .ok (.getfield 130, 3) := by decide +kernel
theorem dX4_round_43 : decode cX4_round 43 = .ok (.invokevirtual 146, 3) := by decide +kernel
theorem dX4_round_46 : decode cX4_round 46 = .ok (.lstore_n 3, 1) := by decide +kernel
theorem dX4_round_47 : decode cX4_round 47 = .ok (.aload_n 0, 1) := by decide +kernel
theorem dX4_round_48 : decode cX4_round 48 = .ok (.lload_n 3, 1) := by decide +kernel
theorem dX4_round_49 : decode cX4_round 49 = .ok (.iload_n 2, 1) := by decide +kernel
theorem dX4_round_50 : decode cX4_round 50 = .ok (.invokevirtual 150, 3) := by decide +kernel
theorem dX4_round_53 : decode cX4_round 53 = .ok (.istore 5, 2) := by decide +kernel
theorem dX4_round_55 : decode cX4_round 55 = .ok (.iload 5, 2) := by decide +kernel
theorem dX4_round_57 : decode cX4_round 57 = .ok (.iconst (-1), 1) := by decide +kernel
theorem dX4_round_58 : decode cX4_round 58 = .ok (.if_icmp .eq 17, 3) := by decide +kernel
theorem dX4_round_61 : decode cX4_round 61 = .ok (.iload_n 1, 1) := by decide +kernel
theorem dX4_round_62 : decode cX4_round 62 = .ok (.ifCond .ne 8, 3) := by decide +kernel
theorem dX4_round_65 : decode cX4_round 65 = .ok (.iload 5, 2) := by decide +kernel
theorem dX4_round_67 : decode cX4_round 67 = .ok (.goto 7, 3) := by decide +kernel
theorem dX4_round_70 : decode cX4_round 70 = .ok (.iload_n 2, 1) := by decide +kernel
theorem dX4_round_71 : decode cX4_round 71 = .ok (.iload 5, 2) := by decide +kernel
theorem dX4_round_73 : decode cX4_round 73 = .ok (.isub, 1) := by decide +kernel
theorem dX4_round_74 : decode cX4_round 74 = .ok (.ireturn, 1) := by decide +kernel
theorem dX4_round_75 : decode cX4_round 75 = .ok (.aload_n 0, 1) := by decide +kernel
theorem dX4_round_76 : decode cX4_round 76 = .ok (.getfield 59, 3) := by decide +kernel
theorem dX4_round_79 : decode cX4_round 79 = .ok (.iload_n 2, 1) := by decide +kernel
theorem dX4_round_80 : decode cX4_round 80 = .ok (.lload_n 3, 1) := by decide +kernel
theorem dX4_round_81 : decode cX4_round 81 = .ok (.lastore, 1) := by decide +kernel
theorem dX4_round_82 : decode cX4_round 82 = .ok (.aload_n 0, 1) := by decide +kernel
theorem dX4_round_83 : decode cX4_round 83 = .ok (.getfield 35, 3) := by decide +kernel
theorem dX4_round_86 : decode cX4_round 86 = .ok (.aload_n 0, 1) := by decide +kernel
theorem dX4_round_87 : decode cX4_round 87 = .ok (.getfield 12, 3) := by decide +kernel
theorem dX4_round_90 : decode cX4_round 90 = .ok (.getfield 130, 3) := by decide +kernel
theorem dX4_round_93 : decode cX4_round 93 = .ok (.invokevirtual 133, 3) := by decide +kernel
theorem dX4_round_96 : decode cX4_round 96 = .ok (.iinc 2 1, 3) := by decide +kernel
theorem dX4_round_99 : decode cX4_round 99 = .ok (.goto (-74), 3) := by decide +kernel
theorem dX4_round_102 : decode cX4_round 102 = .ok (.iconst (-1), 1) := by decide +kernel
theorem dX4_round_103 : decode cX4_round 103 = .ok (.ireturn, 1) := by decide +kernel
set_option maxRecDepth 20000 in
theorem ggX4_touch_X4_refusePair : GoodIn wsX4_touch wsX4_refusePair := goodIn_r _ [6, 7, 8, 9, 5, 10, 11, 12, 56, 57, 58, 59, 60, 61, 62, 63, 64, 65, 66, 67, 68, 69, 70, 71, 72, 73, 74, 75, 76, 77, 78, 79, 80, 81, 82] (by decide +kernel) (by decide +kernel)
set_option maxRecDepth 20000 in
theorem gX4_touch_X4_refusePair : GoodIn wsX4_touch (wsV RX4 154 RX4 yX4_refusePair wsX4_refusePair) := goodIn_app (goodIn_of _ (by decide +kernel)) ggX4_touch_X4_refusePair
set_option maxRecDepth 20000 in
theorem ggX4_touch_X1_meets : GoodIn wsX4_touch wsX1_meets := goodIn_r _ [17, 18, 19, 20, 16, 21, 22, 23, 24, 25, 26, 27, 28, 29, 30, 31, 32, 33, 34, 35, 36, 37, 38, 39, 40, 41, 42, 43, 44, 45, 46, 47, 48, 49, 50, 51, 52, 53, 54, 55, 83, 84, 85, 86, 87, 88, 89, 90, 91, 70, 71, 72, 73, 74, 75, 76, 77, 78, 79, 80, 81, 82] (by decide +kernel) (by decide +kernel)
set_option maxRecDepth 20000 in
theorem gX4_touch_X1_meets : GoodIn wsX4_touch (wsV RX4 158 RX1 yX1_meets wsX1_meets) := goodIn_app (goodIn_of _ (by decide +kernel)) ggX4_touch_X1_meets
theorem dX4_touch_0 : decode cX4_touch 0 = .ok (.aload_n 0, 1) := by decide +kernel
theorem dX4_touch_1 : decode cX4_touch 1 = .ok (.iload_n 1, 1) := by decide +kernel
theorem dX4_touch_2 : decode cX4_touch 2 = .ok (.iload_n 2, 1) := by decide +kernel
theorem dX4_touch_3 : decode cX4_touch 3 = .ok (.iload_n 3, 1) := by decide +kernel
theorem dX4_touch_4 : decode cX4_touch 4 = .ok (.invokevirtual 154, 3) := by decide +kernel
theorem dX4_touch_7 : decode cX4_touch 7 = .ok (.istore 4, 2) := by decide +kernel
theorem dX4_touch_9 : decode cX4_touch 9 = .ok (.iload 4, 2) := by decide +kernel
theorem dX4_touch_11 : decode cX4_touch 11 = .ok (.ifCond .eq 6, 3) := by decide +kernel
theorem dX4_touch_14 : decode cX4_touch 14 = .ok (.iload 4, 2) := by decide +kernel
theorem dX4_touch_16 : decode cX4_touch 16 = .ok (.ireturn, 1) := by decide +kernel
theorem dX4_touch_17 : decode cX4_touch 17 = .ok (.aload_n 0, 1) := by decide +kernel
theorem dX4_touch_18 : decode cX4_touch 18 = .ok (.getfield 31, 3) := by decide +kernel
theorem dX4_touch_21 : decode cX4_touch 21 = .ok (.iload_n 1, 1) := by decide +kernel
theorem dX4_touch_22 : decode cX4_touch 22 = .ok (.iload_n 2, 1) := by decide +kernel
theorem dX4_touch_23 : decode cX4_touch 23 = .ok (.iload_n 3, 1) := by decide +kernel
theorem dX4_touch_24 : decode cX4_touch 24 = .ok (.invokevirtual 158, 3) := by decide +kernel
theorem dX4_touch_27 : decode cX4_touch 27 = .ok (.ifCond .eq 7, 3) := by decide +kernel
theorem dX4_touch_30 : decode cX4_touch 30 = .ok (.iconst 1, 1) := by decide +kernel
theorem dX4_touch_31 : decode cX4_touch 31 = .ok (.goto 4, 3) := by decide +kernel
theorem dX4_touch_34 : decode cX4_touch 34 = .ok (.iconst 0, 1) := by decide +kernel
theorem dX4_touch_35 : decode cX4_touch 35 = .ok (.ireturn, 1) := by decide +kernel
set_option maxRecDepth 20000 in
theorem ggX4_when_X4_refusePair : GoodIn wsX4_when wsX4_refusePair := goodIn_r _ [7, 8, 9, 10, 6, 11, 12, 13, 135, 136, 137, 138, 139, 140, 141, 142, 143, 144, 145, 146, 147, 148, 149, 150, 151, 152, 153, 154, 155, 156, 157, 158, 159, 160, 161] (by decide +kernel) (by decide +kernel)
set_option maxRecDepth 20000 in
theorem gX4_when_X4_refusePair : GoodIn wsX4_when (wsV RX4 154 RX4 yX4_refusePair wsX4_refusePair) := goodIn_app (goodIn_of _ (by decide +kernel)) ggX4_when_X4_refusePair
set_option maxRecDepth 20000 in
theorem ggX4_when_X1_copyFrom : GoodIn wsX4_when wsX1_copyFrom := goodIn_r _ [18, 19, 20, 21, 22, 23, 24, 25, 26, 27, 28, 29, 162, 163, 164, 165, 166, 167, 168, 169, 170] (by decide +kernel) (by decide +kernel)
set_option maxRecDepth 20000 in
theorem gX4_when_X1_copyFrom : GoodIn wsX4_when (wsV RX4 144 RX1 yX1_copyFrom wsX1_copyFrom) := goodIn_app (goodIn_of _ (by decide +kernel)) ggX4_when_X1_copyFrom
set_option maxRecDepth 20000 in
theorem ggX4_when_X4_firstMeeting : GoodIn wsX4_when wsX4_firstMeeting := goodIn_r _ [33, 1, 12, 34, 35, 36, 37, 17, 38, 39, 40, 41, 42, 43, 44, 45, 46, 47, 48, 19, 49, 50, 51, 52, 53, 54, 55, 56, 57, 58, 59, 60, 61, 62, 63, 64, 65, 66, 67, 68, 69, 70, 71, 72, 73, 74, 75, 76, 77, 78, 79, 26, 80, 81, 82, 83, 84, 85, 28, 86, 87, 88, 89, 90, 29, 91, 92, 93, 94, 95, 96, 97, 98, 99, 25, 100, 101, 102, 103, 104, 105, 106, 107, 108, 109, 110, 111, 112, 113, 114, 115, 116, 117, 118, 24, 27, 119, 120, 121, 122, 123, 124, 125, 126, 127, 128, 129, 130, 131, 132, 133, 134, 135, 136, 137, 138, 139, 140, 141, 142, 143, 144, 145, 146, 147, 148, 149, 150, 151, 152, 153, 154, 155, 156, 157, 158, 159, 160, 161, 162, 163, 164, 165, 166, 167, 168, 169, 170] (by decide +kernel) (by decide +kernel)
set_option maxRecDepth 20000 in
theorem gX4_when_X4_firstMeeting : GoodIn wsX4_when (wsV RX4 162 RX4 yX4_firstMeeting wsX4_firstMeeting) := goodIn_app (goodIn_of _ (by decide +kernel)) ggX4_when_X4_firstMeeting
theorem dX4_when_0 : decode cX4_when 0 = .ok (.aload_n 0, 1) := by decide +kernel
theorem dX4_when_1 : decode cX4_when 1 = .ok (.iload_n 1, 1) := by decide +kernel
theorem dX4_when_2 : decode cX4_when 2 = .ok (.iload_n 2, 1) := by decide +kernel
theorem dX4_when_3 : decode cX4_when 3 = .ok (.iload_n 3, 1) := by decide +kernel
theorem dX4_when_4 : decode cX4_when 4 = .ok (.invokevirtual 154, 3) := by decide +kernel
theorem dX4_when_7 : decode cX4_when 7 = .ok (.istore 4, 2) := by decide +kernel
theorem dX4_when_9 : decode cX4_when 9 = .ok (.iload 4, 2) := by decide +kernel
theorem dX4_when_11 : decode cX4_when 11 = .ok (.ifCond .eq 6, 3) := by decide +kernel
theorem dX4_when_14 : decode cX4_when 14 = .ok (.iload 4, 2) := by decide +kernel
theorem dX4_when_16 : decode cX4_when 16 = .ok (.ireturn, 1) := by decide +kernel
theorem dX4_when_17 : decode cX4_when 17 = .ok (.aload_n 0, 1) := by decide +kernel
theorem dX4_when_18 : decode cX4_when 18 = .ok (.getfield 35, 3) := by decide +kernel
theorem dX4_when_21 : decode cX4_when 21 = .ok (.aload_n 0, 1) := by decide +kernel
theorem dX4_when_22 : decode cX4_when 22 = .ok (.getfield 31, 3) := by decide +kernel
theorem dX4_when_25 : decode cX4_when 25 = .ok (.invokevirtual 144, 3) := by decide +kernel
