theorem dX5_often_28 : decode cX5_often 28 = .ok (.istore 5, 2) := by decide +kernel
theorem dX5_often_30 : decode cX5_often 30 = .ok (.iload 5, 2) := by decide +kernel
theorem dX5_often_32 : decode cX5_often 32 = .ok (.ifCond .eq 6, 3) := by decide +kernel
theorem dX5_often_35 : decode cX5_often 35 = .ok (.iload 5, 2) := by decide +kernel
theorem dX5_often_37 : decode cX5_often 37 = .ok (.ireturn, 1) := by decide +kernel
theorem dX5_often_38 : decode cX5_often 38 = .ok (.aload_n 0, 1) := by decide +kernel
theorem dX5_often_39 : decode cX5_often 39 = .ok (.invokevirtual 266, 3) := by decide +kernel
theorem dX5_often_42 : decode cX5_often 42 = .ok (.iconst 0, 1) := by decide +kernel
theorem dX5_often_43 : decode cX5_often 43 = .ok (.istore 6, 2) := by decide +kernel
theorem dX5_often_45 : decode cX5_often 45 = .ok (.iconst 0, 1) := by decide +kernel
theorem dX5_often_46 : decode cX5_often 46 = .ok (.istore 7, 2) := by decide +kernel
theorem dX5_often_48 : decode cX5_often 48 = .ok (.iload 7, 2) := by decide +kernel
theorem dX5_often_50 : decode cX5_often 50 = .ok (.iload 4, 2) := by decide +kernel
theorem dX5_often_52 : decode cX5_often 52 = .ok (.if_icmp .ge 33, 3) := by decide +kernel
theorem dX5_often_55 : decode cX5_often 55 = .ok (.iload 6, 2) := by decide +kernel
theorem dX5_often_57 : decode cX5_often 57 = .ok (.aload_n 0, 1) := by decide +kernel
theorem dX5_often_58 : decode cX5_often 58 = .ok (.iload_n 1, 1) := by decide +kernel
theorem dX5_often_59 : decode cX5_often 59 = .ok (.iload_n 2, 1) := by decide +kernel
theorem dX5_often_60 : decode cX5_often 60 = .ok (.iload_n 3, 1) := by decide +kernel
theorem dX5_often_61 : decode cX5_often 61 = .ok (.invokevirtual 292, 3) := by decide +kernel
theorem dX5_often_64 : decode cX5_often 64 = .ok (.ifCond .eq 7, 3) := by decide +kernel
theorem dX5_often_67 : decode cX5_often 67 = .ok (.iconst 1, 1) := by decide +kernel
theorem dX5_often_68 : decode cX5_often 68 = .ok (.goto 4, 3) := by decide +kernel
theorem dX5_often_71 : decode cX5_often 71 = .ok (.iconst 0, 1) := by decide +kernel
theorem dX5_often_72 : decode cX5_often 72 = .ok (.iadd, 1) := by decide +kernel
theorem dX5_often_73 : decode cX5_often 73 = .ok (.istore 6, 2) := by decide +kernel
theorem dX5_often_75 : decode cX5_often 75 = .ok (.aload_n 0, 1) := by decide +kernel
theorem dX5_often_76 : decode cX5_often 76 = .ok (.invokevirtual 259, 3) := by decide +kernel
theorem dX5_often_79 : decode cX5_often 79 = .ok (.iinc 7 1, 3) := by decide +kernel
theorem dX5_often_82 : decode cX5_often 82 = .ok (.goto (-34), 3) := by decide +kernel
theorem dX5_often_85 : decode cX5_often 85 = .ok (.aload_n 0, 1) := by decide +kernel
theorem dX5_often_86 : decode cX5_often 86 = .ok (.invokevirtual 269, 3) := by decide +kernel
theorem dX5_often_89 : decode cX5_often 89 = .ok (.iload 6, 2) := by decide +kernel
theorem dX5_often_91 : decode cX5_often 91 = .ok (.ireturn, 1) := by decide +kernel
set_option maxRecDepth 20000 in
theorem ggX5_brings_X5_isHouse : GoodIn wsX5_brings wsX5_isHouse := goodIn_r _ [7, 8, 9, 10, 6, 11, 75, 76, 77, 78, 79, 80, 81, 82, 83, 84, 85, 86, 87, 88, 89, 90, 91, 92, 93, 94, 95, 96, 97, 98, 99, 100, 101, 102, 103, 104, 105, 106, 107, 108, 109, 110, 111, 112, 113, 114] (by decide +kernel) (by decide +kernel)
set_option maxRecDepth 20000 in
theorem gX5_brings_X5_isHouse : GoodIn wsX5_brings (wsV RX5 239 RX5 yX5_isHouse wsX5_isHouse) := goodIn_app (goodIn_of _ (by decide +kernel)) ggX5_brings_X5_isHouse
set_option maxRecDepth 20000 in
theorem ggX5_brings_X5_areDays : GoodIn wsX5_brings wsX5_areDays := goodIn_r _ [14, 9, 10, 6, 11] (by decide +kernel) (by decide +kernel)
set_option maxRecDepth 20000 in
theorem gX5_brings_X5_areDays : GoodIn wsX5_brings (va_wsS RX5 295 yX5_areDays wsX5_areDays) := goodIn_app (goodIn_of _ (by decide +kernel)) ggX5_brings_X5_areDays
set_option maxRecDepth 20000 in
theorem ggX5_brings_X5_putAside : GoodIn wsX5_brings wsX5_putAside := goodIn_r _ [18, 19, 20, 21, 22, 23, 24, 6, 25, 75, 76, 77, 78, 79, 80, 81, 82, 83, 84, 85, 86, 87, 88, 89, 90, 91, 92, 93, 94, 95, 96, 97, 98, 99, 100, 101, 102, 103, 104, 105, 106, 107, 108, 109, 110, 111, 112, 113, 114] (by decide +kernel) (by decide +kernel)
set_option maxRecDepth 20000 in
theorem gX5_brings_X5_putAside : GoodIn wsX5_brings (wsV RX5 266 RX5 yX5_putAside wsX5_putAside) := goodIn_app (goodIn_of _ (by decide +kernel)) ggX5_brings_X5_putAside
set_option maxRecDepth 20000 in
theorem ggX5_brings_X5_standsOn : GoodIn wsX5_brings wsX5_standsOn := goodIn_r _ [29, 19, 30, 31, 32, 33, 6, 34, 1, 75, 76, 77, 78, 79, 80, 81, 82, 83, 84, 85, 86, 87, 88, 89, 90, 91, 92, 93, 94, 95, 96, 97, 98, 99, 100, 101, 102, 103, 104, 105, 106, 107, 108, 109, 110, 111, 112, 113, 114] (by decide +kernel) (by decide +kernel)
set_option maxRecDepth 20000 in
theorem gX5_brings_X5_standsOn : GoodIn wsX5_brings (wsV RX5 222 RX5 yX5_standsOn wsX5_standsOn) := goodIn_app (goodIn_of _ (by decide +kernel)) ggX5_brings_X5_standsOn
set_option maxRecDepth 20000 in
theorem ggX5_brings_X5_goNight : GoodIn wsX5_brings wsX5_goNight := goodIn_r _ [38, 22, 39, 19, 8, 40, 41, 42, 6, 43, 44, 45, 46, 47, 48, 49, 30, 50, 51, 52, 53, 54, 55, 31, 32, 33, 34, 1, 56, 57, 58, 59, 60, 61, 62, 63, 64, 65, 66, 67, 68, 69, 70, 75, 76, 77, 78, 79, 80, 81, 82, 83, 84, 85, 86, 87, 88, 89, 90, 91, 92, 93, 94, 95, 96, 97, 98, 99, 100, 101, 102, 103, 104, 105, 106, 107, 108, 109, 110, 111, 112, 113, 114] (by decide +kernel) (by decide +kernel)
set_option maxRecDepth 20000 in
theorem gX5_brings_X5_goNight : GoodIn wsX5_brings (wsV RX5 259 RX5 yX5_goNight wsX5_goNight) := goodIn_app (goodIn_of _ (by decide +kernel)) ggX5_brings_X5_goNight
set_option maxRecDepth 20000 in
theorem ggX5_brings_X5_putBack : GoodIn wsX5_brings wsX5_putBack := goodIn_r _ [74, 20, 19, 23, 24, 6, 25, 75, 76, 77, 78, 79, 80, 81, 82, 83, 84, 85, 86, 87, 88, 89, 90, 91, 92, 93, 94, 95, 96, 97, 98, 99, 100, 101, 102, 103, 104, 105, 106, 107, 108, 109, 110, 111, 112, 113, 114] (by decide +kernel) (by decide +kernel)
set_option maxRecDepth 20000 in
theorem gX5_brings_X5_putBack : GoodIn wsX5_brings (wsV RX5 269 RX5 yX5_putBack wsX5_putBack) := goodIn_app (goodIn_of _ (by decide +kernel)) ggX5_brings_X5_putBack
theorem dX5_brings_0 : decode cX5_brings 0 = .ok (.aload_n 0, 1) := by decide +kernel
theorem dX5_brings_1 : decode cX5_brings 1 = .ok (.iload_n 1, 1) := by decide +kernel
theorem dX5_brings_2 : decode cX5_brings 2 = .ok (.invokevirtual 239, 3) := by decide +kernel
theorem dX5_brings_5 : decode cX5_brings 5 = .ok (.ifCond .ne 6, 3) := by decide +kernel
theorem dX5_brings_8 : decode cX5_brings 8 = .ok (.bipush (-2), 2) := by decide +kernel
theorem dX5_brings_10 : decode cX5_brings 10 = .ok (.ireturn, 1) := by decide +kernel
theorem dX5_brings_11 : decode cX5_brings 11 = .ok (.iload_n 2, 1) := by decide +kernel
theorem dX5_brings_12 : decode cX5_brings 12 = .ok (.invokestatic 295, 3) := by decide +kernel
theorem dX5_brings_15 : decode cX5_brings 15 = .ok (.ifCond .ne 6, 3) := by decide +kernel
theorem dX5_brings_18 : decode cX5_brings 18 = .ok (.bipush (-3), 2) := by decide +kernel
theorem dX5_brings_20 : decode cX5_brings 20 = .ok (.ireturn, 1) := by decide +kernel
theorem dX5_brings_21 : decode cX5_brings 21 = .ok (.aload_n 0, 1) := by decide +kernel
theorem dX5_brings_22 : decode cX5_brings 22 = .ok (.invokevirtual 266, 3) := by decide +kernel
theorem dX5_brings_25 : decode cX5_brings 25 = .ok (.iconst 0, 1) := by decide +kernel
theorem dX5_brings_26 : decode cX5_brings 26 = .ok (.istore_n 3, 1) := by decide +kernel
theorem dX5_brings_27 : decode cX5_brings 27 = .ok (.iconst 0, 1) := by decide +kernel
theorem dX5_brings_28 : decode cX5_brings 28 = .ok (.istore 4, 2) := by decide +kernel
theorem dX5_brings_30 : decode cX5_brings 30 = .ok (.iload 4, 2) := by decide +kernel
theorem dX5_brings_32 : decode cX5_brings 32 = .ok (.iload_n 2, 1) := by decide +kernel
theorem dX5_brings_33 : decode cX5_brings 33 = .ok (.if_icmp .ge 55, 3) := by decide +kernel
theorem dX5_brings_36 : decode cX5_brings 36 = .ok (.iconst 0, 1) := by decide +kernel
theorem dX5_brings_37 : decode cX5_brings 37 = .ok (.istore 5, 2) := by decide +kernel
theorem dX5_brings_39 : decode cX5_brings 39 = .ok (.iload 5, 2) := by decide +kernel
theorem dX5_brings_41 : decode cX5_brings 41 = .ok (.aload_n 0, 1) := by decide +kernel
theorem dX5_brings_42 : decode cX5_brings 42 = .ok (.getfield 7, 3) := by decide +kernel
theorem dX5_brings_45 : decode cX5_brings 45 = .ok (.if_icmp .ge 33, 3) := by decide +kernel
theorem dX5_brings_48 : decode cX5_brings 48 = .ok (.iload_n 3, 1) := by decide +kernel
theorem dX5_brings_49 : decode cX5_brings 49 = .ok (.aload_n 0, 1) := by decide +kernel
theorem dX5_brings_50 : decode cX5_brings 50 = .ok (.iload_n 1, 1) := by decide +kernel
theorem dX5_brings_51 : decode cX5_brings 51 = .ok (.iload 5, 2) := by decide +kernel
theorem dX5_brings_53 : decode cX5_brings 53 = .ok (.invokevirtual 222, 3) := by decide +kernel
theorem dX5_brings_56 : decode cX5_brings 56 = .ok (.ifCond .eq 13, 3) := by decide +kernel
theorem dX5_brings_59 : decode cX5_brings 59 = .ok (.aload_n 0, 1) := by decide +kernel
theorem dX5_brings_60 : decode cX5_brings 60 = .ok (.getfield 13, 3) := by decide +kernel
theorem dX5_brings_63 : decode cX5_brings 63 = .ok (.iload 5, 2) := by decide +kernel
theorem dX5_brings_65 : decode cX5_brings 65 = .ok (.iaload, 1) := by decide +kernel
theorem dX5_brings_66 : decode cX5_brings 66 = .ok (.goto 4, 3) := by decide +kernel
theorem dX5_brings_69 : decode cX5_brings 69 = .ok (.iconst 0, 1) := by decide +kernel
theorem dX5_brings_70 : decode cX5_brings 70 = .ok (.iadd, 1) := by decide +kernel
theorem dX5_brings_71 : decode cX5_brings 71 = .ok (.istore_n 3, 1) := by decide +kernel
theorem dX5_brings_72 : decode cX5_brings 72 = .ok (.iinc 5 1, 3) := by decide +kernel
theorem dX5_brings_75 : decode cX5_brings 75 = .ok (.goto (-36), 3) := by decide +kernel
theorem dX5_brings_78 : decode cX5_brings 78 = .ok (.aload_n 0, 1) := by decide +kernel
theorem dX5_brings_79 : decode cX5_brings 79 = .ok (.invokevirtual 259, 3) := by decide +kernel
theorem dX5_brings_82 : decode cX5_brings 82 = .ok (.iinc 4 1, 3) := by decide +kernel
theorem dX5_brings_85 : decode cX5_brings 85 = .ok (.goto (-55), 3) := by decide +kernel
theorem dX5_brings_88 : decode cX5_brings 88 = .ok (.aload_n 0, 1) := by decide +kernel
theorem dX5_brings_89 : decode cX5_brings 89 = .ok (.invokevirtual 269, 3) := by decide +kernel
theorem dX5_brings_92 : decode cX5_brings 92 = .ok (.iload_n 3, 1) := by decide +kernel
theorem dX5_brings_93 : decode cX5_brings 93 = .ok (.ireturn, 1) := by decide +kernel
set_option maxRecDepth 20000 in
theorem ggX5_feuding_X5_areDays : GoodIn wsX5_feuding wsX5_areDays := goodIn_r _ [6, 7, 8, 5, 9] (by decide +kernel) (by decide +kernel)
set_option maxRecDepth 20000 in
theorem gX5_feuding_X5_areDays : GoodIn wsX5_feuding (va_wsS RX5 295 yX5_areDays wsX5_areDays) := goodIn_app (goodIn_of _ (by decide +kernel)) ggX5_feuding_X5_areDays
set_option maxRecDepth 20000 in
theorem ggX5_feuding_X5_putAside : GoodIn wsX5_feuding wsX5_putAside := goodIn_r _ [13, 14, 15, 16, 17, 18, 19, 5, 20, 76, 77, 78, 79, 80, 81, 82, 83, 84, 85, 86, 87, 88, 89, 90, 91, 92, 93, 94, 95, 96, 97, 98, 99, 100, 101, 102, 103, 104, 105, 106, 107, 108, 109, 110, 111, 112, 113, 114, 115] (by decide +kernel) (by decide +kernel)
set_option maxRecDepth 20000 in
theorem gX5_feuding_X5_putAside : GoodIn wsX5_feuding (wsV RX5 266 RX5 yX5_putAside wsX5_putAside) := goodIn_app (goodIn_of _ (by decide +kernel)) ggX5_feuding_X5_putAside
set_option maxRecDepth 20000 in
theorem ggX5_feuding_X5_areBeside : GoodIn wsX5_feuding wsX5_areBeside := goodIn_r _ [24, 25, 26, 27, 28, 5, 29, 14, 30, 31, 32, 33, 34, 76, 77, 78, 79, 80, 81, 82, 83, 84, 85, 86, 87, 88, 89, 90, 91, 92, 93, 94, 95, 96, 97, 98, 99, 100, 101, 102, 103, 104, 105, 106, 107, 108, 109, 110, 111, 112, 113, 114, 115] (by decide +kernel) (by decide +kernel)
set_option maxRecDepth 20000 in
theorem gX5_feuding_X5_areBeside : GoodIn wsX5_feuding (wsV RX5 285 RX5 yX5_areBeside wsX5_areBeside) := goodIn_app (goodIn_of _ (by decide +kernel)) ggX5_feuding_X5_areBeside
set_option maxRecDepth 20000 in
theorem ggX5_feuding_X5_goNight : GoodIn wsX5_feuding wsX5_goNight := goodIn_r _ [38, 17, 39, 14, 40, 41, 42, 43, 5, 44, 45, 46, 47, 48, 49, 50, 30, 51, 52, 53, 54, 55, 56, 31, 32, 33, 34, 25, 57, 58, 59, 60, 61, 62, 63, 64, 65, 66, 67, 68, 69, 70, 71, 76, 77, 78, 79, 80, 81, 82, 83, 84, 85, 86, 87, 88, 89, 90, 91, 92, 93, 94, 95, 96, 97, 98, 99, 100, 101, 102, 103, 104, 105, 106, 107, 108, 109, 110, 111, 112, 113, 114, 115] (by decide +kernel) (by decide +kernel)
set_option maxRecDepth 20000 in
theorem gX5_feuding_X5_goNight : GoodIn wsX5_feuding (wsV RX5 259 RX5 yX5_goNight wsX5_goNight) := goodIn_app (goodIn_of _ (by decide +kernel)) ggX5_feuding_X5_goNight
set_option maxRecDepth 20000 in
theorem ggX5_feuding_X5_putBack : GoodIn wsX5_feuding wsX5_putBack := goodIn_r _ [75, 15, 14, 18, 19, 5, 20, 76, 77, 78, 79, 80, 81, 82, 83, 84, 85, 86, 87, 88, 89, 90, 91, 92, 93, 94, 95, 96, 97, 98, 99, 100, 101, 102, 103, 104, 105, 106, 107, 108, 109, 110, 111, 112, 113, 114, 115] (by decide +kernel) (by decide +kernel)
set_option maxRecDepth 20000 in
theorem gX5_feuding_X5_putBack : GoodIn wsX5_feuding (wsV RX5 269 RX5 yX5_putBack wsX5_putBack) := goodIn_app (goodIn_of _ (by decide +kernel)) ggX5_feuding_X5_putBack
theorem dX5_feuding_0 : decode cX5_feuding 0 = .ok (.iload_n 1, 1) := by decide +kernel
theorem dX5_feuding_1 : decode cX5_feuding 1 = .ok (.invokestatic 295, 3) := by decide +kernel
theorem dX5_feuding_4 : decode cX5_feuding 4 = .ok (.ifCond .ne 6, 3) := by decide +kernel
theorem dX5_feuding_7 : decode cX5_feuding 7 = .ok (.bipush (-3), 2) := by decide +kernel
theorem dX5_feuding_9 : decode cX5_feuding 9 = .ok (.ireturn, 1) := by decide +kernel
theorem dX5_feuding_10 : decode cX5_feuding 10 = .ok (.aload_n 0, 1) := by decide +kernel
theorem dX5_feuding_11 : decode cX5_feuding 11 = .ok (.invokevirtual 266, 3) := by decide +kernel
theorem dX5_feuding_14 : decode cX5_feuding 14 = .ok (.iconst 0, 1) := by decide +kernel
theorem dX5_feuding_15 : decode cX5_feuding 15 = .ok (.istore_n 2, 1) := by decide +kernel
theorem dX5_feuding_16 : decode cX5_feuding 16 = .ok (.iconst 0, 1) := by decide +kernel
theorem dX5_feuding_17 : decode cX5_feuding 17 = .ok (.istore_n 3, 1) := by decide +kernel
theorem dX5_feuding_18 : decode cX5_feuding 18 = .ok (.iload_n 3, 1) := by decide +kernel
theorem dX5_feuding_19 : decode cX5_feuding 19 = .ok (.iload_n 1, 1) := by decide +kernel
theorem dX5_feuding_20 : decode cX5_feuding 20 = .ok (.if_icmp .ge 86, 3) := by decide +kernel
theorem dX5_feuding_23 : decode cX5_feuding 23 = .ok (.iconst 0, 1) := by decide +kernel
theorem dX5_feuding_24 : decode cX5_feuding 24 = .ok (.istore 4, 2) := by decide +kernel
theorem dX5_feuding_26 : decode cX5_feuding 26 = .ok (.iconst 0, 1) := by decide +kernel
theorem dX5_feuding_27 : decode cX5_feuding 27 = .ok (.istore 5, 2) := by decide +kernel
theorem dX5_feuding_29 : decode cX5_feuding 29 = .ok (.iload 5, 2) := by decide +kernel
theorem dX5_feuding_31 : decode cX5_feuding 31 = .ok (.aload_n 0, 1) := by decide +kernel
theorem dX5_feuding_32 : decode cX5_feuding 32 = .ok (.getfield 88, 3) := by decide +kernel
theorem dX5_feuding_35 : decode cX5_feuding 35 = .ok (.if_icmp .ge 48, 3) := by decide +kernel
theorem dX5_feuding_38 : decode cX5_feuding 38 = .ok (.iload 4, 2) := by decide +kernel
theorem dX5_feuding_40 : decode cX5_feuding 40 = .ok (.ifCond .ne 30, 3) := by decide +kernel
theorem dX5_feuding_43 : decode cX5_feuding 43 = .ok (.aload_n 0, 1) := by decide +kernel
theorem dX5_feuding_44 : decode cX5_feuding 44 = .ok (.aload_n 0, 1) := by decide +kernel
theorem dX5_feuding_45 : decode cX5_feuding 45 = .ok (.getfield 26, 3) := by decide +kernel
theorem dX5_feuding_48 : decode cX5_feuding 48 = .ok (.iconst 2, 1) := by decide +kernel
theorem dX5_feuding_49 : decode cX5_feuding 49 = .ok (.iload 5, 2) := by decide +kernel
theorem dX5_feuding_51 : decode cX5_feuding 51 = .ok (.imul, 1) := by decide +kernel
theorem dX5_feuding_52 : decode cX5_feuding 52 = .ok (.iaload, 1) := by decide +kernel
theorem dX5_feuding_53 : decode cX5_feuding 53 = .ok (.aload_n 0, 1) := by decide +kernel
theorem dX5_feuding_54 : decode cX5_feuding 54 = .ok (.getfield 26, 3) := by decide +kernel
theorem dX5_feuding_57 : decode cX5_feuding 57 = .ok (.iconst 2, 1) := by decide +kernel
theorem dX5_feuding_58 : decode cX5_feuding 58 = .ok (.iload 5, 2) := by decide +kernel
theorem dX5_feuding_60 : decode cX5_feuding 60 = .ok (.imul, 1) := by decide +kernel
theorem dX5_feuding_61 : decode cX5_feuding 61 = .ok (.iconst 1, 1) := by decide +kernel
theorem dX5_feuding_62 : decode cX5_feuding 62 = .ok (.iadd, 1) := by decide +kernel
theorem dX5_feuding_63 : decode cX5_feuding 63 = .ok (.iaload, 1) := by decide +kernel
theorem dX5_feuding_64 : decode cX5_feuding 64 = .ok (.invokevirtual 285, 3) := by decide +kernel
theorem dX5_feuding_67 : decode cX5_feuding 67 = .ok (.ifCond .eq 7, 3) := by decide +kernel
theorem dX5_feuding_70 : decode cX5_feuding 70 = .ok (.iconst 1, 1) := by decide +kernel
theorem dX5_feuding_71 : decode cX5_feuding 71 = .ok (.goto 4, 3) := by decide +kernel
theorem dX5_feuding_74 : decode cX5_feuding 74 = .ok (.iconst 0, 1) := by decide +kernel
theorem dX5_feuding_75 : decode cX5_feuding 75 = .ok (.istore 4, 2) := by decide +kernel
theorem dX5_feuding_77 : decode cX5_feuding 77 = .ok (.iinc 5 1, 3) := by decide +kernel
theorem dX5_feuding_80 : decode cX5_feuding 80 = .ok (.goto (-51), 3) := by decide +kernel
theorem dX5_feuding_83 : decode cX5_feuding 83 = .ok (.iload_n 2, 1) := by decide +kernel
theorem dX5_feuding_84 : decode cX5_feuding 84 = .ok (.iload 4, 2) := by decide +kernel
theorem dX5_feuding_86 : decode cX5_feuding 86 = .ok (.ifCond .eq 7, 3) := by decide +kernel
theorem dX5_feuding_89 : decode cX5_feuding 89 = .ok (.iconst 1, 1) := by decide +kernel
theorem dX5_feuding_90 : decode cX5_feuding 90 = .ok (.goto 4, 3) := by decide +kernel
theorem dX5_feuding_93 : decode cX5_feuding 93 = .ok (.iconst 0, 1) := by decide +kernel
theorem dX5_feuding_94 : decode cX5_feuding 94 = .ok (.iadd, 1) := by decide +kernel
theorem dX5_feuding_95 : decode cX5_feuding 95 = .ok (.istore_n 2, 1) := by decide +kernel
theorem dX5_feuding_96 : decode cX5_feuding 96 = .ok (.aload_n 0, 1) := by decide +kernel
theorem dX5_feuding_97 : decode cX5_feuding 97 = .ok (.invokevirtual 259, 3) := by decide +kernel
theorem dX5_feuding_100 : decode cX5_feuding 100 = .ok (.iinc 3 1, 3) := by decide +kernel
theorem dX5_feuding_103 : decode cX5_feuding 103 = .ok (.goto (-85), 3) := by decide +kernel
theorem dX5_feuding_106 : decode cX5_feuding 106 = .ok (.aload_n 0, 1) := by decide +kernel
theorem dX5_feuding_107 : decode cX5_feuding 107 = .ok (.invokevirtual 269, 3) := by decide +kernel
theorem dX5_feuding_110 : decode cX5_feuding 110 = .ok (.iload_n 2, 1) := by decide +kernel
theorem dX5_feuding_111 : decode cX5_feuding 111 = .ok (.ireturn, 1) := by decide +kernel
theorem dX5_enter_0 : decode cX5_enter 0 = .ok (.iconst 0, 1) := by decide +kernel
theorem dX5_enter_1 : decode cX5_enter 1 = .ok (.istore_n 2, 1) := by decide +kernel
theorem dX5_enter_2 : decode cX5_enter 2 = .ok (.iload_n 2, 1) := by decide +kernel
theorem dX5_enter_3 : decode cX5_enter 3 = .ok (.bipush 8, 2) := by decide +kernel
theorem dX5_enter_5 : decode cX5_enter 5 = .ok (.if_icmp .ge 26, 3) := by decide +kernel
theorem dX5_enter_8 : decode cX5_enter 8 = .ok (.aload_n 0, 1) := by decide +kernel
theorem dX5_enter_9 : decode cX5_enter 9 = .ok (.getfield 60, 3) := by decide +kernel
theorem dX5_enter_12 : decode cX5_enter 12 = .ok (.bipush 8, 2) := by decide +kernel
theorem dX5_enter_14 : decode cX5_enter 14 = .ok (.iload_n 1, 1) := by decide +kernel
theorem dX5_enter_15 : decode cX5_enter 15 = .ok (.imul, 1) := by decide +kernel
theorem dX5_enter_16 : decode cX5_enter 16 = .ok (.iload_n 2, 1) := by decide +kernel
theorem dX5_enter_17 : decode cX5_enter 17 = .ok (.iadd, 1) := by decide +kernel
theorem dX5_enter_18 : decode cX5_enter 18 = .ok (.aload_n 0, 1) := by decide +kernel
theorem dX5_enter_19 : decode cX5_enter 19 = .ok (.getfield 38, 3) := by decide +kernel
theorem dX5_enter_22 : decode cX5_enter 22 = .ok (.iload_n 2, 1) := by decide +kernel
theorem dX5_enter_23 : decode cX5_enter 23 = .ok (.iaload, 1) := by decide +kernel
theorem dX5_enter_24 : decode cX5_enter 24 = .ok (.iastore, 1) := by decide +kernel
theorem dX5_enter_25 : decode cX5_enter 25 = .ok (.iinc 2 1, 3) := by decide +kernel
theorem dX5_enter_28 : decode cX5_enter 28 = .ok (.goto (-26), 3) := by decide +kernel
theorem dX5_enter_31 : decode cX5_enter 31 = .ok (.aload_n 0, 1) := by decide +kernel
theorem dX5_enter_32 : decode cX5_enter 32 = .ok (.getfield 63, 3) := by decide +kernel
theorem dX5_enter_35 : decode cX5_enter 35 = .ok (.iload_n 1, 1) := by decide +kernel
theorem dX5_enter_36 : decode cX5_enter 36 = .ok (.iconst 0, 1) := by decide +kernel
theorem dX5_enter_37 : decode cX5_enter 37 = .ok (.iastore, 1) := by decide +kernel
theorem dX5_enter_38 : decode cX5_enter 38 = .ok (.aload_n 0, 1) := by decide +kernel
theorem dX5_enter_39 : decode cX5_enter 39 = .ok (.getfield 66, 3) := by decide +kernel
theorem dX5_enter_42 : decode cX5_enter 42 = .ok (.iload_n 1, 1) := by decide +kernel
theorem dX5_enter_43 : decode cX5_enter 43 = .ok (.iconst 0, 1) := by decide +kernel
theorem dX5_enter_44 : decode cX5_enter 44 = .ok (.iastore, 1) := by decide +kernel
theorem dX5_enter_45 : decode cX5_enter 45 = .ok (.return_, 1) := by decide +kernel
theorem dX5_restore_0 : decode cX5_restore 0 = .ok (.iconst 0, 1) := by decide +kernel
theorem dX5_restore_1 : decode cX5_restore 1 = .ok (.istore_n 2, 1) := by decide +kernel
theorem dX5_restore_2 : decode cX5_restore 2 = .ok (.iload_n 2, 1) := by decide +kernel
theorem dX5_restore_3 : decode cX5_restore 3 = .ok (.bipush 8, 2) := by decide +kernel
theorem dX5_restore_5 : decode cX5_restore 5 = .ok (.if_icmp .ge 26, 3) := by decide +kernel
theorem dX5_restore_8 : decode cX5_restore 8 = .ok (.aload_n 0, 1) := by decide +kernel
theorem dX5_restore_9 : decode cX5_restore 9 = .ok (.getfield 38, 3) := by decide +kernel
theorem dX5_restore_12 : decode cX5_restore 12 = .ok (.iload_n 2, 1) := by decide +kernel
theorem dX5_restore_13 : decode cX5_restore 13 = .ok (.aload_n 0, 1) := by decide +kernel
theorem dX5_restore_14 : decode cX5_restore 14 = .ok (.getfield 60, 3) := by decide +kernel
theorem dX5_restore_17 : decode cX5_restore 17 = .ok (.bipush 8, 2) := by decide +kernel
theorem dX5_restore_19 : decode cX5_restore 19 = .ok (.iload_n 1, 1) := by decide +kernel
theorem dX5_restore_20 : decode cX5_restore 20 = .ok (.imul, 1) := by decide +kernel
theorem dX5_restore_21 : decode cX5_restore 21 = .ok (.iload_n 2, 1) := by decide +kernel
theorem dX5_restore_22 : decode cX5_restore 22 = .ok (.iadd, 1) := by decide +kernel
theorem dX5_restore_23 : decode cX5_restore 23 = .ok (.iaload, 1) := by decide +kernel
theorem dX5_restore_24 : decode cX5_restore 24 = .ok (.iastore, 1) := by decide +kernel
theorem dX5_restore_25 : decode cX5_restore 25 = .ok (.iinc 2 1, 3) := by decide +kernel
theorem dX5_restore_28 : decode cX5_restore 28 = .ok (.goto (-26), 3) := by decide +kernel
theorem dX5_restore_31 : decode cX5_restore 31 = .ok (.return_, 1) := by decide +kernel
set_option maxRecDepth 20000 in
theorem ggX5_firstRow_X5_areBeside : GoodIn wsX5_firstRow wsX5_areBeside := goodIn_r _ [12, 13, 14, 15, 16, 11, 17, 7, 18, 19, 20, 21, 22, 49, 50, 51, 52, 53, 54, 55, 56, 57, 58, 59, 60, 61, 62, 63, 64, 65, 66, 67, 68, 69, 70, 71, 72, 73, 74, 75, 76, 77, 78, 79, 80, 81, 82, 83, 84, 85, 86, 87, 88] (by decide +kernel) (by decide +kernel)
set_option maxRecDepth 20000 in
theorem gX5_firstRow_X5_areBeside : GoodIn wsX5_firstRow (wsV RX5 285 RX5 yX5_areBeside wsX5_areBeside) := goodIn_app (goodIn_of _ (by decide +kernel)) ggX5_firstRow_X5_areBeside
set_option maxRecDepth 20000 in
theorem ggX5_firstRow_X5_enter : GoodIn wsX5_firstRow wsX5_enter := goodIn_r _ [26, 27, 7, 1, 3, 49, 50, 51, 52, 53, 54, 55, 56, 57, 58, 59, 60, 61, 62, 63, 64, 65, 66, 67, 68, 69, 70, 71, 72, 73, 74, 75, 76, 77, 78, 79, 80, 81, 82, 83, 84, 85, 86, 87, 88] (by decide +kernel) (by decide +kernel)
set_option maxRecDepth 20000 in
theorem gX5_firstRow_X5_enter : GoodIn wsX5_firstRow (wsV RX5 298 RX5 yX5_enter wsX5_enter) := goodIn_app (goodIn_of _ (by decide +kernel)) ggX5_firstRow_X5_enter
set_option maxRecDepth 20000 in
theorem ggX5_firstRow_X5_restore : GoodIn wsX5_firstRow wsX5_restore := goodIn_r _ [31, 7, 27, 49, 50, 51, 52, 53, 54, 55, 56, 57, 58, 59, 60, 61, 62, 63, 64, 65, 66, 67, 68, 69, 70, 71, 72, 73, 74, 75, 76, 77, 78, 79, 80, 81, 82, 83, 84, 85, 86, 87, 88] (by decide +kernel) (by decide +kernel)
set_option maxRecDepth 20000 in
theorem gX5_firstRow_X5_restore : GoodIn wsX5_firstRow (wsV RX5 301 RX5 yX5_restore wsX5_restore) := goodIn_app (goodIn_of _ (by decide +kernel)) ggX5_firstRow_X5_restore
set_option maxRecDepth 20000 in
theorem ggX5_firstRow_X5_layWays : GoodIn wsX5_firstRow wsX5_layWays := goodIn_r _ [35, 4, 18, 7, 36, 37, 38, 39, 40, 11, 41, 2, 19, 20, 21, 22, 13, 42, 43, 44, 45, 46, 47, 48, 5, 49, 50, 51, 52, 53, 54, 55, 56, 57, 58, 59, 60, 61, 62, 63, 64, 65, 66, 67, 68, 69, 70, 71, 72, 73, 74, 75, 76, 77, 78, 79, 80, 81, 82, 83, 84, 85, 86, 87, 88] (by decide +kernel) (by decide +kernel)
set_option maxRecDepth 20000 in
theorem gX5_firstRow_X5_layWays : GoodIn wsX5_firstRow (wsV RX5 242 RX5 yX5_layWays wsX5_layWays) := goodIn_app (goodIn_of _ (by decide +kernel)) ggX5_firstRow_X5_layWays
theorem dX5_firstRow_0 : decode cX5_firstRow 0 = .ok (.iload_n 3, 1) := by decide +kernel
theorem dX5_firstRow_1 : decode cX5_firstRow 1 = .ok (.ifCond .ne 20, 3) := by decide +kernel
theorem dX5_firstRow_4 : decode cX5_firstRow 4 = .ok (.aload_n 0, 1) := by decide +kernel
theorem dX5_firstRow_5 : decode cX5_firstRow 5 = .ok (.iload_n 1, 1) := by decide +kernel
theorem dX5_firstRow_6 : decode cX5_firstRow 6 = .ok (.iload_n 2, 1) := by decide +kernel
theorem dX5_firstRow_7 : decode cX5_firstRow 7 = .ok (.invokevirtual 285, 3) := by decide +kernel
theorem dX5_firstRow_10 : decode cX5_firstRow 10 = .ok (.ifCond .eq 9, 3) := by decide +kernel
theorem dX5_firstRow_13 : decode cX5_firstRow 13 = .ok (.sipush 999, 3) := by decide +kernel
theorem dX5_firstRow_16 : decode cX5_firstRow 16 = .ok (.goto 4, 3) := by decide +kernel
theorem dX5_firstRow_19 : decode cX5_firstRow 19 = .ok (.iconst (-1), 1) := by decide +kernel
theorem dX5_firstRow_20 : decode cX5_firstRow 20 = .ok (.ireturn, 1) := by decide +kernel
theorem dX5_firstRow_21 : decode cX5_firstRow 21 = .ok (.iconst 0, 1) := by decide +kernel
theorem dX5_firstRow_22 : decode cX5_firstRow 22 = .ok (.istore 4, 2) := by decide +kernel
theorem dX5_firstRow_24 : decode cX5_firstRow 24 = .ok (.aload_n 0, 1) := by decide +kernel
theorem dX5_firstRow_25 : decode cX5_firstRow 25 = .ok (.iconst 0, 1) := by decide +kernel
theorem dX5_firstRow_26 : decode cX5_firstRow 26 = .ok (.invokevirtual 298, 3) := by decide +kernel
theorem dX5_firstRow_29 : decode cX5_firstRow 29 = .ok (.iload 4, 2) := by decide +kernel
theorem dX5_firstRow_31 : decode cX5_firstRow 31 = .ok (.ifCond .lt 188, 3) := by decide +kernel
theorem dX5_firstRow_34 : decode cX5_firstRow 34 = .ok (.aload_n 0, 1) := by decide +kernel
theorem dX5_firstRow_35 : decode cX5_firstRow 35 = .ok (.iload 4, 2) := by decide +kernel
theorem dX5_firstRow_37 : decode cX5_firstRow 37 = .ok (.invokevirtual 301, 3) := by decide +kernel
theorem dX5_firstRow_40 : decode cX5_firstRow 40 = .ok (.aload_n 0, 1) := by decide +kernel
theorem dX5_firstRow_41 : decode cX5_firstRow 41 = .ok (.getfield 63, 3) := by decide +kernel
theorem dX5_firstRow_44 : decode cX5_firstRow 44 = .ok (.iload 4, 2) := by decide +kernel
theorem dX5_firstRow_46 : decode cX5_firstRow 46 = .ok (.iaload, 1) := by decide +kernel
theorem dX5_firstRow_47 : decode cX5_firstRow 47 = .ok (.aload_n 0, 1) := by decide +kernel
theorem dX5_firstRow_48 : decode cX5_firstRow 48 = .ok (.getfield 78, 3) := by decide +kernel
theorem dX5_firstRow_51 : decode cX5_firstRow 51 = .ok (.if_icmp .ne 7, 3) := by decide +kernel
theorem dX5_firstRow_54 : decode cX5_firstRow 54 = .ok (.iconst 1, 1) := by decide +kernel
theorem dX5_firstRow_55 : decode cX5_firstRow 55 = .ok (.goto 4, 3) := by decide +kernel
theorem dX5_firstRow_58 : decode cX5_firstRow 58 = .ok (.iconst 0, 1) := by decide +kernel
theorem dX5_firstRow_59 : decode cX5_firstRow 59 = .ok (.istore 5, 2) := by decide +kernel
theorem dX5_firstRow_61 : decode cX5_firstRow 61 = .ok (.iload 5, 2) := by decide +kernel
theorem dX5_firstRow_63 : decode cX5_firstRow 63 = .ok (.ifCond .ne 14, 3) := by decide +kernel
theorem dX5_firstRow_66 : decode cX5_firstRow 66 = .ok (.aload_n 0, 1) := by decide +kernel
theorem dX5_firstRow_67 : decode cX5_firstRow 67 = .ok (.aload_n 0, 1) := by decide +kernel
theorem dX5_firstRow_68 : decode cX5_firstRow 68 = .ok (.getfield 63, 3) := by decide +kernel
theorem dX5_firstRow_71 : decode cX5_firstRow 71 = .ok (.iload 4, 2) := by decide +kernel
theorem dX5_firstRow_73 : decode cX5_firstRow 73 = .ok (.iaload, 1) := by decide +kernel
theorem dX5_firstRow_74 : decode cX5_firstRow 74 = .ok (.invokevirtual 242, 3) := by decide +kernel
theorem dX5_firstRow_77 : decode cX5_firstRow 77 = .ok (.iload 5, 2) := by decide +kernel
theorem dX5_firstRow_79 : decode cX5_firstRow 79 = .ok (.ifCond .eq 9, 3) := by decide +kernel
theorem dX5_firstRow_82 : decode cX5_firstRow 82 = .ok (.iinc 4 (-1), 3) := by decide +kernel
theorem dX5_firstRow_85 : decode cX5_firstRow 85 = .ok (.goto 131, 3) := by decide +kernel
theorem dX5_firstRow_88 : decode cX5_firstRow 88 = .ok (.aload_n 0, 1) := by decide +kernel
theorem dX5_firstRow_89 : decode cX5_firstRow 89 = .ok (.getfield 66, 3) := by decide +kernel
theorem dX5_firstRow_92 : decode cX5_firstRow 92 = .ok (.iload 4, 2) := by decide +kernel
theorem dX5_firstRow_94 : decode cX5_firstRow 94 = .ok (.iaload, 1) := by decide +kernel
theorem dX5_firstRow_95 : decode cX5_firstRow 95 = .ok (.aload_n 0, 1) := by decide +kernel
theorem dX5_firstRow_96 : decode cX5_firstRow 96 = .ok (.getfield 225, 3) := by decide +kernel
theorem dX5_firstRow_99 : decode cX5_firstRow 99 = .ok (.if_icmp .lt 25, 3) := by decide +kernel
theorem dX5_firstRow_102 : decode cX5_firstRow 102 = .ok (.aload_n 0, 1) := by decide +kernel
theorem dX5_firstRow_103 : decode cX5_firstRow 103 = .ok (.getfield 63, 3) := by decide +kernel
theorem dX5_firstRow_106 : decode cX5_firstRow 106 = .ok (.iload 4, 2) := by decide +kernel
theorem dX5_firstRow_108 : decode cX5_firstRow 108 = .ok (.dup2, 1) := by decide +kernel
theorem dX5_firstRow_109 : decode cX5_firstRow 109 = .ok (.iaload, 1) := by decide +kernel
theorem dX5_firstRow_110 : decode cX5_firstRow 110 = .ok (.iconst 1, 1) := by decide +kernel
theorem dX5_firstRow_111 : decode cX5_firstRow 111 = .ok (.iadd, 1) := by decide +kernel
theorem dX5_firstRow_112 : decode cX5_firstRow 112 = .ok (.iastore, 1) := by decide +kernel
theorem dX5_firstRow_113 : decode cX5_firstRow 113 = .ok (.aload_n 0, 1) := by decide +kernel
theorem dX5_firstRow_114 : decode cX5_firstRow 114 = .ok (.getfield 66, 3) := by decide +kernel
theorem dX5_firstRow_117 : decode cX5_firstRow 117 = .ok (.iload 4, 2) := by decide +kernel
theorem dX5_firstRow_119 : decode cX5_firstRow 119 = .ok (.iconst 0, 1) := by decide +kernel
theorem dX5_firstRow_120 : decode cX5_firstRow 120 = .ok (.iastore, 1) := by decide +kernel
theorem dX5_firstRow_121 : decode cX5_firstRow 121 = .ok (.goto 95, 3) := by decide +kernel
theorem dX5_firstRow_124 : decode cX5_firstRow 124 = .ok (.aload_n 0, 1) := by decide +kernel
theorem dX5_firstRow_125 : decode cX5_firstRow 125 = .ok (.getfield 54, 3) := by decide +kernel
theorem dX5_firstRow_128 : decode cX5_firstRow 128 = .ok (.aload_n 0, 1) := by decide +kernel
theorem dX5_firstRow_129 : decode cX5_firstRow 129 = .ok (.getfield 66, 3) := by decide +kernel
theorem dX5_firstRow_132 : decode cX5_firstRow 132 = .ok (.iload 4, 2) := by decide +kernel
theorem dX5_firstRow_134 : decode cX5_firstRow 134 = .ok (.iaload, 1) := by decide +kernel
theorem dX5_firstRow_135 : decode cX5_firstRow 135 = .ok (.iaload, 1) := by decide +kernel
theorem dX5_firstRow_136 : decode cX5_firstRow 136 = .ok (.istore 6, 2) := by decide +kernel
theorem dX5_firstRow_138 : decode cX5_firstRow 138 = .ok (.aload_n 0, 1) := by decide +kernel
theorem dX5_firstRow_139 : decode cX5_firstRow 139 = .ok (.getfield 69, 3) := by decide +kernel
theorem dX5_firstRow_142 : decode cX5_firstRow 142 = .ok (.iload 4, 2) := by decide +kernel
theorem dX5_firstRow_144 : decode cX5_firstRow 144 = .ok (.bipush 20, 2) := by decide +kernel
theorem dX5_firstRow_146 : decode cX5_firstRow 146 = .ok (.aload_n 0, 1) := by decide +kernel
theorem dX5_firstRow_147 : decode cX5_firstRow 147 = .ok (.getfield 63, 3) := by decide +kernel
theorem dX5_firstRow_150 : decode cX5_firstRow 150 = .ok (.iload 4, 2) := by decide +kernel
theorem dX5_firstRow_152 : decode cX5_firstRow 152 = .ok (.iaload, 1) := by decide +kernel
theorem dX5_firstRow_153 : decode cX5_firstRow 153 = .ok (.imul, 1) := by decide +kernel
theorem dX5_firstRow_154 : decode cX5_firstRow 154 = .ok (.iload 6, 2) := by decide +kernel
theorem dX5_firstRow_156 : decode cX5_firstRow 156 = .ok (.iadd, 1) := by decide +kernel
theorem dX5_firstRow_157 : decode cX5_firstRow 157 = .ok (.iastore, 1) := by decide +kernel
theorem dX5_firstRow_158 : decode cX5_firstRow 158 = .ok (.aload_n 0, 1) := by decide +kernel
theorem dX5_firstRow_159 : decode cX5_firstRow 159 = .ok (.getfield 38, 3) := by decide +kernel
theorem dX5_firstRow_162 : decode cX5_firstRow 162 = .ok (.aload_n 0, 1) := by decide +kernel
theorem dX5_firstRow_163 : decode cX5_firstRow 163 = .ok (.getfield 63, 3) := by decide +kernel
theorem dX5_firstRow_166 : decode cX5_firstRow 166 = .ok (.iload 4, 2) := by decide +kernel
theorem dX5_firstRow_168 : decode cX5_firstRow 168 = .ok (.iaload, 1) := by decide +kernel
theorem dX5_firstRow_169 : decode cX5_firstRow 169 = .ok (.iload 6, 2) := by decide +kernel
theorem dX5_firstRow_171 : decode cX5_firstRow 171 = .ok (.iastore, 1) := by decide +kernel
theorem dX5_firstRow_172 : decode cX5_firstRow 172 = .ok (.aload_n 0, 1) := by decide +kernel
theorem dX5_firstRow_173 : decode cX5_firstRow 173 = .ok (.getfield 66, 3) := by decide +kernel
theorem dX5_firstRow_176 : decode cX5_firstRow 176 = .ok (.iload 4, 2) := by decide +kernel
theorem dX5_firstRow_178 : decode cX5_firstRow 178 = .ok (.dup2, 1) := by decide +kernel
theorem dX5_firstRow_179 : decode cX5_firstRow 179 = .ok (.iaload, 1) := by decide +kernel
theorem dX5_firstRow_180 : decode cX5_firstRow 180 = .ok (.iconst 1, 1) := by decide +kernel
theorem dX5_firstRow_181 : decode cX5_firstRow 181 = .ok (.iadd, 1) := by decide +kernel
theorem dX5_firstRow_182 : decode cX5_firstRow 182 = .ok (.iastore, 1) := by decide +kernel
theorem dX5_firstRow_183 : decode cX5_firstRow 183 = .ok (.iload 4, 2) := by decide +kernel
theorem dX5_firstRow_185 : decode cX5_firstRow 185 = .ok (.iconst 1, 1) := by decide +kernel
theorem dX5_firstRow_186 : decode cX5_firstRow 186 = .ok (.iadd, 1) := by decide +kernel
theorem dX5_firstRow_187 : decode cX5_firstRow 187 = .ok (.iload_n 3, 1) := by decide +kernel
theorem dX5_firstRow_188 : decode cX5_firstRow 188 = .ok (.if_icmp .ne 19, 3) := by decide +kernel
theorem dX5_firstRow_191 : decode cX5_firstRow 191 = .ok (.aload_n 0, 1) := by decide +kernel
theorem dX5_firstRow_192 : decode cX5_firstRow 192 = .ok (.iload_n 1, 1) := by decide +kernel
theorem dX5_firstRow_193 : decode cX5_firstRow 193 = .ok (.iload_n 2, 1) := by decide +kernel
theorem dX5_firstRow_194 : decode cX5_firstRow 194 = .ok (.invokevirtual 285, 3) := by decide +kernel
theorem dX5_firstRow_197 : decode cX5_firstRow 197 = .ok (.ifCond .eq 19, 3) := by decide +kernel
theorem dX5_firstRow_200 : decode cX5_firstRow 200 = .ok (.aload_n 0, 1) := by decide +kernel
theorem dX5_firstRow_201 : decode cX5_firstRow 201 = .ok (.getfield 69, 3) := by decide +kernel
theorem dX5_firstRow_204 : decode cX5_firstRow 204 = .ok (.iconst 0, 1) := by decide +kernel
theorem dX5_firstRow_205 : decode cX5_firstRow 205 = .ok (.iaload, 1) := by decide +kernel
theorem dX5_firstRow_206 : decode cX5_firstRow 206 = .ok (.ireturn, 1) := by decide +kernel
theorem dX5_firstRow_207 : decode cX5_firstRow 207 = .ok (.iinc 4 1, 3) := by decide +kernel
theorem dX5_firstRow_210 : decode cX5_firstRow 210 = .ok (.aload_n 0, 1) := by decide +kernel
theorem dX5_firstRow_211 : decode cX5_firstRow 211 = .ok (.iload 4, 2) := by decide +kernel
theorem dX5_firstRow_213 : decode cX5_firstRow 213 = .ok (.invokevirtual 298, 3) := by decide +kernel
theorem dX5_firstRow_216 : decode cX5_firstRow 216 = .ok (.goto (-187), 3) := by decide +kernel
theorem dX5_firstRow_219 : decode cX5_firstRow 219 = .ok (.iconst (-1), 1) := by decide +kernel
theorem dX5_firstRow_220 : decode cX5_firstRow 220 = .ok (.ireturn, 1) := by decide +kernel
set_option maxRecDepth 20000 in
theorem ggX5_nearest_X5_in : GoodIn wsX5_nearest wsX5_in := goodIn_r _ [4] (by decide +kernel) (by decide +kernel)
set_option maxRecDepth 20000 in
theorem gX5_nearest_X5_in : GoodIn wsX5_nearest (va_wsS RX5 81 yX5_in wsX5_in) := goodIn_app (goodIn_of _ (by decide +kernel)) ggX5_nearest_X5_in
set_option maxRecDepth 20000 in
theorem ggX5_nearest_X5_whyNot : GoodIn wsX5_nearest wsX5_whyNot := goodIn_r _ [8, 9, 10, 11, 3, 12, 13, 1, 2, 4, 78, 79, 80, 81, 82, 83, 84, 85, 86, 87, 88, 89, 90, 91, 92, 93, 94, 95, 96, 97, 98, 99, 100, 101, 102, 103, 104, 105, 106, 107, 108, 109, 110, 111, 112, 113, 114, 115, 116, 117] (by decide +kernel) (by decide +kernel)
set_option maxRecDepth 20000 in
theorem gX5_nearest_X5_whyNot : GoodIn wsX5_nearest (wsV RX5 288 RX5 yX5_whyNot wsX5_whyNot) := goodIn_app (goodIn_of _ (by decide +kernel)) ggX5_nearest_X5_whyNot
set_option maxRecDepth 20000 in
theorem ggX5_nearest_X5_putAside : GoodIn wsX5_nearest wsX5_putAside := goodIn_r _ [17, 18, 19, 20, 21, 22, 23, 3, 24, 78, 79, 80, 81, 82, 83, 84, 85, 86, 87, 88, 89, 90, 91, 92, 93, 94, 95, 96, 97, 98, 99, 100, 101, 102, 103, 104, 105, 106, 107, 108, 109, 110, 111, 112, 113, 114, 115, 116, 117] (by decide +kernel) (by decide +kernel)
set_option maxRecDepth 20000 in
theorem gX5_nearest_X5_putAside : GoodIn wsX5_nearest (wsV RX5 266 RX5 yX5_putAside wsX5_putAside) := goodIn_app (goodIn_of _ (by decide +kernel)) ggX5_nearest_X5_putAside
set_option maxRecDepth 20000 in
theorem ggX5_nearest_X5_firstRow : GoodIn wsX5_nearest wsX5_firstRow := goodIn_r _ [28, 29, 13, 30, 31, 32, 33, 18, 34, 35, 36, 3, 37, 38, 39, 40, 41, 42, 43, 44, 45, 46, 47, 48, 49, 50, 51, 52, 53, 54, 55, 56, 57, 58, 59, 60, 61, 62, 63, 64, 65, 66, 67, 68, 69, 70, 71, 72, 73, 78, 79, 80, 81, 82, 83, 84, 85, 86, 87, 88, 89, 90, 91, 92, 93, 94, 95, 96, 97, 98, 99, 100, 101, 102, 103, 104, 105, 106, 107, 108, 109, 110, 111, 112, 113, 114, 115, 116, 117] (by decide +kernel) (by decide +kernel)
set_option maxRecDepth 20000 in
theorem gX5_nearest_X5_firstRow : GoodIn wsX5_nearest (wsV RX5 304 RX5 yX5_firstRow wsX5_firstRow) := goodIn_app (goodIn_of _ (by decide +kernel)) ggX5_nearest_X5_firstRow
set_option maxRecDepth 20000 in
theorem ggX5_nearest_X5_putBack : GoodIn wsX5_nearest wsX5_putBack := goodIn_r _ [77, 19, 18, 22, 23, 3, 24, 78, 79, 80, 81, 82, 83, 84, 85, 86, 87, 88, 89, 90, 91, 92, 93, 94, 95, 96, 97, 98, 99, 100, 101, 102, 103, 104, 105, 106, 107, 108, 109, 110, 111, 112, 113, 114, 115, 116, 117] (by decide +kernel) (by decide +kernel)
set_option maxRecDepth 20000 in
theorem gX5_nearest_X5_putBack : GoodIn wsX5_nearest (wsV RX5 269 RX5 yX5_putBack wsX5_putBack) := goodIn_app (goodIn_of _ (by decide +kernel)) ggX5_nearest_X5_putBack
theorem dX5_nearest_0 : decode cX5_nearest 0 = .ok (.aload_n 0, 1) := by decide +kernel
theorem dX5_nearest_1 : decode cX5_nearest 1 = .ok (.iload_n 1, 1) := by decide +kernel
theorem dX5_nearest_2 : decode cX5_nearest 2 = .ok (.iload_n 2, 1) := by decide +kernel
theorem dX5_nearest_3 : decode cX5_nearest 3 = .ok (.iload_n 3, 1) := by decide +kernel
theorem dX5_nearest_4 : decode cX5_nearest 4 = .ok (.iconst 0, 1) := by decide +kernel
theorem dX5_nearest_5 : decode cX5_nearest 5 = .ok (.iconst 1, 1) := by decide +kernel
theorem dX5_nearest_6 : decode cX5_nearest 6 = .ok (.invokestatic 81, 3) := by decide +kernel
theorem dX5_nearest_9 : decode cX5_nearest 9 = .ok (.invokevirtual 288, 3) := by decide +kernel
theorem dX5_nearest_12 : decode cX5_nearest 12 = .ok (.istore 4, 2) := by decide +kernel
theorem dX5_nearest_14 : decode cX5_nearest 14 = .ok (.iload 4, 2) := by decide +kernel
theorem dX5_nearest_16 : decode cX5_nearest 16 = .ok (.ifCond .eq 6, 3) := by decide +kernel
theorem dX5_nearest_19 : decode cX5_nearest 19 = .ok (.iload 4, 2) := by decide +kernel
theorem dX5_nearest_21 : decode cX5_nearest 21 = .ok (.ireturn, 1) := by decide +kernel
theorem dX5_nearest_22 : decode cX5_nearest 22 = .ok (.aload_n 0, 1) := by decide +kernel
theorem dX5_nearest_23 : decode cX5_nearest 23 = .ok (.invokevirtual 266, 3) := by decide +kernel
theorem dX5_nearest_26 : decode cX5_nearest 26 = .ok (.iconst (-1), 1) := by decide +kernel
theorem dX5_nearest_27 : decode cX5_nearest 27 = .ok (.istore 5, 2) := by decide +kernel
theorem dX5_nearest_29 : decode cX5_nearest 29 = .ok (.iconst (-1), 1) := by decide +kernel
theorem dX5_nearest_30 : decode cX5_nearest 30 = .ok (.istore 6, 2) := by decide +kernel
theorem dX5_nearest_32 : decode cX5_nearest 32 = .ok (.iconst 0, 1) := by decide +kernel
theorem dX5_nearest_33 : decode cX5_nearest 33 = .ok (.istore 7, 2) := by decide +kernel
theorem dX5_nearest_35 : decode cX5_nearest 35 = .ok (.iload 7, 2) := by decide +kernel
theorem dX5_nearest_37 : decode cX5_nearest 37 = .ok (.bipush 6, 2) := by decide +kernel
theorem dX5_nearest_39 : decode cX5_nearest 39 = .ok (.if_icmp .ge 47, 3) := by decide +kernel
theorem dX5_nearest_42 : decode cX5_nearest 42 = .ok (.iload 5, 2) := by decide +kernel
theorem dX5_nearest_44 : decode cX5_nearest 44 = .ok (.iconst (-1), 1) := by decide +kernel
theorem dX5_nearest_45 : decode cX5_nearest 45 = .ok (.if_icmp .ne 41, 3) := by decide +kernel
theorem dX5_nearest_48 : decode cX5_nearest 48 = .ok (.aload_n 0, 1) := by decide +kernel
theorem dX5_nearest_49 : decode cX5_nearest 49 = .ok (.iload_n 1, 1) := by decide +kernel
theorem dX5_nearest_50 : decode cX5_nearest 50 = .ok (.iload_n 2, 1) := by decide +kernel
theorem dX5_nearest_51 : decode cX5_nearest 51 = .ok (.iload 7, 2) := by decide +kernel
theorem dX5_nearest_53 : decode cX5_nearest 53 = .ok (.invokevirtual 304, 3) := by decide +kernel
theorem dX5_nearest_56 : decode cX5_nearest 56 = .ok (.istore 8, 2) := by decide +kernel
theorem dX5_nearest_58 : decode cX5_nearest 58 = .ok (.aload_n 0, 1) := by decide +kernel
theorem dX5_nearest_59 : decode cX5_nearest 59 = .ok (.invokevirtual 269, 3) := by decide +kernel
theorem dX5_nearest_62 : decode cX5_nearest 62 = .ok (.iload 8, 2) := by decide +kernel
theorem dX5_nearest_64 : decode cX5_nearest 64 = .ok (.iconst (-1), 1) := by decide +kernel
theorem dX5_nearest_65 : decode cX5_nearest 65 = .ok (.if_icmp .ne 7, 3) := by decide +kernel
theorem dX5_nearest_68 : decode cX5_nearest 68 = .ok (.iconst (-1), 1) := by decide +kernel
theorem dX5_nearest_69 : decode cX5_nearest 69 = .ok (.goto 5, 3) := by decide +kernel
theorem dX5_nearest_72 : decode cX5_nearest 72 = .ok (.iload 7, 2) := by decide +kernel
theorem dX5_nearest_74 : decode cX5_nearest 74 = .ok (.istore 5, 2) := by decide +kernel
theorem dX5_nearest_76 : decode cX5_nearest 76 = .ok (.iload 8, 2) := by decide +kernel
theorem dX5_nearest_78 : decode cX5_nearest 78 = .ok (.istore 6, 2) := by decide +kernel
theorem dX5_nearest_80 : decode cX5_nearest 80 = .ok (.iinc 7 1, 3) := by decide +kernel
theorem dX5_nearest_83 : decode cX5_nearest 83 = .ok (.goto (-48), 3) := by decide +kernel
theorem dX5_nearest_86 : decode cX5_nearest 86 = .ok (.iload 5, 2) := by decide +kernel
theorem dX5_nearest_88 : decode cX5_nearest 88 = .ok (.iconst (-1), 1) := by decide +kernel
theorem dX5_nearest_89 : decode cX5_nearest 89 = .ok (.if_icmp .eq 7, 3) := by decide +kernel
theorem dX5_nearest_92 : decode cX5_nearest 92 = .ok (.iload_n 3, 1) := by decide +kernel
theorem dX5_nearest_93 : decode cX5_nearest 93 = .ok (.ifCond .ne 8, 3) := by decide +kernel
theorem dX5_nearest_96 : decode cX5_nearest 96 = .ok (.iload 5, 2) := by decide +kernel
theorem dX5_nearest_98 : decode cX5_nearest 98 = .ok (.goto 17, 3) := by decide +kernel
theorem dX5_nearest_101 : decode cX5_nearest 101 = .ok (.iload 6, 2) := by decide +kernel
theorem dX5_nearest_103 : decode cX5_nearest 103 = .ok (.sipush 999, 3) := by decide +kernel
theorem dX5_nearest_106 : decode cX5_nearest 106 = .ok (.if_icmp .ne 7, 3) := by decide +kernel
theorem dX5_nearest_109 : decode cX5_nearest 109 = .ok (.iconst (-1), 1) := by decide +kernel
theorem dX5_nearest_110 : decode cX5_nearest 110 = .ok (.goto 5, 3) := by decide +kernel
theorem dX5_nearest_113 : decode cX5_nearest 113 = .ok (.iload 6, 2) := by decide +kernel
theorem dX5_nearest_115 : decode cX5_nearest 115 = .ok (.ireturn, 1) := by decide +kernel
set_option maxRecDepth 20000 in
theorem ggX5_doMeet_X5_putAside : GoodIn wsX5_doMeet wsX5_putAside := goodIn_r _ [5, 6, 7, 8, 9, 10, 11, 4, 12, 68, 69, 70, 71, 72, 73, 74, 75, 76, 77, 78, 79, 80, 81, 82, 83, 84, 85, 86, 87, 88, 89, 90, 91, 92, 93, 94, 95, 96, 97, 98, 99, 100, 101, 102, 103, 104, 105, 106, 107] (by decide +kernel) (by decide +kernel)
set_option maxRecDepth 20000 in
theorem gX5_doMeet_X5_putAside : GoodIn wsX5_doMeet (wsV RX5 266 RX5 yX5_putAside wsX5_putAside) := goodIn_app (goodIn_of _ (by decide +kernel)) ggX5_doMeet_X5_putAside
set_option maxRecDepth 20000 in
theorem ggX5_doMeet_X5_areBeside : GoodIn wsX5_doMeet wsX5_areBeside := goodIn_r _ [16, 17, 18, 19, 20, 4, 21, 6, 22, 23, 24, 25, 26, 68, 69, 70, 71, 72, 73, 74, 75, 76, 77, 78, 79, 80, 81, 82, 83, 84, 85, 86, 87, 88, 89, 90, 91, 92, 93, 94, 95, 96, 97, 98, 99, 100, 101, 102, 103, 104, 105, 106, 107] (by decide +kernel) (by decide +kernel)
set_option maxRecDepth 20000 in
theorem gX5_doMeet_X5_areBeside : GoodIn wsX5_doMeet (wsV RX5 285 RX5 yX5_areBeside wsX5_areBeside) := goodIn_app (goodIn_of _ (by decide +kernel)) ggX5_doMeet_X5_areBeside
set_option maxRecDepth 20000 in
theorem ggX5_doMeet_X5_goNight : GoodIn wsX5_doMeet wsX5_goNight := goodIn_r _ [30, 9, 31, 6, 32, 33, 34, 35, 4, 36, 37, 38, 39, 40, 41, 42, 22, 43, 44, 45, 46, 47, 48, 23, 24, 25, 26, 17, 49, 50, 51, 52, 53, 54, 55, 56, 57, 58, 59, 60, 61, 62, 63, 68, 69, 70, 71, 72, 73, 74, 75, 76, 77, 78, 79, 80, 81, 82, 83, 84, 85, 86, 87, 88, 89, 90, 91, 92, 93, 94, 95, 96, 97, 98, 99, 100, 101, 102, 103, 104, 105, 106, 107] (by decide +kernel) (by decide +kernel)
set_option maxRecDepth 20000 in
theorem gX5_doMeet_X5_goNight : GoodIn wsX5_doMeet (wsV RX5 259 RX5 yX5_goNight wsX5_goNight) := goodIn_app (goodIn_of _ (by decide +kernel)) ggX5_doMeet_X5_goNight
set_option maxRecDepth 20000 in
theorem ggX5_doMeet_X5_putBack : GoodIn wsX5_doMeet wsX5_putBack := goodIn_r _ [67, 7, 6, 10, 11, 4, 12, 68, 69, 70, 71, 72, 73, 74, 75, 76, 77, 78, 79, 80, 81, 82, 83, 84, 85, 86, 87, 88, 89, 90, 91, 92, 93, 94, 95, 96, 97, 98, 99, 100, 101, 102, 103, 104, 105, 106, 107] (by decide +kernel) (by decide +kernel)
set_option maxRecDepth 20000 in
theorem gX5_doMeet_X5_putBack : GoodIn wsX5_doMeet (wsV RX5 269 RX5 yX5_putBack wsX5_putBack) := goodIn_app (goodIn_of _ (by decide +kernel)) ggX5_doMeet_X5_putBack
theorem dX5_doMeet_0 : decode cX5_doMeet 0 = .ok (.aload_n 0, 1) := by decide +kernel
theorem dX5_doMeet_1 : decode cX5_doMeet 1 = .ok (.invokevirtual 266, 3) := by decide +kernel
theorem dX5_doMeet_4 : decode cX5_doMeet 4 = .ok (.aload_n 0, 1) := by decide +kernel
theorem dX5_doMeet_5 : decode cX5_doMeet 5 = .ok (.iload_n 1, 1) := by decide +kernel
theorem dX5_doMeet_6 : decode cX5_doMeet 6 = .ok (.iload_n 2, 1) := by decide +kernel
theorem dX5_doMeet_7 : decode cX5_doMeet 7 = .ok (.invokevirtual 285, 3) := by decide +kernel
theorem dX5_doMeet_10 : decode cX5_doMeet 10 = .ok (.istore 4, 2) := by decide +kernel
theorem dX5_doMeet_12 : decode cX5_doMeet 12 = .ok (.iconst 0, 1) := by decide +kernel
theorem dX5_doMeet_13 : decode cX5_doMeet 13 = .ok (.istore 5, 2) := by decide +kernel
theorem dX5_doMeet_15 : decode cX5_doMeet 15 = .ok (.iload 5, 2) := by decide +kernel
theorem dX5_doMeet_17 : decode cX5_doMeet 17 = .ok (.iload_n 3, 1) := by decide +kernel
theorem dX5_doMeet_18 : decode cX5_doMeet 18 = .ok (.if_icmp .ge 26, 3) := by decide +kernel
theorem dX5_doMeet_21 : decode cX5_doMeet 21 = .ok (.iload 4, 2) := by decide +kernel
theorem dX5_doMeet_23 : decode cX5_doMeet 23 = .ok (.ifCond .ne 21, 3) := by decide +kernel
theorem dX5_doMeet_26 : decode cX5_doMeet 26 = .ok (.aload_n 0, 1) := by decide +kernel
theorem dX5_doMeet_27 : decode cX5_doMeet 27 = .ok (.invokevirtual 259, 3) := by decide +kernel
theorem dX5_doMeet_30 : decode cX5_doMeet 30 = .ok (.aload_n 0, 1) := by decide +kernel
theorem dX5_doMeet_31 : decode cX5_doMeet 31 = .ok (.iload_n 1, 1) := by decide +kernel
theorem dX5_doMeet_32 : decode cX5_doMeet 32 = .ok (.iload_n 2, 1) := by decide +kernel
theorem dX5_doMeet_33 : decode cX5_doMeet 33 = .ok (.invokevirtual 285, 3) := by decide +kernel
theorem dX5_doMeet_36 : decode cX5_doMeet 36 = .ok (.istore 4, 2) := by decide +kernel
theorem dX5_doMeet_38 : decode cX5_doMeet 38 = .ok (.iinc 5 1, 3) := by decide +kernel
theorem dX5_doMeet_41 : decode cX5_doMeet 41 = .ok (.goto (-26), 3) := by decide +kernel
theorem dX5_doMeet_44 : decode cX5_doMeet 44 = .ok (.aload_n 0, 1) := by decide +kernel
theorem dX5_doMeet_45 : decode cX5_doMeet 45 = .ok (.invokevirtual 269, 3) := by decide +kernel
theorem dX5_doMeet_48 : decode cX5_doMeet 48 = .ok (.iload 4, 2) := by decide +kernel
theorem dX5_doMeet_50 : decode cX5_doMeet 50 = .ok (.ireturn, 1) := by decide +kernel
set_option maxRecDepth 20000 in
theorem ggX5_mends_X5_in : GoodIn wsX5_mends wsX5_in := goodIn_r _ [6] (by decide +kernel) (by decide +kernel)
set_option maxRecDepth 20000 in
theorem gX5_mends_X5_in : GoodIn wsX5_mends (va_wsS RX5 81 yX5_in wsX5_in) := goodIn_app (goodIn_of _ (by decide +kernel)) ggX5_mends_X5_in
set_option maxRecDepth 20000 in
theorem ggX5_mends_X5_whyNot : GoodIn wsX5_mends wsX5_whyNot := goodIn_r _ [10, 11, 12, 13, 5, 14, 1, 3, 4, 6, 87, 88, 89, 90, 91, 92, 93, 94, 95, 96, 97, 98, 99, 100, 101, 102, 103, 104, 105, 106, 107, 108, 109, 110, 111, 112, 113, 114, 115, 116, 117, 118, 119, 120, 121, 122, 123, 124, 125, 126] (by decide +kernel) (by decide +kernel)
set_option maxRecDepth 20000 in
theorem gX5_mends_X5_whyNot : GoodIn wsX5_mends (wsV RX5 288 RX5 yX5_whyNot wsX5_whyNot) := goodIn_app (goodIn_of _ (by decide +kernel)) ggX5_mends_X5_whyNot
set_option maxRecDepth 20000 in
theorem ggX5_mends_X5_has : GoodIn wsX5_mends wsX5_has := goodIn_r _ [17] (by decide +kernel) (by decide +kernel)
set_option maxRecDepth 20000 in
theorem gX5_mends_X5_has : GoodIn wsX5_mends (va_wsS RX5 232 yX5_has wsX5_has) := goodIn_app (goodIn_of _ (by decide +kernel)) ggX5_mends_X5_has
set_option maxRecDepth 20000 in
theorem ggX5_mends_X5_mend : GoodIn wsX5_mends wsX5_mend := goodIn_r _ [21, 1, 2, 15, 16, 5, 17, 87, 88, 89, 90, 91, 92, 93, 94, 95, 96, 97, 98, 99, 100, 101, 102, 103, 104, 105, 106, 107, 108, 109, 110, 111, 112, 113, 114, 115, 116, 117, 118, 119, 120, 121, 122, 123, 124, 125, 126] (by decide +kernel) (by decide +kernel)
set_option maxRecDepth 20000 in
theorem gX5_mends_X5_mend : GoodIn wsX5_mends (wsV RX5 308 RX5 yX5_mend wsX5_mend) := goodIn_app (goodIn_of _ (by decide +kernel)) ggX5_mends_X5_mend
set_option maxRecDepth 20000 in
theorem ggX5_mends_X5_doMeet : GoodIn wsX5_mends wsX5_doMeet := goodIn_r _ [25, 26, 27, 28, 5, 29, 30, 31, 32, 33, 34, 35, 36, 37, 38, 39, 40, 41, 42, 43, 44, 45, 2, 46, 47, 48, 49, 50, 51, 52, 53, 54, 1, 55, 56, 57, 58, 59, 60, 61, 62, 63, 64, 65, 66, 67, 68, 69, 70, 15, 16, 17, 71, 72, 73, 74, 75, 76, 77, 78, 79, 80, 81, 82, 83, 84, 85, 86, 87, 88, 89, 90, 91, 92, 93, 94, 95, 96, 97, 98, 99, 100, 101, 102, 103, 104, 105, 106, 107, 108, 109, 110, 111, 112, 113, 114, 115, 116, 117, 118, 119, 120, 121, 122, 123, 124, 125, 126] (by decide +kernel) (by decide +kernel)
set_option maxRecDepth 20000 in
theorem gX5_mends_X5_doMeet : GoodIn wsX5_mends (wsV RX5 311 RX5 yX5_doMeet wsX5_doMeet) := goodIn_app (goodIn_of _ (by decide +kernel)) ggX5_mends_X5_doMeet
theorem dX5_mends_0 : decode cX5_mends 0 = .ok (.aload_n 0, 1) := by decide +kernel
theorem dX5_mends_1 : decode cX5_mends 1 = .ok (.iload_n 1, 1) := by decide +kernel
theorem dX5_mends_2 : decode cX5_mends 2 = .ok (.iload_n 2, 1) := by decide +kernel
theorem dX5_mends_3 : decode cX5_mends 3 = .ok (.iload_n 3, 1) := by decide +kernel
theorem dX5_mends_4 : decode cX5_mends 4 = .ok (.iconst 0, 1) := by decide +kernel
theorem dX5_mends_5 : decode cX5_mends 5 = .ok (.bipush 99, 2) := by decide +kernel
theorem dX5_mends_7 : decode cX5_mends 7 = .ok (.invokestatic 81, 3) := by decide +kernel
theorem dX5_mends_10 : decode cX5_mends 10 = .ok (.ifCond .eq 17, 3) := by decide +kernel
theorem dX5_mends_13 : decode cX5_mends 13 = .ok (.iload 4, 2) := by decide +kernel
theorem dX5_mends_15 : decode cX5_mends 15 = .ok (.iconst 0, 1) := by decide +kernel
theorem dX5_mends_16 : decode cX5_mends 16 = .ok (.iconst 1, 1) := by decide +kernel
theorem dX5_mends_17 : decode cX5_mends 17 = .ok (.invokestatic 81, 3) := by decide +kernel
theorem dX5_mends_20 : decode cX5_mends 20 = .ok (.ifCond .eq 7, 3) := by decide +kernel
theorem dX5_mends_23 : decode cX5_mends 23 = .ok (.iconst 1, 1) := by decide +kernel
theorem dX5_mends_24 : decode cX5_mends 24 = .ok (.goto 4, 3) := by decide +kernel
theorem dX5_mends_27 : decode cX5_mends 27 = .ok (.iconst 0, 1) := by decide +kernel
theorem dX5_mends_28 : decode cX5_mends 28 = .ok (.invokevirtual 288, 3) := by decide +kernel
theorem dX5_mends_31 : decode cX5_mends 31 = .ok (.istore 5, 2) := by decide +kernel
theorem dX5_mends_33 : decode cX5_mends 33 = .ok (.iload 5, 2) := by decide +kernel
theorem dX5_mends_35 : decode cX5_mends 35 = .ok (.ifCond .eq 6, 3) := by decide +kernel
theorem dX5_mends_38 : decode cX5_mends 38 = .ok (.iload 5, 2) := by decide +kernel
theorem dX5_mends_40 : decode cX5_mends 40 = .ok (.ireturn, 1) := by decide +kernel
theorem dX5_mends_41 : decode cX5_mends 41 = .ok (.iconst 0, 1) := by decide +kernel
theorem dX5_mends_42 : decode cX5_mends 42 = .ok (.istore 6, 2) := by decide +kernel
theorem dX5_mends_44 : decode cX5_mends 44 = .ok (.iconst 0, 1) := by decide +kernel
theorem dX5_mends_45 : decode cX5_mends 45 = .ok (.istore 7, 2) := by decide +kernel
theorem dX5_mends_47 : decode cX5_mends 47 = .ok (.iload 7, 2) := by decide +kernel
theorem dX5_mends_49 : decode cX5_mends 49 = .ok (.aload_n 0, 1) := by decide +kernel
theorem dX5_mends_50 : decode cX5_mends 50 = .ok (.getfield 78, 3) := by decide +kernel
theorem dX5_mends_53 : decode cX5_mends 53 = .ok (.if_icmp .ge 33, 3) := by decide +kernel
theorem dX5_mends_56 : decode cX5_mends 56 = .ok (.iload 6, 2) := by decide +kernel
theorem dX5_mends_58 : decode cX5_mends 58 = .ok (.aload_n 0, 1) := by decide +kernel
theorem dX5_mends_59 : decode cX5_mends 59 = .ok (.getfield 17, 3) := by decide +kernel
theorem dX5_mends_62 : decode cX5_mends 62 = .ok (.iload 7, 2) := by decide +kernel
theorem dX5_mends_64 : decode cX5_mends 64 = .ok (.iaload, 1) := by decide +kernel
theorem dX5_mends_65 : decode cX5_mends 65 = .ok (.iconst 2, 1) := by decide +kernel
theorem dX5_mends_66 : decode cX5_mends 66 = .ok (.if_icmp .ne 10, 3) := by decide +kernel
theorem dX5_mends_69 : decode cX5_mends 69 = .ok (.iconst 1, 1) := by decide +kernel
theorem dX5_mends_70 : decode cX5_mends 70 = .ok (.iload 7, 2) := by decide +kernel
theorem dX5_mends_72 : decode cX5_mends 72 = .ok (.ishl, 1) := by decide +kernel
theorem dX5_mends_73 : decode cX5_mends 73 = .ok (.goto 4, 3) := by decide +kernel
theorem dX5_mends_76 : decode cX5_mends 76 = .ok (.iconst 0, 1) := by decide +kernel
theorem dX5_mends_77 : decode cX5_mends 77 = .ok (.ior, 1) := by decide +kernel
theorem dX5_mends_78 : decode cX5_mends 78 = .ok (.istore 6, 2) := by decide +kernel
theorem dX5_mends_80 : decode cX5_mends 80 = .ok (.iinc 7 1, 3) := by decide +kernel
theorem dX5_mends_83 : decode cX5_mends 83 = .ok (.goto (-36), 3) := by decide +kernel
theorem dX5_mends_86 : decode cX5_mends 86 = .ok (.iconst (-1), 1) := by decide +kernel
theorem dX5_mends_87 : decode cX5_mends 87 = .ok (.istore 7, 2) := by decide +kernel
theorem dX5_mends_89 : decode cX5_mends 89 = .ok (.iconst 0, 1) := by decide +kernel
theorem dX5_mends_90 : decode cX5_mends 90 = .ok (.istore 8, 2) := by decide +kernel
theorem dX5_mends_92 : decode cX5_mends 92 = .ok (.iconst 0, 1) := by decide +kernel
theorem dX5_mends_93 : decode cX5_mends 93 = .ok (.istore 9, 2) := by decide +kernel
theorem dX5_mends_95 : decode cX5_mends 95 = .ok (.iload 9, 2) := by decide +kernel
theorem dX5_mends_97 : decode cX5_mends 97 = .ok (.iconst 1, 1) := by decide +kernel
theorem dX5_mends_98 : decode cX5_mends 98 = .ok (.aload_n 0, 1) := by decide +kernel
theorem dX5_mends_99 : decode cX5_mends 99 = .ok (.getfield 78, 3) := by decide +kernel
theorem dX5_mends_102 : decode cX5_mends 102 = .ok (.ishl, 1) := by decide +kernel
theorem dX5_mends_103 : decode cX5_mends 103 = .ok (.if_icmp .ge 125, 3) := by decide +kernel
theorem dX5_mends_106 : decode cX5_mends 106 = .ok (.iconst 0, 1) := by decide +kernel
theorem dX5_mends_107 : decode cX5_mends 107 = .ok (.istore 10, 2) := by decide +kernel
theorem dX5_mends_109 : decode cX5_mends 109 = .ok (.iconst 0, 1) := by decide +kernel
theorem dX5_mends_110 : decode cX5_mends 110 = .ok (.istore 11, 2) := by decide +kernel
theorem dX5_mends_112 : decode cX5_mends 112 = .ok (.iload 11, 2) := by decide +kernel
theorem dX5_mends_114 : decode cX5_mends 114 = .ok (.aload_n 0, 1) := by decide +kernel
theorem dX5_mends_115 : decode cX5_mends 115 = .ok (.getfield 78, 3) := by decide +kernel
theorem dX5_mends_118 : decode cX5_mends 118 = .ok (.if_icmp .ge 32, 3) := by decide +kernel
theorem dX5_mends_121 : decode cX5_mends 121 = .ok (.iload 10, 2) := by decide +kernel
theorem dX5_mends_123 : decode cX5_mends 123 = .ok (.iload 9, 2) := by decide +kernel
theorem dX5_mends_125 : decode cX5_mends 125 = .ok (.iload 11, 2) := by decide +kernel
theorem dX5_mends_127 : decode cX5_mends 127 = .ok (.invokestatic 232, 3) := by decide +kernel
theorem dX5_mends_130 : decode cX5_mends 130 = .ok (.ifCond .eq 10, 3) := by decide +kernel
theorem dX5_mends_133 : decode cX5_mends 133 = .ok (.iconst 1, 1) := by decide +kernel
theorem dX5_mends_134 : decode cX5_mends 134 = .ok (.iload 11, 2) := by decide +kernel
theorem dX5_mends_136 : decode cX5_mends 136 = .ok (.iadd, 1) := by decide +kernel
theorem dX5_mends_137 : decode cX5_mends 137 = .ok (.goto 4, 3) := by decide +kernel
theorem dX5_mends_140 : decode cX5_mends 140 = .ok (.iconst 0, 1) := by decide +kernel
theorem dX5_mends_141 : decode cX5_mends 141 = .ok (.iadd, 1) := by decide +kernel
theorem dX5_mends_142 : decode cX5_mends 142 = .ok (.istore 10, 2) := by decide +kernel
theorem dX5_mends_144 : decode cX5_mends 144 = .ok (.iinc 11 1, 3) := by decide +kernel
theorem dX5_mends_147 : decode cX5_mends 147 = .ok (.goto (-35), 3) := by decide +kernel
theorem dX5_mends_150 : decode cX5_mends 150 = .ok (.iload 9, 2) := by decide +kernel
theorem dX5_mends_152 : decode cX5_mends 152 = .ok (.iload 6, 2) := by decide +kernel
theorem dX5_mends_154 : decode cX5_mends 154 = .ok (.iconst (-1), 1) := by decide +kernel
theorem dX5_mends_155 : decode cX5_mends 155 = .ok (.ixor, 1) := by decide +kernel
theorem dX5_mends_156 : decode cX5_mends 156 = .ok (.iand, 1) := by decide +kernel
theorem dX5_mends_157 : decode cX5_mends 157 = .ok (.ifCond .ne 65, 3) := by decide +kernel
theorem dX5_mends_160 : decode cX5_mends 160 = .ok (.iload 7, 2) := by decide +kernel
theorem dX5_mends_162 : decode cX5_mends 162 = .ok (.iconst (-1), 1) := by decide +kernel
theorem dX5_mends_163 : decode cX5_mends 163 = .ok (.if_icmp .eq 10, 3) := by decide +kernel
theorem dX5_mends_166 : decode cX5_mends 166 = .ok (.iload 10, 2) := by decide +kernel
theorem dX5_mends_168 : decode cX5_mends 168 = .ok (.iload 8, 2) := by decide +kernel
theorem dX5_mends_170 : decode cX5_mends 170 = .ok (.if_icmp .ge 52, 3) := by decide +kernel
theorem dX5_mends_173 : decode cX5_mends 173 = .ok (.aload_n 0, 1) := by decide +kernel
theorem dX5_mends_174 : decode cX5_mends 174 = .ok (.iload 9, 2) := by decide +kernel
theorem dX5_mends_176 : decode cX5_mends 176 = .ok (.iconst 0, 1) := by decide +kernel
theorem dX5_mends_177 : decode cX5_mends 177 = .ok (.invokevirtual 308, 3) := by decide +kernel
theorem dX5_mends_180 : decode cX5_mends 180 = .ok (.aload_n 0, 1) := by decide +kernel
theorem dX5_mends_181 : decode cX5_mends 181 = .ok (.iload_n 1, 1) := by decide +kernel
theorem dX5_mends_182 : decode cX5_mends 182 = .ok (.iload_n 2, 1) := by decide +kernel
theorem dX5_mends_183 : decode cX5_mends 183 = .ok (.iload_n 3, 1) := by decide +kernel
theorem dX5_mends_184 : decode cX5_mends 184 = .ok (.invokevirtual 311, 3) := by decide +kernel
theorem dX5_mends_187 : decode cX5_mends 187 = .ok (.ifCond .eq 8, 3) := by decide +kernel
theorem dX5_mends_190 : decode cX5_mends 190 = .ok (.iload 9, 2) := by decide +kernel
theorem dX5_mends_192 : decode cX5_mends 192 = .ok (.goto 5, 3) := by decide +kernel
theorem dX5_mends_195 : decode cX5_mends 195 = .ok (.iload 7, 2) := by decide +kernel
theorem dX5_mends_197 : decode cX5_mends 197 = .ok (.istore 7, 2) := by decide +kernel
theorem dX5_mends_199 : decode cX5_mends 199 = .ok (.iload 7, 2) := by decide +kernel
theorem dX5_mends_201 : decode cX5_mends 201 = .ok (.iload 9, 2) := by decide +kernel
theorem dX5_mends_203 : decode cX5_mends 203 = .ok (.if_icmp .ne 8, 3) := by decide +kernel
theorem dX5_mends_206 : decode cX5_mends 206 = .ok (.iload 10, 2) := by decide +kernel
theorem dX5_mends_208 : decode cX5_mends 208 = .ok (.goto 5, 3) := by decide +kernel
theorem dX5_mends_211 : decode cX5_mends 211 = .ok (.iload 8, 2) := by decide +kernel
theorem dX5_mends_213 : decode cX5_mends 213 = .ok (.istore 8, 2) := by decide +kernel
theorem dX5_mends_215 : decode cX5_mends 215 = .ok (.aload_n 0, 1) := by decide +kernel
theorem dX5_mends_216 : decode cX5_mends 216 = .ok (.iload 9, 2) := by decide +kernel
theorem dX5_mends_218 : decode cX5_mends 218 = .ok (.iconst 2, 1) := by decide +kernel
theorem dX5_mends_219 : decode cX5_mends 219 = .ok (.invokevirtual 308, 3) := by decide +kernel
theorem dX5_mends_222 : decode cX5_mends 222 = .ok (.iinc 9 1, 3) := by decide +kernel
theorem dX5_mends_225 : decode cX5_mends 225 = .ok (.goto (-130), 3) := by decide +kernel
theorem dX5_mends_228 : decode cX5_mends 228 = .ok (.iload 7, 2) := by decide +kernel
theorem dX5_mends_230 : decode cX5_mends 230 = .ok (.iconst (-1), 1) := by decide +kernel
theorem dX5_mends_231 : decode cX5_mends 231 = .ok (.if_icmp .eq 9, 3) := by decide +kernel
theorem dX5_mends_234 : decode cX5_mends 234 = .ok (.iload 4, 2) := by decide +kernel
theorem dX5_mends_236 : decode cX5_mends 236 = .ok (.iconst 1, 1) := by decide +kernel
theorem dX5_mends_237 : decode cX5_mends 237 = .ok (.if_icmp .ne 8, 3) := by decide +kernel
theorem dX5_mends_240 : decode cX5_mends 240 = .ok (.iload 7, 2) := by decide +kernel
theorem dX5_mends_242 : decode cX5_mends 242 = .ok (.goto 5, 3) := by decide +kernel
theorem dX5_mends_245 : decode cX5_mends 245 = .ok (.iload 8, 2) := by decide +kernel
theorem dX5_mends_247 : decode cX5_mends 247 = .ok (.ireturn, 1) := by decide +kernel
set_option maxRecDepth 20000 in
theorem ggX5_mend_X5_has : GoodIn wsX5_mend wsX5_has := goodIn_r _ [6] (by decide +kernel) (by decide +kernel)
set_option maxRecDepth 20000 in
theorem gX5_mend_X5_has : GoodIn wsX5_mend (va_wsS RX5 232 yX5_has wsX5_has) := goodIn_app (goodIn_of _ (by decide +kernel)) ggX5_mend_X5_has
theorem dX5_mend_0 : decode cX5_mend 0 = .ok (.iconst 0, 1) := by decide +kernel
theorem dX5_mend_1 : decode cX5_mend 1 = .ok (.istore_n 3, 1) := by decide +kernel
theorem dX5_mend_2 : decode cX5_mend 2 = .ok (.iload_n 3, 1) := by decide +kernel
theorem dX5_mend_3 : decode cX5_mend 3 = .ok (.aload_n 0, 1) := by decide +kernel
theorem dX5_mend_4 : decode cX5_mend 4 = .ok (.getfield 78, 3) := by decide +kernel
theorem dX5_mend_7 : decode cX5_mend 7 = .ok (.if_icmp .ge 33, 3) := by decide +kernel
theorem dX5_mend_10 : decode cX5_mend 10 = .ok (.aload_n 0, 1) := by decide +kernel
theorem dX5_mend_11 : decode cX5_mend 11 = .ok (.getfield 17, 3) := by decide +kernel
theorem dX5_mend_14 : decode cX5_mend 14 = .ok (.iload_n 3, 1) := by decide +kernel
theorem dX5_mend_15 : decode cX5_mend 15 = .ok (.iload_n 1, 1) := by decide +kernel
theorem dX5_mend_16 : decode cX5_mend 16 = .ok (.iload_n 3, 1) := by decide +kernel
theorem dX5_mend_17 : decode cX5_mend 17 = .ok (.invokestatic 232, 3) := by decide +kernel
theorem dX5_mend_20 : decode cX5_mend 20 = .ok (.ifCond .eq 7, 3) := by decide +kernel
theorem dX5_mend_23 : decode cX5_mend 23 = .ok (.iload_n 2, 1) := by decide +kernel
theorem dX5_mend_24 : decode cX5_mend 24 = .ok (.goto 9, 3) := by decide +kernel
theorem dX5_mend_27 : decode cX5_mend 27 = .ok (.aload_n 0, 1) := by decide +kernel
theorem dX5_mend_28 : decode cX5_mend 28 = .ok (.getfield 17, 3) := by decide +kernel
theorem dX5_mend_31 : decode cX5_mend 31 = .ok (.iload_n 3, 1) := by decide +kernel
theorem dX5_mend_32 : decode cX5_mend 32 = .ok (.iaload, 1) := by decide +kernel
theorem dX5_mend_33 : decode cX5_mend 33 = .ok (.iastore, 1) := by decide +kernel
theorem dX5_mend_34 : decode cX5_mend 34 = .ok (.iinc 3 1, 3) := by decide +kernel
theorem dX5_mend_37 : decode cX5_mend 37 = .ok (.goto (-35), 3) := by decide +kernel
theorem dX5_mend_40 : decode cX5_mend 40 = .ok (.return_, 1) := by decide +kernel
set_option maxRecDepth 20000 in
theorem ggX5_seen_X5_isHouse : GoodIn wsX5_seen wsX5_isHouse := goodIn_r _ [7, 8, 9, 10, 6, 11, 17, 18, 19, 20, 21, 22, 23, 24, 25, 26, 27, 28, 29, 30, 31, 32, 33, 34, 35, 36, 37, 38, 39, 40, 41, 42, 43, 44, 45, 46, 47, 48, 49, 50, 51, 52, 53, 54, 55, 56] (by decide +kernel) (by decide +kernel)
set_option maxRecDepth 20000 in
theorem gX5_seen_X5_isHouse : GoodIn wsX5_seen (wsV RX5 239 RX5 yX5_isHouse wsX5_isHouse) := goodIn_app (goodIn_of _ (by decide +kernel)) ggX5_seen_X5_isHouse
set_option maxRecDepth 20000 in
theorem ggX5_seen_X5_isPlot : GoodIn wsX5_seen wsX5_isPlot := goodIn_r _ [15, 16, 9, 10, 6, 11, 17, 18, 19, 20, 21, 22, 23, 24, 25, 26, 27, 28, 29, 30, 31, 32, 33, 34, 35, 36, 37, 38, 39, 40, 41, 42, 43, 44, 45, 46, 47, 48, 49, 50, 51, 52, 53, 54, 55, 56] (by decide +kernel) (by decide +kernel)
set_option maxRecDepth 20000 in
theorem gX5_seen_X5_isPlot : GoodIn wsX5_seen (wsV RX5 219 RX5 yX5_isPlot wsX5_isPlot) := goodIn_app (goodIn_of _ (by decide +kernel)) ggX5_seen_X5_isPlot
set_option maxRecDepth 20000 in
theorem ggX5_seen_X5_in : GoodIn wsX5_seen wsX5_in := goodIn_r _ [11] (by decide +kernel) (by decide +kernel)
set_option maxRecDepth 20000 in
theorem gX5_seen_X5_in : GoodIn wsX5_seen (va_wsS RX5 81 yX5_in wsX5_in) := goodIn_app (goodIn_of _ (by decide +kernel)) ggX5_seen_X5_in
theorem dX5_seen_0 : decode cX5_seen 0 = .ok (.aload_n 0, 1) := by decide +kernel
theorem dX5_seen_1 : decode cX5_seen 1 = .ok (.iload_n 1, 1) := by decide +kernel
theorem dX5_seen_2 : decode cX5_seen 2 = .ok (.invokevirtual 239, 3) := by decide +kernel
theorem dX5_seen_5 : decode cX5_seen 5 = .ok (.ifCond .eq 11, 3) := by decide +kernel
theorem dX5_seen_8 : decode cX5_seen 8 = .ok (.aload_n 0, 1) := by decide +kernel
theorem dX5_seen_9 : decode cX5_seen 9 = .ok (.iload_n 2, 1) := by decide +kernel
theorem dX5_seen_10 : decode cX5_seen 10 = .ok (.invokevirtual 219, 3) := by decide +kernel
theorem dX5_seen_13 : decode cX5_seen 13 = .ok (.ifCond .ne 6, 3) := by decide +kernel
theorem dX5_seen_16 : decode cX5_seen 16 = .ok (.bipush (-2), 2) := by decide +kernel
theorem dX5_seen_18 : decode cX5_seen 18 = .ok (.ireturn, 1) := by decide +kernel
theorem dX5_seen_19 : decode cX5_seen 19 = .ok (.iload_n 3, 1) := by decide +kernel
theorem dX5_seen_20 : decode cX5_seen 20 = .ok (.iconst 0, 1) := by decide +kernel
theorem dX5_seen_21 : decode cX5_seen 21 = .ok (.bipush 99, 2) := by decide +kernel
theorem dX5_seen_23 : decode cX5_seen 23 = .ok (.invokestatic 81, 3) := by decide +kernel
theorem dX5_seen_26 : decode cX5_seen 26 = .ok (.ifCond .ne 6, 3) := by decide +kernel
theorem dX5_seen_29 : decode cX5_seen 29 = .ok (.bipush (-3), 2) := by decide +kernel
theorem dX5_seen_31 : decode cX5_seen 31 = .ok (.ireturn, 1) := by decide +kernel
theorem dX5_seen_32 : decode cX5_seen 32 = .ok (.aload_n 0, 1) := by decide +kernel
theorem dX5_seen_33 : decode cX5_seen 33 = .ok (.getfield 212, 3) := by decide +kernel
theorem dX5_seen_36 : decode cX5_seen 36 = .ok (.bipush 8, 2) := by decide +kernel
theorem dX5_seen_38 : decode cX5_seen 38 = .ok (.if_icmp .ne 6, 3) := by decide +kernel
theorem dX5_seen_41 : decode cX5_seen 41 = .ok (.bipush (-5), 2) := by decide +kernel
theorem dX5_seen_43 : decode cX5_seen 43 = .ok (.ireturn, 1) := by decide +kernel
theorem dX5_seen_44 : decode cX5_seen 44 = .ok (.aload_n 0, 1) := by decide +kernel
theorem dX5_seen_45 : decode cX5_seen 45 = .ok (.getfield 51, 3) := by decide +kernel
theorem dX5_seen_48 : decode cX5_seen 48 = .ok (.iconst 3, 1) := by decide +kernel
theorem dX5_seen_49 : decode cX5_seen 49 = .ok (.aload_n 0, 1) := by decide +kernel
theorem dX5_seen_50 : decode cX5_seen 50 = .ok (.getfield 212, 3) := by decide +kernel
theorem dX5_seen_53 : decode cX5_seen 53 = .ok (.imul, 1) := by decide +kernel
theorem dX5_seen_54 : decode cX5_seen 54 = .ok (.iload_n 1, 1) := by decide +kernel
theorem dX5_seen_55 : decode cX5_seen 55 = .ok (.iastore, 1) := by decide +kernel
theorem dX5_seen_56 : decode cX5_seen 56 = .ok (.aload_n 0, 1) := by decide +kernel
theorem dX5_seen_57 : decode cX5_seen 57 = .ok (.getfield 51, 3) := by decide +kernel
theorem dX5_seen_60 : decode cX5_seen 60 = .ok (.iconst 3, 1) := by decide +kernel
theorem dX5_seen_61 : decode cX5_seen 61 = .ok (.aload_n 0, 1) := by decide +kernel
theorem dX5_seen_62 : decode cX5_seen 62 = .ok (.getfield 212, 3) := by decide +kernel
theorem dX5_seen_65 : decode cX5_seen 65 = .ok (.imul, 1) := by decide +kernel
theorem dX5_seen_66 : decode cX5_seen 66 = .ok (.iconst 1, 1) := by decide +kernel
theorem dX5_seen_67 : decode cX5_seen 67 = .ok (.iadd, 1) := by decide +kernel
theorem dX5_seen_68 : decode cX5_seen 68 = .ok (.iload_n 2, 1) := by decide +kernel
theorem dX5_seen_69 : decode cX5_seen 69 = .ok (.iastore, 1) := by decide +kernel
theorem dX5_seen_70 : decode cX5_seen 70 = .ok (.aload_n 0, 1) := by decide +kernel
theorem dX5_seen_71 : decode cX5_seen 71 = .ok (.getfield 51, 3) := by decide +kernel
theorem dX5_seen_74 : decode cX5_seen 74 = .ok (.iconst 3, 1) := by decide +kernel
theorem dX5_seen_75 : decode cX5_seen 75 = .ok (.aload_n 0, 1) := by decide +kernel
theorem dX5_seen_76 : decode cX5_seen 76 = .ok (.getfield 212, 3) := by decide +kernel
theorem dX5_seen_79 : decode cX5_seen 79 = .ok (.imul, 1) := by decide +kernel
theorem dX5_seen_80 : decode cX5_seen 80 = .ok (.iconst 2, 1) := by decide +kernel
theorem dX5_seen_81 : decode cX5_seen 81 = .ok (.iadd, 1) := by decide +kernel
theorem dX5_seen_82 : decode cX5_seen 82 = .ok (.iload_n 3, 1) := by decide +kernel
theorem dX5_seen_83 : decode cX5_seen 83 = .ok (.iastore, 1) := by decide +kernel
theorem dX5_seen_84 : decode cX5_seen 84 = .ok (.aload_n 0, 1) := by decide +kernel
theorem dX5_seen_85 : decode cX5_seen 85 = .ok (.dup, 1) := by decide +kernel
theorem dX5_seen_86 : decode cX5_seen 86 = .ok (.getfield 212, 3) := by decide +kernel
theorem dX5_seen_89 : decode cX5_seen 89 = .ok (.iconst 1, 1) := by decide +kernel
theorem dX5_seen_90 : decode cX5_seen 90 = .ok (.iadd, 1) := by decide +kernel
theorem dX5_seen_91 : decode cX5_seen 91 = .ok (.putfield 212, 3) := by decide +kernel
theorem dX5_seen_94 : decode cX5_seen 94 = .ok (.aload_n 0, 1) := by decide +kernel
theorem dX5_seen_95 : decode cX5_seen 95 = .ok (.getfield 212, 3) := by decide +kernel
theorem dX5_seen_98 : decode cX5_seen 98 = .ok (.ireturn, 1) := by decide +kernel
theorem dX5_forget_0 : decode cX5_forget 0 = .ok (.aload_n 0, 1) := by decide +kernel
theorem dX5_forget_1 : decode cX5_forget 1 = .ok (.getfield 212, 3) := by decide +kernel
theorem dX5_forget_4 : decode cX5_forget 4 = .ok (.istore_n 1, 1) := by decide +kernel
theorem dX5_forget_5 : decode cX5_forget 5 = .ok (.aload_n 0, 1) := by decide +kernel
theorem dX5_forget_6 : decode cX5_forget 6 = .ok (.iconst 0, 1) := by decide +kernel
theorem dX5_forget_7 : decode cX5_forget 7 = .ok (.putfield 212, 3) := by decide +kernel
theorem dX5_forget_10 : decode cX5_forget 10 = .ok (.iload_n 1, 1) := by decide +kernel
theorem dX5_forget_11 : decode cX5_forget 11 = .ok (.ireturn, 1) := by decide +kernel
set_option maxRecDepth 20000 in
theorem ggX5_laws_X5_putAside : GoodIn wsX5_laws wsX5_putAside := goodIn_r _ [9, 4, 10, 11, 1, 12, 13, 8, 14, 68, 69, 70, 71, 72, 73, 74, 75, 76, 77, 78, 79, 80, 81, 82, 83, 84, 85, 86, 87, 88, 89, 90, 91, 92, 93, 94, 95, 96, 97, 98, 99, 100, 101, 102, 103, 104, 105, 106, 107] (by decide +kernel) (by decide +kernel)
set_option maxRecDepth 20000 in
theorem gX5_laws_X5_putAside : GoodIn wsX5_laws (wsV RX5 266 RX5 yX5_putAside wsX5_putAside) := goodIn_app (goodIn_of _ (by decide +kernel)) ggX5_laws_X5_putAside
set_option maxRecDepth 20000 in
theorem ggX5_laws_X5_begin : GoodIn wsX5_laws wsX5_begin := goodIn_r _ [18, 4, 19, 20, 68, 69, 70, 71, 72, 73, 74, 75, 76, 77, 78, 79, 80, 81, 82, 83, 84, 85, 86, 87, 88, 89, 90, 91, 92, 93, 94, 95, 96, 97, 98, 99, 100, 101, 102, 103, 104, 105, 106, 107] (by decide +kernel) (by decide +kernel)
set_option maxRecDepth 20000 in
theorem gX5_laws_X5_begin : GoodIn wsX5_laws (wsV RX5 75 RX5 yX5_begin wsX5_begin) := goodIn_app (goodIn_of _ (by decide +kernel)) ggX5_laws_X5_begin
set_option maxRecDepth 20000 in
theorem ggX5_laws_X5_goNight : GoodIn wsX5_laws wsX5_goNight := goodIn_r _ [24, 1, 25, 4, 26, 27, 28, 29, 8, 30, 31, 32, 33, 34, 35, 36, 37, 38, 39, 40, 41, 42, 43, 44, 45, 46, 47, 48, 49, 50, 51, 52, 53, 54, 55, 56, 57, 58, 59, 60, 61, 62, 63, 68, 69, 70, 71, 72, 73, 74, 75, 76, 77, 78, 79, 80, 81, 82, 83, 84, 85, 86, 87, 88, 89, 90, 91, 92, 93, 94, 95, 96, 97, 98, 99, 100, 101, 102, 103, 104, 105, 106, 107] (by decide +kernel) (by decide +kernel)
set_option maxRecDepth 20000 in
theorem gX5_laws_X5_goNight : GoodIn wsX5_laws (wsV RX5 259 RX5 yX5_goNight wsX5_goNight) := goodIn_app (goodIn_of _ (by decide +kernel)) ggX5_laws_X5_goNight
set_option maxRecDepth 20000 in
theorem ggX5_laws_X5_putBack : GoodIn wsX5_laws wsX5_putBack := goodIn_r _ [67, 10, 4, 12, 13, 8, 14, 68, 69, 70, 71, 72, 73, 74, 75, 76, 77, 78, 79, 80, 81, 82, 83, 84, 85, 86, 87, 88, 89, 90, 91, 92, 93, 94, 95, 96, 97, 98, 99, 100, 101, 102, 103, 104, 105, 106, 107] (by decide +kernel) (by decide +kernel)
set_option maxRecDepth 20000 in
theorem gX5_laws_X5_putBack : GoodIn wsX5_laws (wsV RX5 269 RX5 yX5_putBack wsX5_putBack) := goodIn_app (goodIn_of _ (by decide +kernel)) ggX5_laws_X5_putBack
theorem dX5_laws_0 : decode cX5_laws 0 = .ok (.iconst 0, 1) := by decide +kernel
theorem dX5_laws_1 : decode cX5_laws 1 = .ok (.istore_n 1, 1) := by decide +kernel
theorem dX5_laws_2 : decode cX5_laws 2 = .ok (.aload_n 0, 1) := by decide +kernel
theorem dX5_laws_3 : decode cX5_laws 3 = .ok (.invokevirtual 266, 3) := by decide +kernel
theorem dX5_laws_6 : decode cX5_laws 6 = .ok (.iconst 0, 1) := by decide +kernel
theorem dX5_laws_7 : decode cX5_laws 7 = .ok (.istore_n 2, 1) := by decide +kernel
theorem dX5_laws_8 : decode cX5_laws 8 = .ok (.iload_n 2, 1) := by decide +kernel
theorem dX5_laws_9 : decode cX5_laws 9 = .ok (.iconst 3, 1) := by decide +kernel
theorem dX5_laws_10 : decode cX5_laws 10 = .ok (.if_icmp .ge 126, 3) := by decide +kernel
theorem dX5_laws_13 : decode cX5_laws 13 = .ok (.aload_n 0, 1) := by decide +kernel
theorem dX5_laws_14 : decode cX5_laws 14 = .ok (.invokevirtual 75, 3) := by decide +kernel
theorem dX5_laws_17 : decode cX5_laws 17 = .ok (.aload_n 0, 1) := by decide +kernel
theorem dX5_laws_18 : decode cX5_laws 18 = .ok (.iload_n 2, 1) := by decide +kernel
theorem dX5_laws_19 : decode cX5_laws 19 = .ok (.putfield 245, 3) := by decide +kernel
theorem dX5_laws_22 : decode cX5_laws 22 = .ok (.iconst 1, 1) := by decide +kernel
theorem dX5_laws_23 : decode cX5_laws 23 = .ok (.istore_n 3, 1) := by decide +kernel
theorem dX5_laws_24 : decode cX5_laws 24 = .ok (.iconst 0, 1) := by decide +kernel
theorem dX5_laws_25 : decode cX5_laws 25 = .ok (.istore 4, 2) := by decide +kernel
theorem dX5_laws_27 : decode cX5_laws 27 = .ok (.iload 4, 2) := by decide +kernel
theorem dX5_laws_29 : decode cX5_laws 29 = .ok (.bipush 100, 2) := by decide +kernel
theorem dX5_laws_31 : decode cX5_laws 31 = .ok (.if_icmp .ge 85, 3) := by decide +kernel
theorem dX5_laws_34 : decode cX5_laws 34 = .ok (.iconst 0, 1) := by decide +kernel
theorem dX5_laws_35 : decode cX5_laws 35 = .ok (.istore 5, 2) := by decide +kernel
theorem dX5_laws_37 : decode cX5_laws 37 = .ok (.iload 5, 2) := by decide +kernel
theorem dX5_laws_39 : decode cX5_laws 39 = .ok (.aload_n 0, 1) := by decide +kernel
theorem dX5_laws_40 : decode cX5_laws 40 = .ok (.getfield 212, 3) := by decide +kernel
theorem dX5_laws_43 : decode cX5_laws 43 = .ok (.if_icmp .ge 63, 3) := by decide +kernel
theorem dX5_laws_46 : decode cX5_laws 46 = .ok (.iload_n 3, 1) := by decide +kernel
theorem dX5_laws_47 : decode cX5_laws 47 = .ok (.ifCond .eq 51, 3) := by decide +kernel
theorem dX5_laws_50 : decode cX5_laws 50 = .ok (.aload_n 0, 1) := by decide +kernel
theorem dX5_laws_51 : decode cX5_laws 51 = .ok (.getfield 51, 3) := by decide +kernel
theorem dX5_laws_54 : decode cX5_laws 54 = .ok (.iconst 3, 1) := by decide +kernel
theorem dX5_laws_55 : decode cX5_laws 55 = .ok (.iload 5, 2) := by decide +kernel
theorem dX5_laws_57 : decode cX5_laws 57 = .ok (.imul, 1) := by decide +kernel
theorem dX5_laws_58 : decode cX5_laws 58 = .ok (.iconst 2, 1) := by decide +kernel
theorem dX5_laws_59 : decode cX5_laws 59 = .ok (.iadd, 1) := by decide +kernel
theorem dX5_laws_60 : decode cX5_laws 60 = .ok (.iaload, 1) := by decide +kernel
theorem dX5_laws_61 : decode cX5_laws 61 = .ok (.iload 4, 2) := by decide +kernel
theorem dX5_laws_63 : decode cX5_laws 63 = .ok (.if_icmp .ne 31, 3) := by decide +kernel
theorem dX5_laws_66 : decode cX5_laws 66 = .ok (.aload_n 0, 1) := by decide +kernel
theorem dX5_laws_67 : decode cX5_laws 67 = .ok (.getfield 38, 3) := by decide +kernel
theorem dX5_laws_70 : decode cX5_laws 70 = .ok (.aload_n 0, 1) := by decide +kernel
theorem dX5_laws_71 : decode cX5_laws 71 = .ok (.getfield 51, 3) := by decide +kernel
theorem dX5_laws_74 : decode cX5_laws 74 = .ok (.iconst 3, 1) := by decide +kernel
theorem dX5_laws_75 : decode cX5_laws 75 = .ok (.iload 5, 2) := by decide +kernel
theorem dX5_laws_77 : decode cX5_laws 77 = .ok (.imul, 1) := by decide +kernel
theorem dX5_laws_78 : decode cX5_laws 78 = .ok (.iaload, 1) := by decide +kernel
theorem dX5_laws_79 : decode cX5_laws 79 = .ok (.iaload, 1) := by decide +kernel
theorem dX5_laws_80 : decode cX5_laws 80 = .ok (.aload_n 0, 1) := by decide +kernel
theorem dX5_laws_81 : decode cX5_laws 81 = .ok (.getfield 51, 3) := by decide +kernel
theorem dX5_laws_84 : decode cX5_laws 84 = .ok (.iconst 3, 1) := by decide +kernel
theorem dX5_laws_85 : decode cX5_laws 85 = .ok (.iload 5, 2) := by decide +kernel
theorem dX5_laws_87 : decode cX5_laws 87 = .ok (.imul, 1) := by decide +kernel
theorem dX5_laws_88 : decode cX5_laws 88 = .ok (.iconst 1, 1) := by decide +kernel
theorem dX5_laws_89 : decode cX5_laws 89 = .ok (.iadd, 1) := by decide +kernel
theorem dX5_laws_90 : decode cX5_laws 90 = .ok (.iaload, 1) := by decide +kernel
theorem dX5_laws_91 : decode cX5_laws 91 = .ok (.if_icmp .ne 7, 3) := by decide +kernel
theorem dX5_laws_94 : decode cX5_laws 94 = .ok (.iconst 1, 1) := by decide +kernel
theorem dX5_laws_95 : decode cX5_laws 95 = .ok (.goto 4, 3) := by decide +kernel
theorem dX5_laws_98 : decode cX5_laws 98 = .ok (.iconst 0, 1) := by decide +kernel
theorem dX5_laws_99 : decode cX5_laws 99 = .ok (.istore_n 3, 1) := by decide +kernel
theorem dX5_laws_100 : decode cX5_laws 100 = .ok (.iinc 5 1, 3) := by decide +kernel
theorem dX5_laws_103 : decode cX5_laws 103 = .ok (.goto (-66), 3) := by decide +kernel
theorem dX5_laws_106 : decode cX5_laws 106 = .ok (.aload_n 0, 1) := by decide +kernel
theorem dX5_laws_107 : decode cX5_laws 107 = .ok (.invokevirtual 259, 3) := by decide +kernel
theorem dX5_laws_110 : decode cX5_laws 110 = .ok (.iinc 4 1, 3) := by decide +kernel
theorem dX5_laws_113 : decode cX5_laws 113 = .ok (.goto (-86), 3) := by decide +kernel
theorem dX5_laws_116 : decode cX5_laws 116 = .ok (.iload_n 1, 1) := by decide +kernel
theorem dX5_laws_117 : decode cX5_laws 117 = .ok (.iload_n 3, 1) := by decide +kernel
theorem dX5_laws_118 : decode cX5_laws 118 = .ok (.ifCond .eq 9, 3) := by decide +kernel
theorem dX5_laws_121 : decode cX5_laws 121 = .ok (.iconst 1, 1) := by decide +kernel
theorem dX5_laws_122 : decode cX5_laws 122 = .ok (.iload_n 2, 1) := by decide +kernel
theorem dX5_laws_123 : decode cX5_laws 123 = .ok (.ishl, 1) := by decide +kernel
theorem dX5_laws_124 : decode cX5_laws 124 = .ok (.goto 4, 3) := by decide +kernel
theorem dX5_laws_127 : decode cX5_laws 127 = .ok (.iconst 0, 1) := by decide +kernel
theorem dX5_laws_128 : decode cX5_laws 128 = .ok (.ior, 1) := by decide +kernel
theorem dX5_laws_129 : decode cX5_laws 129 = .ok (.istore_n 1, 1) := by decide +kernel
theorem dX5_laws_130 : decode cX5_laws 130 = .ok (.iinc 2 1, 3) := by decide +kernel
theorem dX5_laws_133 : decode cX5_laws 133 = .ok (.goto (-125), 3) := by decide +kernel
theorem dX5_laws_136 : decode cX5_laws 136 = .ok (.aload_n 0, 1) := by decide +kernel
theorem dX5_laws_137 : decode cX5_laws 137 = .ok (.invokevirtual 269, 3) := by decide +kernel
theorem dX5_laws_140 : decode cX5_laws 140 = .ok (.iload_n 1, 1) := by decide +kernel
theorem dX5_laws_141 : decode cX5_laws 141 = .ok (.ireturn, 1) := by decide +kernel
set_option maxRecDepth 20000 in
theorem ggX5_count_X5_full : GoodIn wsX5_count wsX5_full := goodIn_r _ [13, 2, 6, 14, 15, 16, 17, 12, 18, 1, 19, 20, 21, 22, 23, 24, 25, 26, 27, 28, 29, 30, 31, 32, 33, 34, 35, 36, 37, 38, 39, 40, 41, 42, 43, 44, 45, 46, 47, 48, 49, 50, 51, 52, 53, 54, 55, 56, 57, 58] (by decide +kernel) (by decide +kernel)
set_option maxRecDepth 20000 in
theorem gX5_count_X5_full : GoodIn wsX5_count (wsV RX5 228 RX5 yX5_full wsX5_full) := goodIn_app (goodIn_of _ (by decide +kernel)) ggX5_count_X5_full
theorem dX5_count_0 : decode cX5_count 0 = .ok (.iload_n 1, 1) := by decide +kernel
theorem dX5_count_1 : decode cX5_count 1 = .ok (.tableswitch 158 0 10 #[59, 64, 69, 74, 79, 84, 92, 112, 132, 137, 153], 59) := by decide +kernel
theorem dX5_count_60 : decode cX5_count 60 = .ok (.aload_n 0, 1) := by decide +kernel
theorem dX5_count_61 : decode cX5_count 61 = .ok (.getfield 7, 3) := by decide +kernel
theorem dX5_count_64 : decode cX5_count 64 = .ok (.ireturn, 1) := by decide +kernel
theorem dX5_count_65 : decode cX5_count 65 = .ok (.aload_n 0, 1) := by decide +kernel
theorem dX5_count_66 : decode cX5_count 66 = .ok (.getfield 78, 3) := by decide +kernel
theorem dX5_count_69 : decode cX5_count 69 = .ok (.ireturn, 1) := by decide +kernel
theorem dX5_count_70 : decode cX5_count 70 = .ok (.aload_n 0, 1) := by decide +kernel
theorem dX5_count_71 : decode cX5_count 71 = .ok (.getfield 85, 3) := by decide +kernel
theorem dX5_count_74 : decode cX5_count 74 = .ok (.ireturn, 1) := by decide +kernel
theorem dX5_count_75 : decode cX5_count 75 = .ok (.aload_n 0, 1) := by decide +kernel
theorem dX5_count_76 : decode cX5_count 76 = .ok (.getfield 88, 3) := by decide +kernel
theorem dX5_count_79 : decode cX5_count 79 = .ok (.ireturn, 1) := by decide +kernel
theorem dX5_count_80 : decode cX5_count 80 = .ok (.aload_n 0, 1) := by decide +kernel
theorem dX5_count_81 : decode cX5_count 81 = .ok (.getfield 91, 3) := by decide +kernel
theorem dX5_count_84 : decode cX5_count 84 = .ok (.ireturn, 1) := by decide +kernel
theorem dX5_count_85 : decode cX5_count 85 = .ok (.aload_n 0, 1) := by decide +kernel
theorem dX5_count_86 : decode cX5_count 86 = .ok (.getfield 38, 3) := by decide +kernel
theorem dX5_count_89 : decode cX5_count 89 = .ok (.bipush 16, 2) := by decide +kernel
theorem dX5_count_91 : decode cX5_count 91 = .ok (.iaload, 1) := by decide +kernel
theorem dX5_count_92 : decode cX5_count 92 = .ok (.ireturn, 1) := by decide +kernel
theorem dX5_count_93 : decode cX5_count 93 = .ok (.aload_n 0, 1) := by decide +kernel
theorem dX5_count_94 : decode cX5_count 94 = .ok (.getfield 91, 3) := by decide +kernel
theorem dX5_count_97 : decode cX5_count 97 = .ok (.iconst 1, 1) := by decide +kernel
theorem dX5_count_98 : decode cX5_count 98 = .ok (.if_icmp .ne 13, 3) := by decide +kernel
theorem dX5_count_101 : decode cX5_count 101 = .ok (.aload_n 0, 1) := by decide +kernel
theorem dX5_count_102 : decode cX5_count 102 = .ok (.getfield 38, 3) := by decide +kernel
theorem dX5_count_105 : decode cX5_count 105 = .ok (.bipush 17, 2) := by decide +kernel
theorem dX5_count_107 : decode cX5_count 107 = .ok (.iaload, 1) := by decide +kernel
theorem dX5_count_108 : decode cX5_count 108 = .ok (.goto 4, 3) := by decide +kernel
theorem dX5_count_111 : decode cX5_count 111 = .ok (.iconst (-1), 1) := by decide +kernel
theorem dX5_count_112 : decode cX5_count 112 = .ok (.ireturn, 1) := by decide +kernel
theorem dX5_count_113 : decode cX5_count 113 = .ok (.aload_n 0, 1) := by decide +kernel
theorem dX5_count_114 : decode cX5_count 114 = .ok (.getfield 91, 3) := by decide +kernel
theorem dX5_count_117 : decode cX5_count 117 = .ok (.iconst 3, 1) := by decide +kernel
theorem dX5_count_118 : decode cX5_count 118 = .ok (.if_icmp .ne 13, 3) := by decide +kernel
theorem dX5_count_121 : decode cX5_count 121 = .ok (.aload_n 0, 1) := by decide +kernel
theorem dX5_count_122 : decode cX5_count 122 = .ok (.getfield 38, 3) := by decide +kernel
theorem dX5_count_125 : decode cX5_count 125 = .ok (.bipush 18, 2) := by decide +kernel
theorem dX5_count_127 : decode cX5_count 127 = .ok (.iaload, 1) := by decide +kernel
theorem dX5_count_128 : decode cX5_count 128 = .ok (.goto 4, 3) := by decide +kernel
theorem dX5_count_131 : decode cX5_count 131 = .ok (.iconst (-1), 1) := by decide +kernel
theorem dX5_count_132 : decode cX5_count 132 = .ok (.ireturn, 1) := by decide +kernel
theorem dX5_count_133 : decode cX5_count 133 = .ok (.aload_n 0, 1) := by decide +kernel
theorem dX5_count_134 : decode cX5_count 134 = .ok (.getfield 212, 3) := by decide +kernel
theorem dX5_count_137 : decode cX5_count 137 = .ok (.ireturn, 1) := by decide +kernel
theorem dX5_count_138 : decode cX5_count 138 = .ok (.iconst 1, 1) := by decide +kernel
theorem dX5_count_139 : decode cX5_count 139 = .ok (.aload_n 0, 1) := by decide +kernel
theorem dX5_count_140 : decode cX5_count 140 = .ok (.getfield 7, 3) := by decide +kernel
theorem dX5_count_143 : decode cX5_count 143 = .ok (.ishl, 1) := by decide +kernel
theorem dX5_count_144 : decode cX5_count 144 = .ok (.iconst 1, 1) := by decide +kernel
theorem dX5_count_145 : decode cX5_count 145 = .ok (.isub, 1) := by decide +kernel
theorem dX5_count_146 : decode cX5_count 146 = .ok (.aload_n 0, 1) := by decide +kernel
theorem dX5_count_147 : decode cX5_count 147 = .ok (.invokevirtual 228, 3) := by decide +kernel
theorem dX5_count_150 : decode cX5_count 150 = .ok (.iconst (-1), 1) := by decide +kernel
theorem dX5_count_151 : decode cX5_count 151 = .ok (.ixor, 1) := by decide +kernel
theorem dX5_count_152 : decode cX5_count 152 = .ok (.iand, 1) := by decide +kernel
theorem dX5_count_153 : decode cX5_count 153 = .ok (.ireturn, 1) := by decide +kernel
theorem dX5_count_154 : decode cX5_count 154 = .ok (.aload_n 0, 1) := by decide +kernel
theorem dX5_count_155 : decode cX5_count 155 = .ok (.getfield 94, 3) := by decide +kernel
theorem dX5_count_158 : decode cX5_count 158 = .ok (.ireturn, 1) := by decide +kernel
theorem dX5_count_159 : decode cX5_count 159 = .ok (.bipush (-3), 2) := by decide +kernel
theorem dX5_count_161 : decode cX5_count 161 = .ok (.ireturn, 1) := by decide +kernel
theorem dJ9_abs_0f7a4_0 : decode cJ9_abs_0f7a4 0 = .ok (.iload_n 0, 1) := by decide +kernel
theorem dJ9_abs_0f7a4_1 : decode cJ9_abs_0f7a4 1 = .ok (.ifCond .ge 8, 3) := by decide +kernel
theorem dJ9_abs_0f7a4_4 : decode cJ9_abs_0f7a4 4 = .ok (.iload_n 0, 1) := by decide +kernel
theorem dJ9_abs_0f7a4_5 : decode cJ9_abs_0f7a4 5 = .ok (.ineg, 1) := by decide +kernel
theorem dJ9_abs_0f7a4_6 : decode cJ9_abs_0f7a4 6 = .ok (.goto 4, 3) := by decide +kernel
theorem dJ9_abs_0f7a4_9 : decode cJ9_abs_0f7a4 9 = .ok (.iload_n 0, 1) := by decide +kernel
theorem dJ9_abs_0f7a4_10 : decode cJ9_abs_0f7a4 10 = .ok (.ireturn, 1) := by decide +kernel
set_option maxRecDepth 20000 in
theorem ggJ0_length_8abf5_J0_coder_7d493 : GoodIn wsJ0_length_8abf5 wsJ0_coder_7d493 := goodIn_r _ [6, 7, 8] (by decide +kernel) (by decide +kernel)
set_option maxRecDepth 20000 in
theorem gJ0_length_8abf5_J0_coder_7d493 : GoodIn wsJ0_length_8abf5 (wsV RJ0 335 RJ0 yJ0_coder_7d493 wsJ0_coder_7d493) := goodIn_app (goodIn_of _ (by decide +kernel)) ggJ0_length_8abf5_J0_coder_7d493
theorem dJ0_length_8abf5_0 : decode cJ0_length_8abf5 0 = .ok (.aload_n 0, 1) := by decide +kernel
theorem dJ0_length_8abf5_1 : decode cJ0_length_8abf5 1 = .ok (.getfield 9, 3) := by decide +kernel
theorem dJ0_length_8abf5_4 : decode cJ0_length_8abf5 4 = .ok (.arraylength, 1) := by decide +kernel
theorem dJ0_length_8abf5_5 : decode cJ0_length_8abf5 5 = .ok (.aload_n 0, 1) := by decide +kernel
theorem dJ0_length_8abf5_6 : decode cJ0_length_8abf5 6 = .ok (.invokevirtual 335, 3) := by decide +kernel
theorem dJ0_length_8abf5_9 : decode cJ0_length_8abf5 9 = .ok (.ishr, 1) := by decide +kernel
theorem dJ0_length_8abf5_10 : decode cJ0_length_8abf5 10 = .ok (.ireturn, 1) := by decide +kernel
set_option maxRecDepth 20000 in
theorem ggJ0_charAt_5068e_J0_isLatin1_aae02 : GoodIn wsJ0_charAt_5068e wsJ0_isLatin1_aae02 := goodIn_r _ [6, 7, 8] (by decide +kernel) (by decide +kernel)
set_option maxRecDepth 20000 in
theorem gJ0_charAt_5068e_J0_isLatin1_aae02 : GoodIn wsJ0_charAt_5068e (wsV RJ0 492 RJ0 yJ0_isLatin1_aae02 wsJ0_isLatin1_aae02) := goodIn_app (goodIn_of _ (by decide +kernel)) ggJ0_charAt_5068e_J0_isLatin1_aae02
set_option maxRecDepth 20000 in
theorem ggJ0_charAt_5068e_J1_charAt_3b067 : GoodIn wsJ0_charAt_5068e wsJ1_charAt_3b067 := goodIn_r _ [12, 13, 14, 5, 15, 16, 17, 18, 19, 20] (by decide +kernel) (by decide +kernel)
set_option maxRecDepth 20000 in
theorem gJ0_charAt_5068e_J1_charAt_3b067 : GoodIn wsJ0_charAt_5068e (va_wsS RJ0 495 yJ1_charAt_3b067 wsJ1_charAt_3b067) := goodIn_app (goodIn_of _ (by decide +kernel)) ggJ0_charAt_5068e_J1_charAt_3b067
set_option maxRecDepth 20000 in
theorem ggJ0_charAt_5068e_J2_charAt_3b067 : GoodIn wsJ0_charAt_5068e wsJ2_charAt_3b067 := goodIn_r _ [24, 25, 26, 23, 27, 28, 29, 30, 31, 14, 5, 15, 16, 17, 18, 19, 20, 32, 33, 34, 35, 36, 37] (by decide +kernel) (by decide +kernel)
set_option maxRecDepth 20000 in
theorem gJ0_charAt_5068e_J2_charAt_3b067 : GoodIn wsJ0_charAt_5068e (va_wsS RJ0 498 yJ2_charAt_3b067 wsJ2_charAt_3b067) := goodIn_app (goodIn_of _ (by decide +kernel)) ggJ0_charAt_5068e_J2_charAt_3b067
theorem dJ0_charAt_5068e_0 : decode cJ0_charAt_5068e 0 = .ok (.aload_n 0, 1) := by decide +kernel
theorem dJ0_charAt_5068e_1 : decode cJ0_charAt_5068e 1 = .ok (.invokevirtual 492, 3) := by decide +kernel
theorem dJ0_charAt_5068e_4 : decode cJ0_charAt_5068e 4 = .ok (.ifCond .eq 12, 3) := by decide +kernel
theorem dJ0_charAt_5068e_7 : decode cJ0_charAt_5068e 7 = .ok (.aload_n 0, 1) := by decide +kernel
theorem dJ0_charAt_5068e_8 : decode cJ0_charAt_5068e 8 = .ok (.getfield 9, 3) := by decide +kernel
theorem dJ0_charAt_5068e_11 : decode cJ0_charAt_5068e 11 = .ok (.iload_n 1, 1) := by decide +kernel
theorem dJ0_charAt_5068e_12 : decode cJ0_charAt_5068e 12 = .ok (.invokestatic 495, 3) := by decide +kernel
theorem dJ0_charAt_5068e_15 : decode cJ0_charAt_5068e 15 = .ok (.ireturn, 1) := by decide +kernel
theorem dJ0_charAt_5068e_16 : decode cJ0_charAt_5068e 16 = .ok (.aload_n 0, 1) := by decide +kernel
theorem dJ0_charAt_5068e_17 : decode cJ0_charAt_5068e 17 = .ok (.getfield 9, 3) := by decide +kernel
theorem dJ0_charAt_5068e_20 : decode cJ0_charAt_5068e 20 = .ok (.iload_n 1, 1) := by decide +kernel
theorem dJ0_charAt_5068e_21 : decode cJ0_charAt_5068e 21 = .ok (.invokestatic 498, 3) := by decide +kernel
theorem dJ0_charAt_5068e_24 : decode cJ0_charAt_5068e 24 = .ok (.ireturn, 1) := by decide +kernel
theorem dJ0_coder_7d493_0 : decode cJ0_coder_7d493 0 = .ok (.getstatic 38, 3) := by decide +kernel
theorem dJ0_coder_7d493_3 : decode cJ0_coder_7d493 3 = .ok (.ifCond .eq 10, 3) := by decide +kernel
theorem dJ0_coder_7d493_6 : decode cJ0_coder_7d493 6 = .ok (.aload_n 0, 1) := by decide +kernel
theorem dJ0_coder_7d493_7 : decode cJ0_coder_7d493 7 = .ok (.getfield 15, 3) := by decide +kernel
theorem dJ0_coder_7d493_10 : decode cJ0_coder_7d493 10 = .ok (.goto 4, 3) := by decide +kernel
theorem dJ0_coder_7d493_13 : decode cJ0_coder_7d493 13 = .ok (.iconst 1, 1) := by decide +kernel
theorem dJ0_coder_7d493_14 : decode cJ0_coder_7d493 14 = .ok (.ireturn, 1) := by decide +kernel
theorem dJ0_isLatin1_aae02_0 : decode cJ0_isLatin1_aae02 0 = .ok (.getstatic 38, 3) := by decide +kernel
theorem dJ0_isLatin1_aae02_3 : decode cJ0_isLatin1_aae02 3 = .ok (.ifCond .eq 14, 3) := by decide +kernel
theorem dJ0_isLatin1_aae02_6 : decode cJ0_isLatin1_aae02 6 = .ok (.aload_n 0, 1) := by decide +kernel
theorem dJ0_isLatin1_aae02_7 : decode cJ0_isLatin1_aae02 7 = .ok (.getfield 15, 3) := by decide +kernel
theorem dJ0_isLatin1_aae02_10 : decode cJ0_isLatin1_aae02 10 = .ok (.ifCond .ne 7, 3) := by decide +kernel
theorem dJ0_isLatin1_aae02_13 : decode cJ0_isLatin1_aae02 13 = .ok (.iconst 1, 1) := by decide +kernel
theorem dJ0_isLatin1_aae02_14 : decode cJ0_isLatin1_aae02 14 = .ok (.goto 4, 3) := by decide +kernel
theorem dJ0_isLatin1_aae02_17 : decode cJ0_isLatin1_aae02 17 = .ok (.iconst 0, 1) := by decide +kernel
theorem dJ0_isLatin1_aae02_18 : decode cJ0_isLatin1_aae02 18 = .ok (.ireturn, 1) := by decide +kernel
set_option maxRecDepth 20000 in
theorem ggJ0_checkIndex_df160_J3_checkIndex_8e157 : GoodIn wsJ0_checkIndex_df160 wsJ3_checkIndex_8e157 := goodIn_r _ [5] (by decide +kernel) (by decide +kernel)
set_option maxRecDepth 20000 in
theorem gJ0_checkIndex_df160_J3_checkIndex_8e157 : GoodIn wsJ0_checkIndex_df160 (va_wsS RJ0 1059 yJ3_checkIndex_8e157 wsJ3_checkIndex_8e157) := goodIn_app (goodIn_of _ (by decide +kernel)) ggJ0_checkIndex_df160_J3_checkIndex_8e157
theorem dJ0_checkIndex_df160_0 : decode cJ0_checkIndex_df160 0 = .ok (.iload_n 0, 1) := by decide +kernel
theorem dJ0_checkIndex_df160_1 : decode cJ0_checkIndex_df160 1 = .ok (.iload_n 1, 1) := by decide +kernel
theorem dJ0_checkIndex_df160_2 : decode cJ0_checkIndex_df160 2 = .ok (.getstatic 1053, 3) := by decide +kernel
theorem dJ0_checkIndex_df160_5 : decode cJ0_checkIndex_df160 5 = .ok (.invokestatic 1059, 3) := by decide +kernel
theorem dJ0_checkIndex_df160_8 : decode cJ0_checkIndex_df160 8 = .ok (.pop, 1) := by decide +kernel
theorem dJ0_checkIndex_df160_9 : decode cJ0_checkIndex_df160 9 = .ok (.return_, 1) := by decide +kernel
set_option maxRecDepth 20000 in
theorem ggJ1_charAt_3b067_J0_checkIndex_df160 : GoodIn wsJ1_charAt_3b067 wsJ0_checkIndex_df160 := goodIn_r _ [4, 5, 6, 7, 8, 9] (by decide +kernel) (by decide +kernel)
set_option maxRecDepth 20000 in
theorem gJ1_charAt_3b067_J0_checkIndex_df160 : GoodIn wsJ1_charAt_3b067 (va_wsS RJ1 9 yJ0_checkIndex_df160 wsJ0_checkIndex_df160) := goodIn_app (goodIn_of _ (by decide +kernel)) ggJ1_charAt_3b067_J0_checkIndex_df160
theorem dJ1_charAt_3b067_0 : decode cJ1_charAt_3b067 0 = .ok (.iload_n 1, 1) := by decide +kernel
theorem dJ1_charAt_3b067_1 : decode cJ1_charAt_3b067 1 = .ok (.aload_n 0, 1) := by decide +kernel
theorem dJ1_charAt_3b067_2 : decode cJ1_charAt_3b067 2 = .ok (.arraylength, 1) := by decide +kernel
theorem dJ1_charAt_3b067_3 : decode cJ1_charAt_3b067 3 = .ok (.invokestatic 9, 3) := by decide +kernel
theorem dJ1_charAt_3b067_6 : decode cJ1_charAt_3b067 6 = .ok (.aload_n 0, 1) := by decide +kernel
theorem dJ1_charAt_3b067_7 : decode cJ1_charAt_3b067 7 = .ok (.iload_n 1, 1) := by decide +kernel
theorem dJ1_charAt_3b067_8 : decode cJ1_charAt_3b067 8 = .ok (.baload, 1) := by decide +kernel
theorem dJ1_charAt_3b067_9 : decode cJ1_charAt_3b067 9 = .ok (.sipush 255, 3) := by decide +kernel
theorem dJ1_charAt_3b067_12 : decode cJ1_charAt_3b067 12 = .ok (.iand, 1) := by decide +kernel
theorem dJ1_charAt_3b067_13 : decode cJ1_charAt_3b067 13 = .ok (.i2c, 1) := by decide +kernel
theorem dJ1_charAt_3b067_14 : decode cJ1_charAt_3b067 14 = .ok (.ireturn, 1) := by decide +kernel
set_option maxRecDepth 20000 in
theorem ggJ2_getChar_3b067_J2_length_9d52b : GoodIn wsJ2_getChar_3b067 wsJ2_length_9d52b := goodIn_r _ [7] (by decide +kernel) (by decide +kernel)
set_option maxRecDepth 20000 in
theorem gJ2_getChar_3b067_J2_length_9d52b : GoodIn wsJ2_getChar_3b067 (va_wsS RJ2 48 yJ2_length_9d52b wsJ2_length_9d52b) := goodIn_app (goodIn_of _ (by decide +kernel)) ggJ2_getChar_3b067_J2_length_9d52b
theorem dJ2_getChar_3b067_0 : decode cJ2_getChar_3b067 0 = .ok (.getstatic 44, 3) := by decide +kernel
theorem dJ2_getChar_3b067_3 : decode cJ2_getChar_3b067 3 = .ok (.ifCond .ne 25, 3) := by decide +kernel
theorem dJ2_getChar_3b067_6 : decode cJ2_getChar_3b067 6 = .ok (.iload_n 1, 1) := by decide +kernel
theorem dJ2_getChar_3b067_7 : decode cJ2_getChar_3b067 7 = .ok (.ifCond .lt 11, 3) := by decide +kernel
theorem dJ2_getChar_3b067_10 : decode cJ2_getChar_3b067 10 = .ok (.iload_n 1, 1) := by decide +kernel
theorem dJ2_getChar_3b067_11 : decode cJ2_getChar_3b067 11 = .ok (.aload_n 0, 1) := by decide +kernel
theorem dJ2_getChar_3b067_12 : decode cJ2_getChar_3b067 12 = .ok (.invokestatic 48, 3) := by decide +kernel
theorem dJ2_getChar_3b067_15 : decode cJ2_getChar_3b067 15 = .ok (.if_icmp .lt 13, 3) := by decide +kernel
theorem dJ2_getChar_3b067_18 : decode cJ2_getChar_3b067 18 = .ok (.new 52, 3) := by decide +kernel
theorem dJ2_getChar_3b067_21 : decode cJ2_getChar_3b067 21 = .ok (.dup, 1) := by decide +kernel
theorem dJ2_getChar_3b067_22 : decode cJ2_getChar_3b067 22 = .ok (.ldc 54, 2) := by decide +kernel
theorem dJ2_getChar_3b067_24 : decode cJ2_getChar_3b067 24 = .ok (.invokespecial 56, 3) := by decide +kernel
theorem dJ2_getChar_3b067_27 : decode cJ2_getChar_3b067 27 = .ok (.athrow, 1) := by decide +kernel
theorem dJ2_getChar_3b067_28 : decode cJ2_getChar_3b067 28 = .ok (.iload_n 1, 1) := by decide +kernel
theorem dJ2_getChar_3b067_29 : decode cJ2_getChar_3b067 29 = .ok (.iconst 1, 1) := by decide +kernel
theorem dJ2_getChar_3b067_30 : decode cJ2_getChar_3b067 30 = .ok (.ishl, 1) := by decide +kernel
theorem dJ2_getChar_3b067_31 : decode cJ2_getChar_3b067 31 = .ok (.istore_n 1, 1) := by decide +kernel
theorem dJ2_getChar_3b067_32 : decode cJ2_getChar_3b067 32 = .ok (.aload_n 0, 1) := by decide +kernel
theorem dJ2_getChar_3b067_33 : decode cJ2_getChar_3b067 33 = .ok (.iload_n 1, 1) := by decide +kernel
theorem dJ2_getChar_3b067_34 : decode cJ2_getChar_3b067 34 = .ok (.iinc 1 1, 3) := by decide +kernel
theorem dJ2_getChar_3b067_37 : decode cJ2_getChar_3b067 37 = .ok (.baload, 1) := by decide +kernel
theorem dJ2_getChar_3b067_38 : decode cJ2_getChar_3b067 38 = .ok (.sipush 255, 3) := by decide +kernel
theorem dJ2_getChar_3b067_41 : decode cJ2_getChar_3b067 41 = .ok (.iand, 1) := by decide +kernel
theorem dJ2_getChar_3b067_42 : decode cJ2_getChar_3b067 42 = .ok (.getstatic 59, 3) := by decide +kernel
theorem dJ2_getChar_3b067_45 : decode cJ2_getChar_3b067 45 = .ok (.ishl, 1) := by decide +kernel
theorem dJ2_getChar_3b067_46 : decode cJ2_getChar_3b067 46 = .ok (.aload_n 0, 1) := by decide +kernel
theorem dJ2_getChar_3b067_47 : decode cJ2_getChar_3b067 47 = .ok (.iload_n 1, 1) := by decide +kernel
theorem dJ2_getChar_3b067_48 : decode cJ2_getChar_3b067 48 = .ok (.baload, 1) := by decide +kernel
theorem dJ2_getChar_3b067_49 : decode cJ2_getChar_3b067 49 = .ok (.sipush 255, 3) := by decide +kernel
theorem dJ2_getChar_3b067_52 : decode cJ2_getChar_3b067 52 = .ok (.iand, 1) := by decide +kernel
theorem dJ2_getChar_3b067_53 : decode cJ2_getChar_3b067 53 = .ok (.getstatic 63, 3) := by decide +kernel
theorem dJ2_getChar_3b067_56 : decode cJ2_getChar_3b067 56 = .ok (.ishl, 1) := by decide +kernel
theorem dJ2_getChar_3b067_57 : decode cJ2_getChar_3b067 57 = .ok (.ior, 1) := by decide +kernel
theorem dJ2_getChar_3b067_58 : decode cJ2_getChar_3b067 58 = .ok (.i2c, 1) := by decide +kernel
theorem dJ2_getChar_3b067_59 : decode cJ2_getChar_3b067 59 = .ok (.ireturn, 1) := by decide +kernel
theorem dJ2_length_9d52b_0 : decode cJ2_length_9d52b 0 = .ok (.aload_n 0, 1) := by decide +kernel
theorem dJ2_length_9d52b_1 : decode cJ2_length_9d52b 1 = .ok (.arraylength, 1) := by decide +kernel
theorem dJ2_length_9d52b_2 : decode cJ2_length_9d52b 2 = .ok (.iconst 1, 1) := by decide +kernel
theorem dJ2_length_9d52b_3 : decode cJ2_length_9d52b 3 = .ok (.ishr, 1) := by decide +kernel
theorem dJ2_length_9d52b_4 : decode cJ2_length_9d52b 4 = .ok (.ireturn, 1) := by decide +kernel
set_option maxRecDepth 20000 in
theorem ggJ2_charAt_3b067_J2_checkIndex_2214a : GoodIn wsJ2_charAt_3b067 wsJ2_checkIndex_2214a := goodIn_r _ [4, 5, 6, 3, 7, 8, 9, 10, 11, 12, 13, 14, 15, 16] (by decide +kernel) (by decide +kernel)
set_option maxRecDepth 20000 in
theorem gJ2_charAt_3b067_J2_checkIndex_2214a : GoodIn wsJ2_charAt_3b067 (va_wsS RJ2 67 yJ2_checkIndex_2214a wsJ2_checkIndex_2214a) := goodIn_app (goodIn_of _ (by decide +kernel)) ggJ2_charAt_3b067_J2_checkIndex_2214a
set_option maxRecDepth 20000 in
theorem ggJ2_charAt_3b067_J2_getChar_3b067 : GoodIn wsJ2_charAt_3b067 wsJ2_getChar_3b067 := goodIn_r _ [19, 20, 21, 22, 5, 6, 3, 7] (by decide +kernel) (by decide +kernel)
set_option maxRecDepth 20000 in
theorem gJ2_charAt_3b067_J2_getChar_3b067 : GoodIn wsJ2_charAt_3b067 (va_wsS RJ2 71 yJ2_getChar_3b067 wsJ2_getChar_3b067) := goodIn_app (goodIn_of _ (by decide +kernel)) ggJ2_charAt_3b067_J2_getChar_3b067
theorem dJ2_charAt_3b067_0 : decode cJ2_charAt_3b067 0 = .ok (.iload_n 1, 1) := by decide +kernel
theorem dJ2_charAt_3b067_1 : decode cJ2_charAt_3b067 1 = .ok (.aload_n 0, 1) := by decide +kernel
theorem dJ2_charAt_3b067_2 : decode cJ2_charAt_3b067 2 = .ok (.invokestatic 67, 3) := by decide +kernel
theorem dJ2_charAt_3b067_5 : decode cJ2_charAt_3b067 5 = .ok (.aload_n 0, 1) := by decide +kernel
theorem dJ2_charAt_3b067_6 : decode cJ2_charAt_3b067 6 = .ok (.iload_n 1, 1) := by decide +kernel
theorem dJ2_charAt_3b067_7 : decode cJ2_charAt_3b067 7 = .ok (.invokestatic 71, 3) := by decide +kernel
theorem dJ2_charAt_3b067_10 : decode cJ2_charAt_3b067 10 = .ok (.ireturn, 1) := by decide +kernel
set_option maxRecDepth 20000 in
theorem ggJ2_checkIndex_2214a_J2_length_9d52b : GoodIn wsJ2_checkIndex_2214a wsJ2_length_9d52b := goodIn_r _ [4] (by decide +kernel) (by decide +kernel)
set_option maxRecDepth 20000 in
theorem gJ2_checkIndex_2214a_J2_length_9d52b : GoodIn wsJ2_checkIndex_2214a (va_wsS RJ2 48 yJ2_length_9d52b wsJ2_length_9d52b) := goodIn_app (goodIn_of _ (by decide +kernel)) ggJ2_checkIndex_2214a_J2_length_9d52b
set_option maxRecDepth 20000 in
theorem ggJ2_checkIndex_2214a_J0_checkIndex_df160 : GoodIn wsJ2_checkIndex_2214a wsJ0_checkIndex_df160 := goodIn_r _ [8, 9, 10, 11, 12, 13] (by decide +kernel) (by decide +kernel)
set_option maxRecDepth 20000 in
theorem gJ2_checkIndex_2214a_J0_checkIndex_df160 : GoodIn wsJ2_checkIndex_2214a (va_wsS RJ2 414 yJ0_checkIndex_df160 wsJ0_checkIndex_df160) := goodIn_app (goodIn_of _ (by decide +kernel)) ggJ2_checkIndex_2214a_J0_checkIndex_df160
theorem dJ2_checkIndex_2214a_0 : decode cJ2_checkIndex_2214a 0 = .ok (.iload_n 0, 1) := by decide +kernel
theorem dJ2_checkIndex_2214a_1 : decode cJ2_checkIndex_2214a 1 = .ok (.aload_n 1, 1) := by decide +kernel
theorem dJ2_checkIndex_2214a_2 : decode cJ2_checkIndex_2214a 2 = .ok (.invokestatic 48, 3) := by decide +kernel
theorem dJ2_checkIndex_2214a_5 : decode cJ2_checkIndex_2214a 5 = .ok (.invokestatic 414, 3) := by decide +kernel
theorem dJ2_checkIndex_2214a_8 : decode cJ2_checkIndex_2214a 8 = .ok (.return_, 1) := by decide +kernel
theorem dJ7_fill_d0a16_0 : decode cJ7_fill_d0a16 0 = .ok (.iconst 0, 1) := by decide +kernel
theorem dJ7_fill_d0a16_1 : decode cJ7_fill_d0a16 1 = .ok (.istore_n 3, 1) := by decide +kernel
theorem dJ7_fill_d0a16_2 : decode cJ7_fill_d0a16 2 = .ok (.aload_n 0, 1) := by decide +kernel
theorem dJ7_fill_d0a16_3 : decode cJ7_fill_d0a16 3 = .ok (.arraylength, 1) := by decide +kernel
theorem dJ7_fill_d0a16_4 : decode cJ7_fill_d0a16 4 = .ok (.istore 4, 2) := by decide +kernel
theorem dJ7_fill_d0a16_6 : decode cJ7_fill_d0a16 6 = .ok (.iload_n 3, 1) := by decide +kernel
theorem dJ7_fill_d0a16_7 : decode cJ7_fill_d0a16 7 = .ok (.iload 4, 2) := by decide +kernel
theorem dJ7_fill_d0a16_9 : decode cJ7_fill_d0a16 9 = .ok (.if_icmp .ge 13, 3) := by decide +kernel
theorem dJ7_fill_d0a16_12 : decode cJ7_fill_d0a16 12 = .ok (.aload_n 0, 1) := by decide +kernel
theorem dJ7_fill_d0a16_13 : decode cJ7_fill_d0a16 13 = .ok (.iload_n 3, 1) := by decide +kernel
theorem dJ7_fill_d0a16_14 : decode cJ7_fill_d0a16 14 = .ok (.lload_n 1, 1) := by decide +kernel
theorem dJ7_fill_d0a16_15 : decode cJ7_fill_d0a16 15 = .ok (.lastore, 1) := by decide +kernel
theorem dJ7_fill_d0a16_16 : decode cJ7_fill_d0a16 16 = .ok (.iinc 3 1, 3) := by decide +kernel
theorem dJ7_fill_d0a16_19 : decode cJ7_fill_d0a16 19 = .ok (.goto (-13), 3) := by decide +kernel
theorem dJ7_fill_d0a16_22 : decode cJ7_fill_d0a16 22 = .ok (.return_, 1) := by decide +kernel
theorem dJ7_fill_53178_0 : decode cJ7_fill_53178 0 = .ok (.iconst 0, 1) := by decide +kernel
theorem dJ7_fill_53178_1 : decode cJ7_fill_53178 1 = .ok (.istore_n 2, 1) := by decide +kernel
theorem dJ7_fill_53178_2 : decode cJ7_fill_53178 2 = .ok (.aload_n 0, 1) := by decide +kernel
theorem dJ7_fill_53178_3 : decode cJ7_fill_53178 3 = .ok (.arraylength, 1) := by decide +kernel
theorem dJ7_fill_53178_4 : decode cJ7_fill_53178 4 = .ok (.istore_n 3, 1) := by decide +kernel
theorem dJ7_fill_53178_5 : decode cJ7_fill_53178 5 = .ok (.iload_n 2, 1) := by decide +kernel
theorem dJ7_fill_53178_6 : decode cJ7_fill_53178 6 = .ok (.iload_n 3, 1) := by decide +kernel
theorem dJ7_fill_53178_7 : decode cJ7_fill_53178 7 = .ok (.if_icmp .ge 13, 3) := by decide +kernel
theorem dJ7_fill_53178_10 : decode cJ7_fill_53178 10 = .ok (.aload_n 0, 1) := by decide +kernel
theorem dJ7_fill_53178_11 : decode cJ7_fill_53178 11 = .ok (.iload_n 2, 1) := by decide +kernel
theorem dJ7_fill_53178_12 : decode cJ7_fill_53178 12 = .ok (.iload_n 1, 1) := by decide +kernel
theorem dJ7_fill_53178_13 : decode cJ7_fill_53178 13 = .ok (.iastore, 1) := by decide +kernel
theorem dJ7_fill_53178_14 : decode cJ7_fill_53178 14 = .ok (.iinc 2 1, 3) := by decide +kernel
theorem dJ7_fill_53178_17 : decode cJ7_fill_53178 17 = .ok (.goto (-12), 3) := by decide +kernel
theorem dJ7_fill_53178_20 : decode cJ7_fill_53178 20 = .ok (.return_, 1) := by decide +kernel
theorem dJ3_checkIndex_8e157_0 : decode cJ3_checkIndex_8e157 0 = .ok (.iload_n 0, 1) := by decide +kernel
theorem dJ3_checkIndex_8e157_1 : decode cJ3_checkIndex_8e157 1 = .ok (.ifCond .lt 8, 3) := by decide +kernel
theorem dJ3_checkIndex_8e157_4 : decode cJ3_checkIndex_8e157 4 = .ok (.iload_n 0, 1) := by decide +kernel
theorem dJ3_checkIndex_8e157_5 : decode cJ3_checkIndex_8e157 5 = .ok (.iload_n 1, 1) := by decide +kernel
theorem dJ3_checkIndex_8e157_6 : decode cJ3_checkIndex_8e157 6 = .ok (.if_icmp .lt 10, 3) := by decide +kernel
theorem dJ3_checkIndex_8e157_9 : decode cJ3_checkIndex_8e157 9 = .ok (.aload_n 2, 1) := by decide +kernel
theorem dJ3_checkIndex_8e157_10 : decode cJ3_checkIndex_8e157 10 = .ok (.iload_n 0, 1) := by decide +kernel
theorem dJ3_checkIndex_8e157_11 : decode cJ3_checkIndex_8e157 11 = .ok (.iload_n 1, 1) := by decide +kernel
theorem dJ3_checkIndex_8e157_12 : decode cJ3_checkIndex_8e157 12 = .ok (.invokestatic 95, 3) := by decide +kernel
theorem dJ3_checkIndex_8e157_15 : decode cJ3_checkIndex_8e157 15 = .ok (.athrow, 1) := by decide +kernel
theorem dJ3_checkIndex_8e157_16 : decode cJ3_checkIndex_8e157 16 = .ok (.iload_n 0, 1) := by decide +kernel
theorem dJ3_checkIndex_8e157_17 : decode cJ3_checkIndex_8e157 17 = .ok (.ireturn, 1) := by decide +kernel
set_option maxRecDepth 20000 in
theorem ggL_law_X4_init : GoodIn wsL_law wsX4_init := goodIn_r _ [9, 10, 11, 12, 13, 14, 15, 16, 17, 18, 19, 20, 21, 22, 23, 24, 25, 26, 27, 28, 29, 30, 31, 32, 33, 34, 35, 36, 37, 38, 39, 40, 41, 42, 43, 44, 45, 46, 47, 48, 49, 50, 51, 52, 53, 54, 55, 56, 57, 58, 59, 60, 61, 62, 63, 64, 65, 66, 67, 68, 69, 70, 71, 72, 73, 74, 75, 76, 77, 78, 79, 80, 81, 82, 83, 84, 85, 86, 87, 88, 89, 90, 91, 92, 93, 94, 95, 96, 97, 98, 99, 100, 101, 102, 103, 104, 105, 106, 107, 108, 109, 110, 111, 112, 113, 114, 115, 116, 117, 975, 976, 977, 978, 979, 980, 981, 982, 983, 984, 985, 986, 987, 921, 922, 923, 924, 925, 926, 927, 928, 929, 930, 931, 932, 933, 934, 988, 989, 990, 991, 992, 993, 994, 995, 996, 997, 998, 999, 1000, 1001, 1002, 1003, 1004, 1005, 1006, 1007] (by decide +kernel) (by decide +kernel)
set_option maxRecDepth 20000 in
theorem gL_law_X4_init : GoodIn wsL_law (wsX4_init) := ggL_law_X4_init
set_option maxRecDepth 20000 in
theorem ggL_law_X5_init : GoodIn wsL_law wsX5_init := goodIn_r _ [120, 121, 11, 12, 122, 34, 123, 124, 125, 126, 127, 128, 129, 130, 131, 132, 133, 28, 134, 135, 136, 137, 138, 139, 140, 141, 142, 143, 144, 5, 145, 146, 147, 148, 149, 150, 151, 152, 153, 935, 936, 937, 938, 939, 940, 941, 942, 943, 944, 945, 946, 947, 948, 949, 950, 951, 952, 953, 954, 955, 956, 957, 958, 959, 960, 961, 962, 963, 964, 965, 966, 967, 968, 969, 970, 971, 972, 973, 974] (by decide +kernel) (by decide +kernel)
set_option maxRecDepth 20000 in
theorem gL_law_X5_init : GoodIn wsL_law (wsX5_init) := ggL_law_X5_init
set_option maxRecDepth 20000 in
theorem ggL_law_X4_write : GoodIn wsL_law wsX4_write := goodIn_r _ [157, 21, 158, 159, 160, 161, 20, 162, 163, 73, 164, 921, 922, 923, 924, 925, 926, 927, 928, 929, 930, 931, 932, 933, 934, 988, 989, 990, 991, 992] (by decide +kernel) (by decide +kernel)
set_option maxRecDepth 20000 in
theorem gL_law_X4_write : GoodIn wsL_law (wsV RL 15 RX4 yX4_write wsX4_write) := goodIn_app (goodIn_of _ (by decide +kernel)) ggL_law_X4_write
set_option maxRecDepth 20000 in
theorem ggL_law_X5_write : GoodIn wsL_law wsX5_write := goodIn_r _ [168, 169, 129, 170, 171, 172, 5, 173, 935, 936, 937, 938, 939, 940, 941, 942, 943, 944, 945, 946, 947, 948, 949, 950, 951, 952, 953, 954, 955, 956, 957, 958, 959, 960, 961, 962, 963, 964, 965, 966, 967, 968, 969, 970, 971, 972, 973, 974] (by decide +kernel) (by decide +kernel)
set_option maxRecDepth 20000 in
theorem gL_law_X5_write : GoodIn wsL_law (wsV RL 19 RX5 yX5_write wsX5_write) := goodIn_app (goodIn_of _ (by decide +kernel)) ggL_law_X5_write
set_option maxRecDepth 20000 in
theorem ggL_law_X4_erase : GoodIn wsL_law wsX4_erase := goodIn_r _ [177, 21, 158, 921, 922, 923, 924, 925, 926, 927, 928, 929, 930, 931, 932, 933, 934, 988, 989, 990, 991, 992] (by decide +kernel) (by decide +kernel)
set_option maxRecDepth 20000 in
theorem gL_law_X4_erase : GoodIn wsL_law (wsV RL 20 RX4 yX4_erase wsX4_erase) := goodIn_app (goodIn_of _ (by decide +kernel)) ggL_law_X4_erase
set_option maxRecDepth 20000 in
theorem ggL_law_X5_erase : GoodIn wsL_law wsX5_erase := goodIn_r _ [181, 169, 935, 936, 937, 938, 939, 940, 941, 942, 943, 944, 945, 946, 947, 948, 949, 950, 951, 952, 953, 954, 955, 956, 957, 958, 959, 960, 961, 962, 963, 964, 965, 966, 967, 968, 969, 970, 971, 972, 973, 974] (by decide +kernel) (by decide +kernel)
set_option maxRecDepth 20000 in
theorem gL_law_X5_erase : GoodIn wsL_law (wsV RL 24 RX5 yX5_erase wsX5_erase) := goodIn_app (goodIn_of _ (by decide +kernel)) ggL_law_X5_erase
set_option maxRecDepth 20000 in
theorem ggL_law_X4_fault : GoodIn wsL_law wsX4_fault := goodIn_r _ [185, 17, 16, 21, 186, 187, 188, 15, 189, 56, 68, 57, 69, 58, 59, 45, 190, 88, 89, 90, 46, 47, 48, 49, 50, 51, 191, 192, 193, 20, 194, 195, 196, 197, 163, 73, 198, 199, 200, 201, 202, 203, 204, 205, 206, 207, 208, 209, 210, 211, 212, 213, 214, 215, 216, 217, 218, 219, 220, 221, 222, 223, 224, 225, 226, 227, 228, 229, 230, 231, 232, 233, 234, 235, 236, 237, 238, 239, 240, 241, 242, 243, 244, 245, 246, 247, 248, 249, 250, 251, 252, 253, 254, 255, 256, 257, 258, 259, 260, 261, 262, 263, 264, 265, 266, 267, 268, 269, 270, 271, 272, 273, 274, 275, 276, 277, 53, 54, 55, 60, 61, 62, 63, 64, 65, 66, 67, 278, 279, 280, 281, 282, 283, 284, 285, 286, 287, 288, 289, 290, 291, 292, 293, 294, 295, 296, 297, 99, 100, 101, 102, 103, 104, 105, 106, 107, 108, 109, 298, 299, 300, 301, 302, 303, 304, 305, 306, 307, 308, 309, 310, 311, 312, 313, 314, 315, 316, 317, 318, 319, 320, 321, 322, 323, 324, 325, 326, 327, 328, 329, 330, 331, 332, 333, 334, 921, 922, 923, 924, 925, 926, 927, 928, 929, 930, 931, 932, 933, 934, 975, 976, 977, 978, 979, 980, 981, 982, 983, 984, 985, 986, 987, 988, 989, 990, 991, 992] (by decide +kernel) (by decide +kernel)
set_option maxRecDepth 20000 in
theorem gL_law_X4_fault : GoodIn wsL_law (wsV RL 25 RX4 yX4_fault wsX4_fault) := goodIn_app (goodIn_of _ (by decide +kernel)) ggL_law_X4_fault
set_option maxRecDepth 20000 in
theorem ggL_law_X5_fault : GoodIn wsL_law wsX5_fault := goodIn_r _ [338, 339, 340, 341, 342, 5, 343, 344, 345, 122, 346, 146, 347, 147, 348, 148, 349, 350, 125, 124, 351, 352, 353, 354, 355, 356, 357, 358, 359, 360, 361, 362, 363, 364, 365, 366, 367, 368, 369, 370, 130, 371, 372, 373, 374, 169, 129, 375, 376, 377, 378, 379, 380, 381, 171, 172, 173, 382, 383, 384, 385, 386, 387, 388, 389, 390, 391, 392, 393, 394, 395, 396, 397, 398, 399, 400, 401, 402, 403, 404, 405, 406, 407, 408, 409, 935, 936, 937, 938, 939, 940, 941, 942, 943, 944, 945, 946, 947, 948, 949, 950, 951, 952, 953, 954, 955, 956, 957, 958, 959, 960, 961, 962, 963, 964, 965, 966, 967, 968, 969, 970, 971, 972, 973, 974] (by decide +kernel) (by decide +kernel)
set_option maxRecDepth 20000 in
theorem gL_law_X5_fault : GoodIn wsL_law (wsV RL 28 RX5 yX5_fault wsX5_fault) := goodIn_app (goodIn_of _ (by decide +kernel)) ggL_law_X5_fault
set_option maxRecDepth 20000 in
theorem ggL_law_X4_green : GoodIn wsL_law wsX4_green := goodIn_r _ [413, 17, 16, 21, 158, 25, 414, 29, 415, 186, 187, 188, 15, 189, 56, 68, 57, 69, 58, 59, 45, 190, 88, 89, 90, 46, 47, 48, 49, 50, 51, 191, 192, 193, 20, 194, 195, 196, 197, 163, 73, 198, 199, 200, 201, 202, 203, 204, 205, 206, 207, 208, 209, 210, 211, 212, 213, 214, 215, 216, 217, 218, 219, 220, 221, 222, 223, 224, 225, 226, 227, 228, 229, 230, 231, 232, 233, 234, 235, 236, 237, 238, 239, 240, 241, 242, 243, 244, 245, 246, 247, 248, 249, 250, 251, 252, 253, 254, 255, 256, 257, 258, 259, 260, 261, 262, 263, 264, 265, 266, 267, 268, 269, 270, 271, 272, 273, 274, 275, 276, 277, 53, 54, 55, 60, 61, 62, 63, 64, 65, 66, 67, 278, 279, 280, 281, 282, 283, 284, 285, 286, 287, 288, 289, 290, 291, 292, 293, 294, 295, 296, 297, 99, 100, 101, 102, 103, 104, 105, 106, 107, 108, 109, 298, 299, 300, 301, 302, 303, 304, 305, 306, 307, 308, 309, 310, 311, 312, 313, 314, 315, 316, 317, 318, 319, 320, 321, 322, 323, 324, 325, 326, 327, 328, 329, 330, 331, 332, 333, 334, 416, 83, 84, 24, 85, 81, 86, 78, 87, 79, 91, 92, 93, 94, 95, 96, 97, 98, 921, 922, 923, 924, 925, 926, 927, 928, 929, 930, 931, 932, 933, 934, 988, 989, 990, 991, 992, 975, 976, 977, 978, 979, 980, 981, 982, 983, 984, 985, 986, 987, 993, 994, 995, 996, 997, 998, 999, 1000, 1001] (by decide +kernel) (by decide +kernel)
set_option maxRecDepth 20000 in
theorem gL_law_X4_green : GoodIn wsL_law (wsV RL 29 RX4 yX4_green wsX4_green) := goodIn_app (goodIn_of _ (by decide +kernel)) ggL_law_X4_green
set_option maxRecDepth 20000 in
theorem ggL_law_X5_green : GoodIn wsL_law wsX5_green := goodIn_r _ [420, 345, 169, 421, 134, 340, 341, 342, 5, 343, 344, 122, 346, 146, 347, 147, 348, 148, 349, 350, 125, 124, 351, 352, 353, 354, 355, 356, 357, 358, 359, 360, 361, 362, 363, 364, 365, 366, 367, 368, 369, 370, 130, 371, 372, 373, 374, 129, 375, 376, 377, 378, 379, 380, 381, 171, 172, 173, 382, 383, 384, 385, 386, 387, 388, 389, 390, 391, 392, 393, 339, 394, 395, 396, 397, 398, 399, 400, 401, 402, 403, 404, 405, 406, 407, 408, 409, 422, 423, 424, 425, 123, 126, 127, 149, 128, 142, 143, 144, 145, 150, 151, 152, 153, 131, 935, 936, 937, 938, 939, 940, 941, 942, 943, 944, 945, 946, 947, 948, 949, 950, 951, 952, 953, 954, 955, 956, 957, 958, 959, 960, 961, 962, 963, 964, 965, 966, 967, 968, 969, 970, 971, 972, 973, 974] (by decide +kernel) (by decide +kernel)
set_option maxRecDepth 20000 in
theorem gL_law_X5_green : GoodIn wsL_law (wsV RL 32 RX5 yX5_green wsX5_green) := goodIn_app (goodIn_of _ (by decide +kernel)) ggL_law_X5_green
set_option maxRecDepth 20000 in
theorem ggL_law_X4_plot : GoodIn wsL_law wsX4_plot := goodIn_r _ [429, 25, 16, 430, 431, 432, 433, 2, 434, 435, 436, 437, 438, 24, 439, 81, 440, 441, 442, 443, 444, 445, 78, 446, 103, 104, 15, 105, 106, 107, 108, 109, 56, 921, 922, 923, 924, 925, 926, 927, 928, 929, 930, 931, 932, 933, 934, 975, 976, 977, 978, 979, 980, 981, 982, 983, 984, 985, 986, 987, 993, 994, 995, 996, 997, 998, 999, 1000, 1001] (by decide +kernel) (by decide +kernel)
set_option maxRecDepth 20000 in
theorem gL_law_X4_plot : GoodIn wsL_law (wsV RL 33 RX4 yX4_plot wsX4_plot) := goodIn_app (goodIn_of _ (by decide +kernel)) ggL_law_X4_plot
set_option maxRecDepth 20000 in
theorem ggL_law_X5_plot : GoodIn wsL_law wsX5_plot := goodIn_r _ [450, 146, 123, 451, 452, 453, 5, 454, 122, 171, 172, 173, 455, 456, 457, 458, 131, 124, 459, 460, 461, 462, 935, 936, 937, 938, 939, 940, 941, 942, 943, 944, 945, 946, 947, 948, 949, 950, 951, 952, 953, 954, 955, 956, 957, 958, 959, 960, 961, 962, 963, 964, 965, 966, 967, 968, 969, 970, 971, 972, 973, 974] (by decide +kernel) (by decide +kernel)
set_option maxRecDepth 20000 in
theorem gL_law_X5_plot : GoodIn wsL_law (wsV RL 37 RX5 yX5_plot wsX5_plot) := goodIn_app (goodIn_of _ (by decide +kernel)) ggL_law_X5_plot
set_option maxRecDepth 20000 in
theorem ggL_law_X4_house : GoodIn wsL_law wsX4_house := goodIn_r _ [466, 16, 467, 25, 468, 469, 470, 471, 472, 473, 2, 474, 475, 921, 922, 923, 924, 925, 926, 927, 928, 929, 930, 931, 932, 933, 934, 975, 976, 977, 978, 979, 980, 981, 982, 983, 984, 985, 986, 987, 993, 994, 995, 996, 997, 998, 999, 1000, 1001] (by decide +kernel) (by decide +kernel)
set_option maxRecDepth 20000 in
theorem gL_law_X4_house : GoodIn wsL_law (wsV RL 38 RX4 yX4_house wsX4_house) := goodIn_app (goodIn_of _ (by decide +kernel)) ggL_law_X4_house
set_option maxRecDepth 20000 in
theorem ggL_law_X5_house : GoodIn wsL_law wsX5_house := goodIn_r _ [479, 124, 131, 480, 481, 482, 5, 483, 146, 171, 172, 173, 935, 936, 937, 938, 939, 940, 941, 942, 943, 944, 945, 946, 947, 948, 949, 950, 951, 952, 953, 954, 955, 956, 957, 958, 959, 960, 961, 962, 963, 964, 965, 966, 967, 968, 969, 970, 971, 972, 973, 974] (by decide +kernel) (by decide +kernel)
set_option maxRecDepth 20000 in
theorem gL_law_X5_house : GoodIn wsL_law (wsV RL 41 RX5 yX5_house wsX5_house) := goodIn_app (goodIn_of _ (by decide +kernel)) ggL_law_X5_house
set_option maxRecDepth 20000 in
theorem ggL_law_X4_as : GoodIn wsL_law wsX4_as := goodIn_r _ [487, 16, 467, 25, 35, 471, 472, 473, 2, 474, 475, 488, 489, 490, 491, 492, 493, 24, 494, 81, 445, 96, 78, 495, 107, 108, 15, 109, 56, 496, 497, 498, 499, 500, 501, 502, 503, 91, 504, 505, 506, 507, 508, 509, 510, 511, 512, 48, 49, 921, 922, 923, 924, 925, 926, 927, 928, 929, 930, 931, 932, 933, 934, 975, 976, 977, 978, 979, 980, 981, 982, 983, 984, 985, 986, 987, 993, 994, 995, 996, 997, 998, 999, 1000, 1001] (by decide +kernel) (by decide +kernel)
set_option maxRecDepth 20000 in
theorem gL_law_X4_as : GoodIn wsL_law (wsV RL 42 RX4 yX4_as wsX4_as) := goodIn_app (goodIn_of _ (by decide +kernel)) ggL_law_X4_as
set_option maxRecDepth 20000 in
theorem ggL_law_X5_as : GoodIn wsL_law wsX5_as := goodIn_r _ [516, 124, 517, 480, 481, 482, 5, 483, 146, 171, 172, 173, 518, 519, 520, 521, 131, 147, 126, 522, 523, 524, 525, 459, 460, 461, 462, 122, 526, 527, 528, 529, 530, 531, 532, 136, 935, 936, 937, 938, 939, 940, 941, 942, 943, 944, 945, 946, 947, 948, 949, 950, 951, 952, 953, 954, 955, 956, 957, 958, 959, 960, 961, 962, 963, 964, 965, 966, 967, 968, 969, 970, 971, 972, 973, 974] (by decide +kernel) (by decide +kernel)
set_option maxRecDepth 20000 in
theorem gL_law_X5_as : GoodIn wsL_law (wsV RL 45 RX5 yX5_as wsX5_as) := goodIn_app (goodIn_of _ (by decide +kernel)) ggL_law_X5_as
set_option maxRecDepth 20000 in
theorem ggL_law_X4_can : GoodIn wsL_law wsX4_can := goodIn_r _ [536, 25, 35, 471, 472, 473, 2, 474, 16, 475, 491, 492, 493, 24, 494, 81, 445, 96, 78, 495, 107, 108, 15, 109, 56, 496, 497, 498, 499, 500, 501, 502, 503, 91, 504, 505, 506, 507, 508, 509, 510, 511, 512, 48, 49, 921, 922, 923, 924, 925, 926, 927, 928, 929, 930, 931, 932, 933, 934, 975, 976, 977, 978, 979, 980, 981, 982, 983, 984, 985, 986, 987, 993, 994, 995, 996, 997, 998, 999, 1000, 1001] (by decide +kernel) (by decide +kernel)
set_option maxRecDepth 20000 in
theorem gL_law_X4_can : GoodIn wsL_law (wsV RL 46 RX4 yX4_can wsX4_can) := goodIn_app (goodIn_of _ (by decide +kernel)) ggL_law_X4_can
set_option maxRecDepth 20000 in
theorem ggL_law_X5_can : GoodIn wsL_law wsX5_can := goodIn_r _ [540, 517, 136, 480, 481, 482, 5, 483, 146, 171, 172, 173, 518, 519, 520, 521, 124, 131, 147, 126, 522, 523, 524, 525, 459, 460, 461, 462, 122, 526, 527, 528, 529, 530, 531, 532, 935, 936, 937, 938, 939, 940, 941, 942, 943, 944, 945, 946, 947, 948, 949, 950, 951, 952, 953, 954, 955, 956, 957, 958, 959, 960, 961, 962, 963, 964, 965, 966, 967, 968, 969, 970, 971, 972, 973, 974] (by decide +kernel) (by decide +kernel)
set_option maxRecDepth 20000 in
theorem gL_law_X5_can : GoodIn wsL_law (wsV RL 49 RX5 yX5_can wsX5_can) := goodIn_app (goodIn_of _ (by decide +kernel)) ggL_law_X5_can
set_option maxRecDepth 20000 in
theorem ggL_law_X4_go : GoodIn wsL_law wsX4_go := goodIn_r _ [544, 25, 470, 16, 545, 546, 547, 548, 24, 549, 92, 80, 550, 551, 552, 553, 81, 440, 95, 554, 555, 492, 493, 494, 445, 96, 78, 495, 107, 108, 15, 109, 56, 496, 497, 498, 499, 500, 501, 502, 503, 91, 504, 505, 506, 507, 508, 509, 510, 511, 512, 48, 49, 556, 557, 558, 559, 560, 561, 562, 563, 79, 93, 564, 565, 566, 567, 441, 442, 443, 444, 446, 103, 104, 105, 106, 568, 569, 570, 571, 572, 573, 574, 575, 576, 577, 578, 579, 921, 922, 923, 924, 925, 926, 927, 928, 929, 930, 931, 932, 933, 934, 993, 994, 995, 996, 997, 998, 999, 1000, 1001, 975, 976, 977, 978, 979, 980, 981, 982, 983, 984, 985, 986, 987] (by decide +kernel) (by decide +kernel)
set_option maxRecDepth 20000 in
theorem gL_law_X4_go : GoodIn wsL_law (wsV RL 50 RX4 yX4_go wsX4_go) := goodIn_app (goodIn_of _ (by decide +kernel)) ggL_law_X4_go
set_option maxRecDepth 20000 in
theorem ggL_law_X5_go : GoodIn wsL_law wsX5_go := goodIn_r _ [583, 131, 149, 584, 171, 172, 5, 173, 585, 586, 587, 588, 136, 146, 589, 590, 591, 592, 517, 593, 518, 519, 520, 521, 124, 147, 126, 522, 523, 524, 525, 459, 460, 461, 462, 122, 526, 527, 528, 529, 530, 531, 532, 594, 595, 596, 597, 598, 599, 600, 601, 935, 936, 937, 938, 939, 940, 941, 942, 943, 944, 945, 946, 947, 948, 949, 950, 951, 952, 953, 954, 955, 956, 957, 958, 959, 960, 961, 962, 963, 964, 965, 966, 967, 968, 969, 970, 971, 972, 973, 974] (by decide +kernel) (by decide +kernel)
set_option maxRecDepth 20000 in
theorem gL_law_X5_go : GoodIn wsL_law (wsV RL 54 RX5 yX5_go wsX5_go) := goodIn_app (goodIn_of _ (by decide +kernel)) ggL_law_X5_go
set_option maxRecDepth 20000 in
theorem ggL_law_X4_roll : GoodIn wsL_law wsX4_roll := goodIn_r _ [605, 25, 470, 16, 545, 471, 472, 473, 2, 474, 475, 431, 432, 433, 434, 435, 606, 607, 608, 24, 609, 80, 555, 492, 493, 494, 81, 445, 96, 78, 495, 107, 108, 15, 109, 56, 496, 497, 498, 499, 500, 501, 502, 503, 91, 504, 505, 506, 507, 508, 509, 510, 511, 512, 48, 49, 610, 561, 562, 563, 92, 79, 440, 93, 564, 565, 566, 567, 441, 442, 443, 444, 446, 103, 104, 105, 106, 921, 922, 923, 924, 925, 926, 927, 928, 929, 930, 931, 932, 933, 934, 993, 994, 995, 996, 997, 998, 999, 1000, 1001, 975, 976, 977, 978, 979, 980, 981, 982, 983, 984, 985, 986, 987] (by decide +kernel) (by decide +kernel)
set_option maxRecDepth 20000 in
theorem gL_law_X4_roll : GoodIn wsL_law (wsV RL 55 RX4 yX4_roll wsX4_roll) := goodIn_app (goodIn_of _ (by decide +kernel)) ggL_law_X4_roll
set_option maxRecDepth 20000 in
theorem ggL_law_X5_roll : GoodIn wsL_law wsX5_roll := goodIn_r _ [614, 517, 136, 131, 149, 146, 480, 481, 482, 5, 483, 171, 172, 173, 451, 452, 453, 454, 122, 518, 519, 520, 521, 124, 147, 126, 522, 523, 524, 525, 459, 460, 461, 462, 526, 527, 528, 529, 530, 531, 532, 594, 595, 596, 597, 935, 936, 937, 938, 939, 940, 941, 942, 943, 944, 945, 946, 947, 948, 949, 950, 951, 952, 953, 954, 955, 956, 957, 958, 959, 960, 961, 962, 963, 964, 965, 966, 967, 968, 969, 970, 971, 972, 973, 974] (by decide +kernel) (by decide +kernel)
set_option maxRecDepth 20000 in
theorem gL_law_X5_roll : GoodIn wsL_law (wsV RL 58 RX5 yX5_roll wsX5_roll) := goodIn_app (goodIn_of _ (by decide +kernel)) ggL_law_X5_roll
set_option maxRecDepth 20000 in
theorem ggL_law_X4_keep : GoodIn wsL_law wsX4_keep := goodIn_r _ [618, 27, 25, 29, 470, 619, 620, 621, 24, 622, 78, 87, 88, 89, 90, 79, 91, 92, 93, 95, 96, 921, 922, 923, 924, 925, 926, 927, 928, 929, 930, 931, 932, 933, 934, 993, 994, 995, 996, 997, 998, 999, 1000, 1001] (by decide +kernel) (by decide +kernel)
set_option maxRecDepth 20000 in
theorem gL_law_X4_keep : GoodIn wsL_law (wsV RL 59 RX4 yX4_keep wsX4_keep) := goodIn_app (goodIn_of _ (by decide +kernel)) ggL_law_X4_keep
set_option maxRecDepth 20000 in
theorem ggL_law_X5_keep : GoodIn wsL_law wsX5_keep := goodIn_r _ [626, 131, 133, 134, 171, 172, 5, 173, 627, 628, 629, 935, 936, 937, 938, 939, 940, 941, 942, 943, 944, 945, 946, 947, 948, 949, 950, 951, 952, 953, 954, 955, 956, 957, 958, 959, 960, 961, 962, 963, 964, 965, 966, 967, 968, 969, 970, 971, 972, 973, 974] (by decide +kernel) (by decide +kernel)
set_option maxRecDepth 20000 in
theorem gL_law_X5_keep : GoodIn wsL_law (wsV RL 62 RX5 yX5_keep wsX5_keep) := goodIn_app (goodIn_of _ (by decide +kernel)) ggL_law_X5_keep
set_option maxRecDepth 20000 in
theorem ggL_law_X4_back : GoodIn wsL_law wsX4_back := goodIn_r _ [633, 29, 25, 27, 470, 619, 620, 621, 24, 622, 78, 87, 88, 89, 90, 79, 91, 92, 93, 95, 96, 921, 922, 923, 924, 925, 926, 927, 928, 929, 930, 931, 932, 933, 934, 993, 994, 995, 996, 997, 998, 999, 1000, 1001] (by decide +kernel) (by decide +kernel)
set_option maxRecDepth 20000 in
theorem gL_law_X4_back : GoodIn wsL_law (wsV RL 63 RX4 yX4_back wsX4_back) := goodIn_app (goodIn_of _ (by decide +kernel)) ggL_law_X4_back
set_option maxRecDepth 20000 in
theorem ggL_law_X5_back : GoodIn wsL_law wsX5_back := goodIn_r _ [637, 134, 133, 131, 171, 172, 5, 173, 627, 628, 629, 935, 936, 937, 938, 939, 940, 941, 942, 943, 944, 945, 946, 947, 948, 949, 950, 951, 952, 953, 954, 955, 956, 957, 958, 959, 960, 961, 962, 963, 964, 965, 966, 967, 968, 969, 970, 971, 972, 973, 974] (by decide +kernel) (by decide +kernel)
set_option maxRecDepth 20000 in
theorem gL_law_X5_back : GoodIn wsL_law (wsV RL 66 RX5 yX5_back wsX5_back) := goodIn_app (goodIn_of _ (by decide +kernel)) ggL_law_X5_back
set_option maxRecDepth 20000 in
theorem ggL_law_X4_later : GoodIn wsL_law wsX4_later := goodIn_r _ [641, 26, 25, 16, 545, 468, 471, 472, 473, 2, 474, 475, 619, 620, 621, 24, 622, 78, 87, 88, 89, 90, 79, 91, 92, 93, 95, 96, 546, 547, 548, 549, 80, 550, 551, 552, 553, 81, 440, 554, 555, 492, 493, 494, 445, 495, 107, 108, 15, 109, 56, 496, 497, 498, 499, 500, 501, 502, 503, 504, 505, 506, 507, 508, 509, 510, 511, 512, 48, 49, 556, 557, 558, 559, 560, 561, 562, 563, 564, 565, 566, 567, 441, 442, 443, 444, 446, 103, 104, 105, 106, 568, 569, 570, 571, 572, 573, 574, 575, 576, 577, 578, 579, 921, 922, 923, 924, 925, 926, 927, 928, 929, 930, 931, 932, 933, 934, 975, 976, 977, 978, 979, 980, 981, 982, 983, 984, 985, 986, 987, 993, 994, 995, 996, 997, 998, 999, 1000, 1001] (by decide +kernel) (by decide +kernel)
set_option maxRecDepth 20000 in
theorem gL_law_X4_later : GoodIn wsL_law (wsV RL 67 RX4 yX4_later wsX4_later) := goodIn_app (goodIn_of _ (by decide +kernel)) ggL_law_X4_later
set_option maxRecDepth 20000 in
theorem ggL_law_X5_later : GoodIn wsL_law wsX5_later := goodIn_r _ [645, 131, 480, 481, 482, 5, 483, 146, 171, 172, 173, 646, 647, 648, 649, 132, 149, 584, 627, 628, 629, 585, 586, 587, 588, 136, 589, 590, 591, 592, 517, 593, 518, 519, 520, 521, 124, 147, 126, 522, 523, 524, 525, 459, 460, 461, 462, 122, 526, 527, 528, 529, 530, 531, 532, 594, 595, 596, 597, 598, 599, 600, 601, 650, 651, 652, 653, 935, 936, 937, 938, 939, 940, 941, 942, 943, 944, 945, 946, 947, 948, 949, 950, 951, 952, 953, 954, 955, 956, 957, 958, 959, 960, 961, 962, 963, 964, 965, 966, 967, 968, 969, 970, 971, 972, 973, 974] (by decide +kernel) (by decide +kernel)
set_option maxRecDepth 20000 in
theorem gL_law_X5_later : GoodIn wsL_law (wsV RL 70 RX5 yX5_later wsX5_later) := goodIn_app (goodIn_of _ (by decide +kernel)) ggL_law_X5_later
set_option maxRecDepth 20000 in
theorem ggL_law_X4_round : GoodIn wsL_law wsX4_round := goodIn_r _ [657, 26, 25, 16, 545, 37, 619, 620, 621, 24, 622, 78, 87, 88, 89, 90, 79, 91, 92, 93, 95, 96, 658, 659, 660, 661, 662, 663, 664, 665, 81, 440, 666, 667, 668, 669, 670, 671, 672, 673, 674, 675, 676, 2, 677, 546, 547, 548, 549, 80, 550, 551, 552, 553, 554, 555, 492, 493, 494, 445, 495, 107, 108, 15, 109, 56, 496, 497, 498, 499, 500, 501, 502, 503, 504, 505, 506, 507, 508, 509, 510, 511, 512, 48, 49, 556, 557, 558, 559, 560, 561, 562, 563, 564, 565, 566, 567, 441, 442, 443, 444, 446, 103, 104, 105, 106, 568, 569, 570, 571, 572, 573, 574, 575, 576, 577, 578, 579, 921, 922, 923, 924, 925, 926, 927, 928, 929, 930, 931, 932, 933, 934, 975, 976, 977, 978, 979, 980, 981, 982, 983, 984, 985, 986, 987, 993, 994, 995, 996, 997, 998, 999, 1000, 1001] (by decide +kernel) (by decide +kernel)
set_option maxRecDepth 20000 in
theorem gL_law_X4_round : GoodIn wsL_law (wsV RL 71 RX4 yX4_round wsX4_round) := goodIn_app (goodIn_of _ (by decide +kernel)) ggL_law_X4_round
set_option maxRecDepth 20000 in
theorem ggL_law_X5_round : GoodIn wsL_law wsX5_round := goodIn_r _ [681, 171, 172, 5, 173, 682, 683, 684, 685, 646, 647, 648, 649, 131, 132, 149, 584, 627, 628, 629, 686, 687, 688, 689, 137, 146, 690, 691, 692, 693, 694, 695, 696, 697, 585, 586, 587, 588, 136, 589, 590, 591, 592, 517, 593, 518, 519, 520, 521, 124, 147, 126, 522, 523, 524, 525, 459, 460, 461, 462, 122, 526, 527, 528, 529, 530, 531, 532, 594, 595, 596, 597, 598, 599, 600, 601, 650, 651, 652, 653, 935, 936, 937, 938, 939, 940, 941, 942, 943, 944, 945, 946, 947, 948, 949, 950, 951, 952, 953, 954, 955, 956, 957, 958, 959, 960, 961, 962, 963, 964, 965, 966, 967, 968, 969, 970, 971, 972, 973, 974] (by decide +kernel) (by decide +kernel)
set_option maxRecDepth 20000 in
theorem gL_law_X5_round : GoodIn wsL_law (wsV RL 74 RX5 yX5_round wsX5_round) := goodIn_app (goodIn_of _ (by decide +kernel)) ggL_law_X5_round
set_option maxRecDepth 20000 in
theorem ggL_law_X4_touch : GoodIn wsL_law wsX4_touch := goodIn_r _ [701, 25, 702, 703, 704, 2, 705, 471, 472, 473, 474, 16, 475, 706, 707, 708, 24, 709, 710, 711, 712, 713, 81, 441, 442, 443, 444, 445, 78, 446, 103, 104, 15, 105, 106, 107, 108, 109, 56, 714, 715, 716, 717, 298, 299, 300, 301, 718, 719, 720, 721, 722, 723, 724, 725, 726, 921, 922, 923, 924, 925, 926, 927, 928, 929, 930, 931, 932, 933, 934, 975, 976, 977, 978, 979, 980, 981, 982, 983, 984, 985, 986, 987, 993, 994, 995, 996, 997, 998, 999, 1000, 1001] (by decide +kernel) (by decide +kernel)
set_option maxRecDepth 20000 in
theorem gL_law_X4_touch : GoodIn wsL_law (wsV RL 75 RX4 yX4_touch wsX4_touch) := goodIn_app (goodIn_of _ (by decide +kernel)) ggL_law_X4_touch
set_option maxRecDepth 20000 in
theorem ggL_law_X5_touch : GoodIn wsL_law wsX5_touch := goodIn_r _ [730, 171, 172, 5, 173, 731, 732, 733, 734, 480, 481, 482, 483, 146, 735, 736, 737, 738, 122, 131, 739, 740, 741, 742, 455, 456, 457, 458, 124, 459, 460, 461, 462, 935, 936, 937, 938, 939, 940, 941, 942, 943, 944, 945, 946, 947, 948, 949, 950, 951, 952, 953, 954, 955, 956, 957, 958, 959, 960, 961, 962, 963, 964, 965, 966, 967, 968, 969, 970, 971, 972, 973, 974] (by decide +kernel) (by decide +kernel)
set_option maxRecDepth 20000 in
theorem gL_law_X5_touch : GoodIn wsL_law (wsV RL 79 RX5 yX5_touch wsX5_touch) := goodIn_app (goodIn_of _ (by decide +kernel)) ggL_law_X5_touch
set_option maxRecDepth 20000 in
theorem ggL_law_X4_when : GoodIn wsL_law wsX4_when := goodIn_r _ [746, 26, 25, 702, 703, 704, 2, 705, 471, 472, 473, 474, 16, 475, 619, 620, 621, 24, 622, 78, 87, 88, 89, 90, 79, 91, 92, 93, 95, 96, 747, 748, 749, 750, 545, 706, 707, 708, 709, 710, 711, 712, 713, 81, 441, 442, 443, 444, 445, 446, 103, 104, 15, 105, 106, 107, 108, 109, 56, 714, 715, 716, 717, 298, 299, 300, 301, 718, 719, 720, 721, 722, 723, 724, 725, 726, 546, 547, 548, 549, 80, 550, 551, 552, 553, 440, 554, 555, 492, 493, 494, 495, 496, 497, 498, 499, 500, 501, 502, 503, 504, 505, 506, 507, 508, 509, 510, 511, 512, 48, 49, 556, 557, 558, 559, 560, 561, 562, 563, 564, 565, 566, 567, 568, 569, 570, 571, 572, 573, 574, 575, 576, 577, 578, 579, 921, 922, 923, 924, 925, 926, 927, 928, 929, 930, 931, 932, 933, 934, 975, 976, 977, 978, 979, 980, 981, 982, 983, 984, 985, 986, 987, 993, 994, 995, 996, 997, 998, 999, 1000, 1001] (by decide +kernel) (by decide +kernel)
set_option maxRecDepth 20000 in
theorem gL_law_X4_when : GoodIn wsL_law (wsV RL 80 RX4 yX4_when wsX4_when) := goodIn_app (goodIn_of _ (by decide +kernel)) ggL_law_X4_when
set_option maxRecDepth 20000 in
theorem ggL_law_X5_when : GoodIn wsL_law wsX5_when := goodIn_r _ [754, 171, 172, 5, 173, 731, 732, 733, 734, 480, 481, 482, 483, 146, 646, 647, 648, 649, 131, 132, 149, 584, 627, 628, 629, 735, 736, 737, 738, 122, 739, 740, 741, 742, 455, 456, 457, 458, 124, 459, 460, 461, 462, 585, 586, 587, 588, 136, 589, 590, 591, 592, 517, 593, 518, 519, 520, 521, 147, 126, 522, 523, 524, 525, 526, 527, 528, 529, 530, 531, 532, 594, 595, 596, 597, 598, 599, 600, 601, 650, 651, 652, 653, 935, 936, 937, 938, 939, 940, 941, 942, 943, 944, 945, 946, 947, 948, 949, 950, 951, 952, 953, 954, 955, 956, 957, 958, 959, 960, 961, 962, 963, 964, 965, 966, 967, 968, 969, 970, 971, 972, 973, 974] (by decide +kernel) (by decide +kernel)
set_option maxRecDepth 20000 in
theorem gL_law_X5_when : GoodIn wsL_law (wsV RL 83 RX5 yX5_when wsX5_when) := goodIn_app (goodIn_of _ (by decide +kernel)) ggL_law_X5_when
set_option maxRecDepth 20000 in
theorem ggL_law_X4_often : GoodIn wsL_law wsX4_often := goodIn_r _ [758, 26, 25, 16, 545, 702, 703, 704, 2, 705, 471, 472, 473, 474, 475, 759, 760, 761, 619, 620, 621, 24, 622, 78, 87, 88, 89, 90, 79, 91, 92, 93, 95, 96, 706, 707, 708, 709, 710, 711, 712, 713, 81, 441, 442, 443, 444, 445, 446, 103, 104, 15, 105, 106, 107, 108, 109, 56, 714, 715, 716, 717, 298, 299, 300, 301, 718, 719, 720, 721, 722, 723, 724, 725, 726, 546, 547, 548, 549, 80, 550, 551, 552, 553, 440, 554, 555, 492, 493, 494, 495, 496, 497, 498, 499, 500, 501, 502, 503, 504, 505, 506, 507, 508, 509, 510, 511, 512, 48, 49, 556, 557, 558, 559, 560, 561, 562, 563, 564, 565, 566, 567, 568, 569, 570, 571, 572, 573, 574, 575, 576, 577, 578, 579, 921, 922, 923, 924, 925, 926, 927, 928, 929, 930, 931, 932, 933, 934, 975, 976, 977, 978, 979, 980, 981, 982, 983, 984, 985, 986, 987, 993, 994, 995, 996, 997, 998, 999, 1000, 1001] (by decide +kernel) (by decide +kernel)
set_option maxRecDepth 20000 in
theorem gL_law_X4_often : GoodIn wsL_law (wsV RL 84 RX4 yX4_often wsX4_often) := goodIn_app (goodIn_of _ (by decide +kernel)) ggL_law_X4_often
set_option maxRecDepth 20000 in
theorem ggL_law_X5_often : GoodIn wsL_law wsX5_often := goodIn_r _ [765, 171, 172, 5, 173, 766, 767, 768, 731, 732, 733, 734, 480, 481, 482, 483, 146, 646, 647, 648, 649, 131, 132, 149, 584, 627, 628, 629, 735, 736, 737, 738, 122, 739, 740, 741, 742, 455, 456, 457, 458, 124, 459, 460, 461, 462, 585, 586, 587, 588, 136, 589, 590, 591, 592, 517, 593, 518, 519, 520, 521, 147, 126, 522, 523, 524, 525, 526, 527, 528, 529, 530, 531, 532, 594, 595, 596, 597, 598, 599, 600, 601, 650, 651, 652, 653, 935, 936, 937, 938, 939, 940, 941, 942, 943, 944, 945, 946, 947, 948, 949, 950, 951, 952, 953, 954, 955, 956, 957, 958, 959, 960, 961, 962, 963, 964, 965, 966, 967, 968, 969, 970, 971, 972, 973, 974] (by decide +kernel) (by decide +kernel)
set_option maxRecDepth 20000 in
theorem gL_law_X5_often : GoodIn wsL_law (wsV RL 88 RX5 yX5_often wsX5_often) := goodIn_app (goodIn_of _ (by decide +kernel)) ggL_law_X5_often
set_option maxRecDepth 20000 in
theorem ggL_law_X4_brings : GoodIn wsL_law wsX4_brings := goodIn_r _ [772, 26, 25, 16, 545, 471, 472, 473, 2, 474, 475, 759, 760, 761, 619, 620, 621, 24, 622, 78, 87, 88, 89, 90, 79, 91, 92, 93, 95, 96, 773, 774, 775, 776, 81, 777, 445, 495, 107, 108, 15, 109, 56, 546, 547, 548, 549, 80, 550, 551, 552, 553, 440, 554, 555, 492, 493, 494, 496, 497, 498, 499, 500, 501, 502, 503, 504, 505, 506, 507, 508, 509, 510, 511, 512, 48, 49, 556, 557, 558, 559, 560, 561, 562, 563, 564, 565, 566, 567, 441, 442, 443, 444, 446, 103, 104, 105, 106, 568, 569, 570, 571, 572, 573, 574, 575, 576, 577, 578, 579, 921, 922, 923, 924, 925, 926, 927, 928, 929, 930, 931, 932, 933, 934, 975, 976, 977, 978, 979, 980, 981, 982, 983, 984, 985, 986, 987, 993, 994, 995, 996, 997, 998, 999, 1000, 1001] (by decide +kernel) (by decide +kernel)
set_option maxRecDepth 20000 in
theorem gL_law_X4_brings : GoodIn wsL_law (wsV RL 89 RX4 yX4_brings wsX4_brings) := goodIn_app (goodIn_of _ (by decide +kernel)) ggL_law_X4_brings
set_option maxRecDepth 20000 in
theorem ggL_law_X5_brings : GoodIn wsL_law wsX5_brings := goodIn_r _ [781, 122, 123, 480, 481, 482, 5, 483, 146, 171, 172, 173, 766, 767, 768, 646, 647, 648, 649, 131, 132, 149, 584, 627, 628, 629, 455, 456, 457, 458, 124, 459, 460, 461, 462, 585, 586, 587, 588, 136, 589, 590, 591, 592, 517, 593, 518, 519, 520, 521, 147, 126, 522, 523, 524, 525, 526, 527, 528, 529, 530, 531, 532, 594, 595, 596, 597, 598, 599, 600, 601, 650, 651, 652, 653, 935, 936, 937, 938, 939, 940, 941, 942, 943, 944, 945, 946, 947, 948, 949, 950, 951, 952, 953, 954, 955, 956, 957, 958, 959, 960, 961, 962, 963, 964, 965, 966, 967, 968, 969, 970, 971, 972, 973, 974] (by decide +kernel) (by decide +kernel)
set_option maxRecDepth 20000 in
theorem gL_law_X5_brings : GoodIn wsL_law (wsV RL 92 RX5 yX5_brings wsX5_brings) := goodIn_app (goodIn_of _ (by decide +kernel)) ggL_law_X5_brings
set_option maxRecDepth 20000 in
theorem ggL_law_X4_feuding : GoodIn wsL_law wsX4_feuding := goodIn_r _ [785, 26, 25, 16, 545, 759, 760, 2, 761, 619, 620, 621, 24, 622, 78, 87, 88, 89, 90, 79, 91, 92, 93, 95, 96, 786, 787, 788, 789, 81, 790, 791, 792, 710, 711, 712, 713, 441, 442, 443, 444, 445, 446, 103, 104, 15, 105, 106, 107, 108, 109, 56, 714, 715, 716, 717, 298, 299, 300, 301, 546, 547, 548, 549, 80, 550, 551, 552, 553, 440, 554, 555, 492, 493, 494, 495, 496, 497, 498, 499, 500, 501, 502, 503, 504, 505, 506, 507, 508, 509, 510, 511, 512, 48, 49, 556, 557, 558, 559, 560, 561, 562, 563, 564, 565, 566, 567, 568, 569, 570, 571, 572, 573, 574, 575, 576, 577, 578, 579, 921, 922, 923, 924, 925, 926, 927, 928, 929, 930, 931, 932, 933, 934, 975, 976, 977, 978, 979, 980, 981, 982, 983, 984, 985, 986, 987, 993, 994, 995, 996, 997, 998, 999, 1000, 1001] (by decide +kernel) (by decide +kernel)
set_option maxRecDepth 20000 in
theorem gL_law_X4_feuding : GoodIn wsL_law (wsV RL 93 RX4 yX4_feuding wsX4_feuding) := goodIn_app (goodIn_of _ (by decide +kernel)) ggL_law_X4_feuding
set_option maxRecDepth 20000 in
theorem ggL_law_X5_feuding : GoodIn wsL_law wsX5_feuding := goodIn_r _ [796, 148, 127, 766, 767, 5, 768, 171, 172, 173, 646, 647, 648, 649, 131, 132, 149, 584, 627, 628, 629, 739, 740, 741, 742, 122, 455, 456, 457, 458, 124, 459, 460, 461, 462, 585, 586, 587, 588, 136, 146, 589, 590, 591, 592, 517, 593, 518, 519, 520, 521, 147, 126, 522, 523, 524, 525, 526, 527, 528, 529, 530, 531, 532, 594, 595, 596, 597, 598, 599, 600, 601, 650, 651, 652, 653, 935, 936, 937, 938, 939, 940, 941, 942, 943, 944, 945, 946, 947, 948, 949, 950, 951, 952, 953, 954, 955, 956, 957, 958, 959, 960, 961, 962, 963, 964, 965, 966, 967, 968, 969, 970, 971, 972, 973, 974] (by decide +kernel) (by decide +kernel)
set_option maxRecDepth 20000 in
theorem gL_law_X5_feuding : GoodIn wsL_law (wsV RL 96 RX5 yX5_feuding wsX5_feuding) := goodIn_app (goodIn_of _ (by decide +kernel)) ggL_law_X5_feuding
set_option maxRecDepth 20000 in
theorem ggL_law_X4_nearest : GoodIn wsL_law wsX4_nearest := goodIn_r _ [800, 25, 26, 33, 801, 702, 703, 704, 2, 705, 471, 472, 473, 474, 16, 475, 802, 711, 712, 24, 713, 81, 441, 442, 443, 444, 445, 78, 446, 103, 104, 15, 105, 106, 107, 108, 109, 56, 714, 715, 716, 717, 298, 299, 300, 301, 619, 620, 621, 622, 87, 88, 89, 90, 79, 91, 92, 93, 95, 96, 803, 804, 805, 32, 806, 807, 808, 809, 116, 810, 811, 62, 812, 813, 814, 117, 815, 816, 817, 818, 663, 664, 665, 440, 819, 820, 821, 822, 823, 824, 825, 115, 826, 827, 492, 493, 494, 495, 496, 497, 498, 499, 500, 501, 502, 503, 504, 505, 506, 507, 508, 509, 510, 511, 512, 48, 49, 828, 565, 566, 567, 829, 830, 921, 922, 923, 924, 925, 926, 927, 928, 929, 930, 931, 932, 933, 934, 1002, 1003, 1004, 1005, 1006, 1007, 975, 976, 977, 978, 979, 980, 981, 982, 983, 984, 985, 986, 987, 993, 994, 995, 996, 997, 998, 999, 1000, 1001] (by decide +kernel) (by decide +kernel)
set_option maxRecDepth 20000 in
theorem gL_law_X4_nearest : GoodIn wsL_law (wsV RL 97 RX4 yX4_nearest wsX4_nearest) := goodIn_app (goodIn_of _ (by decide +kernel)) ggL_law_X4_nearest
set_option maxRecDepth 20000 in
theorem ggL_law_X5_nearest : GoodIn wsL_law wsX5_nearest := goodIn_r _ [834, 171, 172, 5, 173, 731, 732, 733, 734, 480, 481, 482, 483, 146, 646, 647, 648, 649, 131, 132, 149, 584, 627, 628, 629, 835, 836, 837, 838, 139, 140, 517, 136, 141, 739, 740, 741, 742, 122, 455, 456, 457, 458, 124, 459, 460, 461, 462, 839, 840, 841, 842, 138, 843, 844, 845, 846, 518, 519, 520, 521, 147, 126, 522, 523, 524, 525, 526, 527, 528, 529, 530, 531, 532, 650, 651, 652, 653, 935, 936, 937, 938, 939, 940, 941, 942, 943, 944, 945, 946, 947, 948, 949, 950, 951, 952, 953, 954, 955, 956, 957, 958, 959, 960, 961, 962, 963, 964, 965, 966, 967, 968, 969, 970, 971, 972, 973, 974] (by decide +kernel) (by decide +kernel)
set_option maxRecDepth 20000 in
theorem gL_law_X5_nearest : GoodIn wsL_law (wsV RL 100 RX5 yX5_nearest wsX5_nearest) := goodIn_app (goodIn_of _ (by decide +kernel)) ggL_law_X5_nearest
set_option maxRecDepth 20000 in
theorem ggL_law_X4_mends : GoodIn wsL_law wsX4_mends := goodIn_r _ [850, 16, 702, 703, 704, 2, 705, 471, 472, 473, 474, 475, 851, 852, 853, 15, 854, 68, 46, 855, 856, 857, 858, 859, 860, 861, 26, 25, 862, 619, 620, 621, 24, 622, 78, 87, 88, 89, 90, 79, 91, 92, 93, 95, 96, 747, 748, 749, 750, 545, 706, 707, 708, 709, 710, 711, 712, 713, 81, 441, 442, 443, 444, 445, 446, 103, 104, 105, 106, 107, 108, 109, 56, 714, 715, 716, 717, 298, 299, 300, 301, 718, 719, 720, 721, 722, 723, 724, 725, 726, 546, 547, 548, 549, 80, 550, 551, 552, 553, 440, 554, 555, 492, 493, 494, 495, 496, 497, 498, 499, 500, 501, 502, 503, 504, 505, 506, 507, 508, 509, 510, 511, 512, 48, 49, 556, 557, 558, 559, 560, 561, 562, 563, 564, 565, 566, 567, 568, 569, 570, 571, 572, 573, 574, 575, 576, 577, 578, 579, 921, 922, 923, 924, 925, 926, 927, 928, 929, 930, 931, 932, 933, 934, 975, 976, 977, 978, 979, 980, 981, 982, 983, 984, 985, 986, 987, 993, 994, 995, 996, 997, 998, 999, 1000, 1001] (by decide +kernel) (by decide +kernel)
set_option maxRecDepth 20000 in
theorem gL_law_X4_mends : GoodIn wsL_law (wsV RL 101 RX4 yX4_mends wsX4_mends) := goodIn_app (goodIn_of _ (by decide +kernel)) ggL_law_X4_mends
set_option maxRecDepth 20000 in
theorem ggL_law_X5_mends : GoodIn wsL_law wsX5_mends := goodIn_r _ [866, 146, 124, 171, 172, 5, 173, 731, 732, 733, 734, 480, 481, 482, 483, 526, 527, 528, 867, 868, 869, 870, 871, 872, 873, 874, 646, 647, 648, 649, 131, 132, 149, 584, 627, 628, 629, 739, 740, 741, 742, 122, 455, 456, 457, 458, 459, 460, 461, 462, 585, 586, 587, 588, 136, 589, 590, 591, 592, 517, 593, 518, 519, 520, 521, 147, 126, 522, 523, 524, 525, 529, 530, 531, 532, 594, 595, 596, 597, 598, 599, 600, 601, 650, 651, 652, 653, 935, 936, 937, 938, 939, 940, 941, 942, 943, 944, 945, 946, 947, 948, 949, 950, 951, 952, 953, 954, 955, 956, 957, 958, 959, 960, 961, 962, 963, 964, 965, 966, 967, 968, 969, 970, 971, 972, 973, 974] (by decide +kernel) (by decide +kernel)
set_option maxRecDepth 20000 in
theorem gL_law_X5_mends : GoodIn wsL_law (wsV RL 104 RX5 yX5_mends wsX5_mends) := goodIn_app (goodIn_of _ (by decide +kernel)) ggL_law_X5_mends
set_option maxRecDepth 20000 in
theorem ggL_law_X4_seen : GoodIn wsL_law wsX4_seen := goodIn_r _ [878, 414, 38, 39, 40, 471, 472, 473, 2, 474, 16, 475, 431, 432, 433, 434, 435, 921, 922, 923, 924, 925, 926, 927, 928, 929, 930, 931, 932, 933, 934, 975, 976, 977, 978, 979, 980, 981, 982, 983, 984, 985, 986, 987] (by decide +kernel) (by decide +kernel)
set_option maxRecDepth 20000 in
theorem gL_law_X4_seen : GoodIn wsL_law (wsV RL 105 RX4 yX4_seen wsX4_seen) := goodIn_app (goodIn_of _ (by decide +kernel)) ggL_law_X4_seen
set_option maxRecDepth 20000 in
theorem ggL_law_X5_seen : GoodIn wsL_law wsX5_seen := goodIn_r _ [882, 421, 135, 480, 481, 482, 5, 483, 146, 171, 172, 173, 451, 452, 453, 454, 122, 935, 936, 937, 938, 939, 940, 941, 942, 943, 944, 945, 946, 947, 948, 949, 950, 951, 952, 953, 954, 955, 956, 957, 958, 959, 960, 961, 962, 963, 964, 965, 966, 967, 968, 969, 970, 971, 972, 973, 974] (by decide +kernel) (by decide +kernel)
set_option maxRecDepth 20000 in
theorem gL_law_X5_seen : GoodIn wsL_law (wsV RL 108 RX5 yX5_seen wsX5_seen) := goodIn_app (goodIn_of _ (by decide +kernel)) ggL_law_X5_seen
set_option maxRecDepth 20000 in
theorem ggL_law_X4_forget : GoodIn wsL_law wsX4_forget := goodIn_r _ [886, 414, 921, 922, 923, 924, 925, 926, 927, 928, 929, 930, 931, 932, 933, 934] (by decide +kernel) (by decide +kernel)
set_option maxRecDepth 20000 in
theorem gL_law_X4_forget : GoodIn wsL_law (wsV RL 109 RX4 yX4_forget wsX4_forget) := goodIn_app (goodIn_of _ (by decide +kernel)) ggL_law_X4_forget
set_option maxRecDepth 20000 in
theorem ggL_law_X5_forget : GoodIn wsL_law wsX5_forget := goodIn_r _ [890, 421, 935, 936, 937, 938, 939, 940, 941, 942, 943, 944, 945, 946, 947, 948, 949, 950, 951, 952, 953, 954, 955, 956, 957, 958, 959, 960, 961, 962, 963, 964, 965, 966, 967, 968, 969, 970, 971, 972, 973, 974] (by decide +kernel) (by decide +kernel)
set_option maxRecDepth 20000 in
theorem gL_law_X5_forget : GoodIn wsL_law (wsV RL 112 RX5 yX5_forget wsX5_forget) := goodIn_app (goodIn_of _ (by decide +kernel)) ggL_law_X5_forget
set_option maxRecDepth 20000 in
theorem ggL_law_X4_laws : GoodIn wsL_law wsX4_laws := goodIn_r _ [894, 895, 896, 897, 2, 898, 26, 416, 83, 84, 24, 85, 81, 86, 78, 87, 88, 89, 90, 79, 91, 92, 93, 94, 95, 96, 97, 61, 62, 63, 98, 99, 100, 15, 101, 68, 46, 47, 102, 103, 104, 105, 106, 107, 108, 109, 56, 899, 900, 901, 902, 414, 40, 468, 38, 39, 546, 547, 548, 549, 80, 550, 551, 552, 553, 440, 554, 555, 492, 493, 494, 445, 495, 496, 497, 498, 499, 500, 501, 502, 503, 504, 505, 506, 507, 508, 509, 510, 511, 512, 48, 49, 556, 557, 558, 559, 560, 561, 562, 563, 564, 565, 566, 567, 441, 442, 443, 444, 446, 568, 569, 570, 571, 572, 573, 574, 575, 576, 577, 578, 579, 921, 922, 923, 924, 925, 926, 927, 928, 929, 930, 931, 932, 933, 934, 993, 994, 995, 996, 997, 998, 999, 1000, 1001, 975, 976, 977, 978, 979, 980, 981, 982, 983, 984, 985, 986, 987] (by decide +kernel) (by decide +kernel)
set_option maxRecDepth 20000 in
theorem gL_law_X4_laws : GoodIn wsL_law (wsV RL 113 RX4 yX4_laws wsX4_laws) := goodIn_app (goodIn_of _ (by decide +kernel)) ggL_law_X4_laws
set_option maxRecDepth 20000 in
theorem ggL_law_X5_laws : GoodIn wsL_law wsX5_laws := goodIn_r _ [906, 584, 421, 135, 131, 646, 647, 648, 5, 649, 132, 149, 627, 628, 629, 150, 151, 152, 153, 125, 128, 585, 586, 587, 588, 136, 146, 589, 590, 591, 592, 517, 593, 518, 519, 520, 521, 124, 147, 126, 522, 523, 524, 525, 459, 460, 461, 462, 122, 526, 527, 528, 529, 530, 531, 532, 594, 595, 596, 597, 598, 599, 600, 601, 650, 651, 652, 653, 935, 936, 937, 938, 939, 940, 941, 942, 943, 944, 945, 946, 947, 948, 949, 950, 951, 952, 953, 954, 955, 956, 957, 958, 959, 960, 961, 962, 963, 964, 965, 966, 967, 968, 969, 970, 971, 972, 973, 974] (by decide +kernel) (by decide +kernel)
set_option maxRecDepth 20000 in
theorem gL_law_X5_laws : GoodIn wsL_law (wsV RL 116 RX5 yX5_laws wsX5_laws) := goodIn_app (goodIn_of _ (by decide +kernel)) ggL_law_X5_laws
set_option maxRecDepth 20000 in
theorem ggL_law_X4_count : GoodIn wsL_law wsX4_count := goodIn_r _ [910, 16, 435, 475, 911, 912, 545, 25, 470, 913, 914, 414, 915, 21, 158, 916, 299, 300, 15, 301, 56, 921, 922, 923, 924, 925, 926, 927, 928, 929, 930, 931, 932, 933, 934, 975, 976, 977, 978, 979, 980, 981, 982, 983, 984, 985, 986, 987, 993, 994, 995, 996, 997, 998, 999, 1000, 1001, 988, 989, 990, 991, 992] (by decide +kernel) (by decide +kernel)
set_option maxRecDepth 20000 in
theorem gL_law_X4_count : GoodIn wsL_law (wsV RL 117 RX4 yX4_count wsX4_count) := goodIn_app (goodIn_of _ (by decide +kernel)) ggL_law_X4_count
set_option maxRecDepth 20000 in
theorem ggL_law_X5_count : GoodIn wsL_law wsX5_count := goodIn_r _ [920, 122, 146, 147, 148, 149, 131, 421, 169, 522, 523, 524, 5, 525, 124, 459, 460, 461, 462, 935, 936, 937, 938, 939, 940, 941, 942, 943, 944, 945, 946, 947, 948, 949, 950, 951, 952, 953, 954, 955, 956, 957, 958, 959, 960, 961, 962, 963, 964, 965, 966, 967, 968, 969, 970, 971, 972, 973, 974] (by decide +kernel) (by decide +kernel)
set_option maxRecDepth 20000 in
theorem gL_law_X5_count : GoodIn wsL_law (wsV RL 120 RX5 yX5_count wsX5_count) := goodIn_app (goodIn_of _ (by decide +kernel)) ggL_law_X5_count
theorem dL_law_0 : decode cL_law 0 = .ok (.new 7, 3) := by decide +kernel
theorem dL_law_3 : decode cL_law 3 = .ok (.dup, 1) := by decide +kernel
theorem dL_law_4 : decode cL_law 4 = .ok (.invokespecial 9, 3) := by decide +kernel
theorem dL_law_7 : decode cL_law 7 = .ok (.astore_n 1, 1) := by decide +kernel
theorem dL_law_8 : decode cL_law 8 = .ok (.new 10, 3) := by decide +kernel
theorem dL_law_11 : decode cL_law 11 = .ok (.dup, 1) := by decide +kernel
theorem dL_law_12 : decode cL_law 12 = .ok (.invokespecial 12, 3) := by decide +kernel
theorem dL_law_15 : decode cL_law 15 = .ok (.astore_n 2, 1) := by decide +kernel
theorem dL_law_16 : decode cL_law 16 = .ok (.iconst 0, 1) := by decide +kernel
theorem dL_law_17 : decode cL_law 17 = .ok (.istore_n 3, 1) := by decide +kernel
theorem dL_law_18 : decode cL_law 18 = .ok (.iload_n 3, 1) := by decide +kernel
theorem dL_law_19 : decode cL_law 19 = .ok (.aload_n 0, 1) := by decide +kernel
theorem dL_law_20 : decode cL_law 20 = .ok (.arraylength, 1) := by decide +kernel
theorem dL_law_21 : decode cL_law 21 = .ok (.iconst 5, 1) := by decide +kernel
theorem dL_law_22 : decode cL_law 22 = .ok (.isub, 1) := by decide +kernel
theorem dL_law_23 : decode cL_law 23 = .ok (.if_icmp .gt 906, 3) := by decide +kernel
theorem dL_law_26 : decode cL_law 26 = .ok (.aload_n 0, 1) := by decide +kernel
theorem dL_law_27 : decode cL_law 27 = .ok (.iload_n 3, 1) := by decide +kernel
theorem dL_law_28 : decode cL_law 28 = .ok (.iaload, 1) := by decide +kernel
theorem dL_law_29 : decode cL_law 29 = .ok (.bipush 31, 2) := by decide +kernel
theorem dL_law_31 : decode cL_law 31 = .ok (.iand, 1) := by decide +kernel
theorem dL_law_32 : decode cL_law 32 = .ok (.tableswitch 891 0 24 #[116, 179, 192, 205, 218, 251, 284, 317, 350, 373, 406, 429, 452, 485, 508, 551, 594, 647, 680, 703, 746, 799, 842, 855, 868], 116) := by decide +kernel
theorem dL_law_148 : decode cL_law 148 = .ok (.aload_n 1, 1) := by decide +kernel
theorem dL_law_149 : decode cL_law 149 = .ok (.aload_n 0, 1) := by decide +kernel
theorem dL_law_150 : decode cL_law 150 = .ok (.iload_n 3, 1) := by decide +kernel
theorem dL_law_151 : decode cL_law 151 = .ok (.iconst 1, 1) := by decide +kernel
theorem dL_law_152 : decode cL_law 152 = .ok (.iadd, 1) := by decide +kernel
theorem dL_law_153 : decode cL_law 153 = .ok (.iaload, 1) := by decide +kernel
theorem dL_law_154 : decode cL_law 154 = .ok (.i2l, 1) := by decide +kernel
theorem dL_law_155 : decode cL_law 155 = .ok (.bipush 32, 2) := by decide +kernel
theorem dL_law_157 : decode cL_law 157 = .ok (.lshl, 1) := by decide +kernel
theorem dL_law_158 : decode cL_law 158 = .ok (.aload_n 0, 1) := by decide +kernel
theorem dL_law_159 : decode cL_law 159 = .ok (.iload_n 3, 1) := by decide +kernel
theorem dL_law_160 : decode cL_law 160 = .ok (.iconst 2, 1) := by decide +kernel
theorem dL_law_161 : decode cL_law 161 = .ok (.iadd, 1) := by decide +kernel
theorem dL_law_162 : decode cL_law 162 = .ok (.iaload, 1) := by decide +kernel
theorem dL_law_163 : decode cL_law 163 = .ok (.i2l, 1) := by decide +kernel
theorem dL_law_164 : decode cL_law 164 = .ok (.ldc2_w 13, 3) := by decide +kernel
theorem dL_law_167 : decode cL_law 167 = .ok (.land, 1) := by decide +kernel
theorem dL_law_168 : decode cL_law 168 = .ok (.lor, 1) := by decide +kernel
theorem dL_law_169 : decode cL_law 169 = .ok (.aload_n 0, 1) := by decide +kernel
theorem dL_law_170 : decode cL_law 170 = .ok (.iload_n 3, 1) := by decide +kernel
theorem dL_law_171 : decode cL_law 171 = .ok (.iconst 3, 1) := by decide +kernel
theorem dL_law_172 : decode cL_law 172 = .ok (.iadd, 1) := by decide +kernel
theorem dL_law_173 : decode cL_law 173 = .ok (.iaload, 1) := by decide +kernel
theorem dL_law_174 : decode cL_law 174 = .ok (.invokevirtual 15, 3) := by decide +kernel
theorem dL_law_177 : decode cL_law 177 = .ok (.aload_n 2, 1) := by decide +kernel
theorem dL_law_178 : decode cL_law 178 = .ok (.aload_n 0, 1) := by decide +kernel
theorem dL_law_179 : decode cL_law 179 = .ok (.iload_n 3, 1) := by decide +kernel
theorem dL_law_180 : decode cL_law 180 = .ok (.iconst 1, 1) := by decide +kernel
theorem dL_law_181 : decode cL_law 181 = .ok (.iadd, 1) := by decide +kernel
theorem dL_law_182 : decode cL_law 182 = .ok (.iaload, 1) := by decide +kernel
theorem dL_law_183 : decode cL_law 183 = .ok (.i2l, 1) := by decide +kernel
theorem dL_law_184 : decode cL_law 184 = .ok (.bipush 32, 2) := by decide +kernel
theorem dL_law_186 : decode cL_law 186 = .ok (.lshl, 1) := by decide +kernel
theorem dL_law_187 : decode cL_law 187 = .ok (.aload_n 0, 1) := by decide +kernel
theorem dL_law_188 : decode cL_law 188 = .ok (.iload_n 3, 1) := by decide +kernel
theorem dL_law_189 : decode cL_law 189 = .ok (.iconst 2, 1) := by decide +kernel
theorem dL_law_190 : decode cL_law 190 = .ok (.iadd, 1) := by decide +kernel
theorem dL_law_191 : decode cL_law 191 = .ok (.iaload, 1) := by decide +kernel
theorem dL_law_192 : decode cL_law 192 = .ok (.i2l, 1) := by decide +kernel
theorem dL_law_193 : decode cL_law 193 = .ok (.ldc2_w 13, 3) := by decide +kernel
theorem dL_law_196 : decode cL_law 196 = .ok (.land, 1) := by decide +kernel
theorem dL_law_197 : decode cL_law 197 = .ok (.lor, 1) := by decide +kernel
theorem dL_law_198 : decode cL_law 198 = .ok (.aload_n 0, 1) := by decide +kernel
theorem dL_law_199 : decode cL_law 199 = .ok (.iload_n 3, 1) := by decide +kernel
theorem dL_law_200 : decode cL_law 200 = .ok (.iconst 3, 1) := by decide +kernel
theorem dL_law_201 : decode cL_law 201 = .ok (.iadd, 1) := by decide +kernel
theorem dL_law_202 : decode cL_law 202 = .ok (.iaload, 1) := by decide +kernel
theorem dL_law_203 : decode cL_law 203 = .ok (.invokevirtual 19, 3) := by decide +kernel
theorem dL_law_206 : decode cL_law 206 = .ok (.if_icmp .eq 717, 3) := by decide +kernel
theorem dL_law_209 : decode cL_law 209 = .ok (.iconst 0, 1) := by decide +kernel
theorem dL_law_210 : decode cL_law 210 = .ok (.ireturn, 1) := by decide +kernel
theorem dL_law_211 : decode cL_law 211 = .ok (.aload_n 1, 1) := by decide +kernel
theorem dL_law_212 : decode cL_law 212 = .ok (.invokevirtual 20, 3) := by decide +kernel
theorem dL_law_215 : decode cL_law 215 = .ok (.aload_n 2, 1) := by decide +kernel
theorem dL_law_216 : decode cL_law 216 = .ok (.invokevirtual 24, 3) := by decide +kernel
theorem dL_law_219 : decode cL_law 219 = .ok (.if_icmp .eq 704, 3) := by decide +kernel
theorem dL_law_222 : decode cL_law 222 = .ok (.iconst 0, 1) := by decide +kernel
theorem dL_law_223 : decode cL_law 223 = .ok (.ireturn, 1) := by decide +kernel
theorem dL_law_224 : decode cL_law 224 = .ok (.aload_n 1, 1) := by decide +kernel
theorem dL_law_225 : decode cL_law 225 = .ok (.invokevirtual 25, 3) := by decide +kernel
theorem dL_law_228 : decode cL_law 228 = .ok (.aload_n 2, 1) := by decide +kernel
theorem dL_law_229 : decode cL_law 229 = .ok (.invokevirtual 28, 3) := by decide +kernel
theorem dL_law_232 : decode cL_law 232 = .ok (.if_icmp .eq 691, 3) := by decide +kernel
theorem dL_law_235 : decode cL_law 235 = .ok (.iconst 0, 1) := by decide +kernel
theorem dL_law_236 : decode cL_law 236 = .ok (.ireturn, 1) := by decide +kernel
theorem dL_law_237 : decode cL_law 237 = .ok (.aload_n 1, 1) := by decide +kernel
theorem dL_law_238 : decode cL_law 238 = .ok (.invokevirtual 29, 3) := by decide +kernel
theorem dL_law_241 : decode cL_law 241 = .ok (.aload_n 2, 1) := by decide +kernel
theorem dL_law_242 : decode cL_law 242 = .ok (.invokevirtual 32, 3) := by decide +kernel
theorem dL_law_245 : decode cL_law 245 = .ok (.if_icmp .eq 678, 3) := by decide +kernel
theorem dL_law_248 : decode cL_law 248 = .ok (.iconst 0, 1) := by decide +kernel
theorem dL_law_249 : decode cL_law 249 = .ok (.ireturn, 1) := by decide +kernel
theorem dL_law_250 : decode cL_law 250 = .ok (.aload_n 1, 1) := by decide +kernel
theorem dL_law_251 : decode cL_law 251 = .ok (.aload_n 0, 1) := by decide +kernel
theorem dL_law_252 : decode cL_law 252 = .ok (.iload_n 3, 1) := by decide +kernel
theorem dL_law_253 : decode cL_law 253 = .ok (.iconst 1, 1) := by decide +kernel
theorem dL_law_254 : decode cL_law 254 = .ok (.iadd, 1) := by decide +kernel
theorem dL_law_255 : decode cL_law 255 = .ok (.iaload, 1) := by decide +kernel
theorem dL_law_256 : decode cL_law 256 = .ok (.aload_n 0, 1) := by decide +kernel
theorem dL_law_257 : decode cL_law 257 = .ok (.iload_n 3, 1) := by decide +kernel
theorem dL_law_258 : decode cL_law 258 = .ok (.iconst 2, 1) := by decide +kernel
theorem dL_law_259 : decode cL_law 259 = .ok (.iadd, 1) := by decide +kernel
theorem dL_law_260 : decode cL_law 260 = .ok (.iaload, 1) := by decide +kernel
theorem dL_law_261 : decode cL_law 261 = .ok (.invokevirtual 33, 3) := by decide +kernel
theorem dL_law_264 : decode cL_law 264 = .ok (.aload_n 2, 1) := by decide +kernel
theorem dL_law_265 : decode cL_law 265 = .ok (.aload_n 0, 1) := by decide +kernel
theorem dL_law_266 : decode cL_law 266 = .ok (.iload_n 3, 1) := by decide +kernel
theorem dL_law_267 : decode cL_law 267 = .ok (.iconst 1, 1) := by decide +kernel
theorem dL_law_268 : decode cL_law 268 = .ok (.iadd, 1) := by decide +kernel
theorem dL_law_269 : decode cL_law 269 = .ok (.iaload, 1) := by decide +kernel
theorem dL_law_270 : decode cL_law 270 = .ok (.aload_n 0, 1) := by decide +kernel
theorem dL_law_271 : decode cL_law 271 = .ok (.iload_n 3, 1) := by decide +kernel
theorem dL_law_272 : decode cL_law 272 = .ok (.iconst 2, 1) := by decide +kernel
theorem dL_law_273 : decode cL_law 273 = .ok (.iadd, 1) := by decide +kernel
theorem dL_law_274 : decode cL_law 274 = .ok (.iaload, 1) := by decide +kernel
theorem dL_law_275 : decode cL_law 275 = .ok (.invokevirtual 37, 3) := by decide +kernel
theorem dL_law_278 : decode cL_law 278 = .ok (.if_icmp .eq 645, 3) := by decide +kernel
theorem dL_law_281 : decode cL_law 281 = .ok (.iconst 0, 1) := by decide +kernel
theorem dL_law_282 : decode cL_law 282 = .ok (.ireturn, 1) := by decide +kernel
theorem dL_law_283 : decode cL_law 283 = .ok (.aload_n 1, 1) := by decide +kernel
theorem dL_law_284 : decode cL_law 284 = .ok (.aload_n 0, 1) := by decide +kernel
theorem dL_law_285 : decode cL_law 285 = .ok (.iload_n 3, 1) := by decide +kernel
theorem dL_law_286 : decode cL_law 286 = .ok (.iconst 1, 1) := by decide +kernel
theorem dL_law_287 : decode cL_law 287 = .ok (.iadd, 1) := by decide +kernel
theorem dL_law_288 : decode cL_law 288 = .ok (.iaload, 1) := by decide +kernel
theorem dL_law_289 : decode cL_law 289 = .ok (.aload_n 0, 1) := by decide +kernel
theorem dL_law_290 : decode cL_law 290 = .ok (.iload_n 3, 1) := by decide +kernel
theorem dL_law_291 : decode cL_law 291 = .ok (.iconst 2, 1) := by decide +kernel
theorem dL_law_292 : decode cL_law 292 = .ok (.iadd, 1) := by decide +kernel
theorem dL_law_293 : decode cL_law 293 = .ok (.iaload, 1) := by decide +kernel
theorem dL_law_294 : decode cL_law 294 = .ok (.invokevirtual 38, 3) := by decide +kernel
theorem dL_law_297 : decode cL_law 297 = .ok (.aload_n 2, 1) := by decide +kernel
theorem dL_law_298 : decode cL_law 298 = .ok (.aload_n 0, 1) := by decide +kernel
theorem dL_law_299 : decode cL_law 299 = .ok (.iload_n 3, 1) := by decide +kernel
theorem dL_law_300 : decode cL_law 300 = .ok (.iconst 1, 1) := by decide +kernel
theorem dL_law_301 : decode cL_law 301 = .ok (.iadd, 1) := by decide +kernel
theorem dL_law_302 : decode cL_law 302 = .ok (.iaload, 1) := by decide +kernel
theorem dL_law_303 : decode cL_law 303 = .ok (.aload_n 0, 1) := by decide +kernel
theorem dL_law_304 : decode cL_law 304 = .ok (.iload_n 3, 1) := by decide +kernel
theorem dL_law_305 : decode cL_law 305 = .ok (.iconst 2, 1) := by decide +kernel
theorem dL_law_306 : decode cL_law 306 = .ok (.iadd, 1) := by decide +kernel
theorem dL_law_307 : decode cL_law 307 = .ok (.iaload, 1) := by decide +kernel
theorem dL_law_308 : decode cL_law 308 = .ok (.invokevirtual 41, 3) := by decide +kernel
theorem dL_law_311 : decode cL_law 311 = .ok (.if_icmp .eq 612, 3) := by decide +kernel
theorem dL_law_314 : decode cL_law 314 = .ok (.iconst 0, 1) := by decide +kernel
theorem dL_law_315 : decode cL_law 315 = .ok (.ireturn, 1) := by decide +kernel
theorem dL_law_316 : decode cL_law 316 = .ok (.aload_n 1, 1) := by decide +kernel
theorem dL_law_317 : decode cL_law 317 = .ok (.aload_n 0, 1) := by decide +kernel
theorem dL_law_318 : decode cL_law 318 = .ok (.iload_n 3, 1) := by decide +kernel
theorem dL_law_319 : decode cL_law 319 = .ok (.iconst 1, 1) := by decide +kernel
theorem dL_law_320 : decode cL_law 320 = .ok (.iadd, 1) := by decide +kernel
theorem dL_law_321 : decode cL_law 321 = .ok (.iaload, 1) := by decide +kernel
theorem dL_law_322 : decode cL_law 322 = .ok (.aload_n 0, 1) := by decide +kernel
theorem dL_law_323 : decode cL_law 323 = .ok (.iload_n 3, 1) := by decide +kernel
theorem dL_law_324 : decode cL_law 324 = .ok (.iconst 2, 1) := by decide +kernel
theorem dL_law_325 : decode cL_law 325 = .ok (.iadd, 1) := by decide +kernel
theorem dL_law_326 : decode cL_law 326 = .ok (.iaload, 1) := by decide +kernel
theorem dL_law_327 : decode cL_law 327 = .ok (.invokevirtual 42, 3) := by decide +kernel
theorem dL_law_330 : decode cL_law 330 = .ok (.aload_n 2, 1) := by decide +kernel
theorem dL_law_331 : decode cL_law 331 = .ok (.aload_n 0, 1) := by decide +kernel
theorem dL_law_332 : decode cL_law 332 = .ok (.iload_n 3, 1) := by decide +kernel
theorem dL_law_333 : decode cL_law 333 = .ok (.iconst 1, 1) := by decide +kernel
theorem dL_law_334 : decode cL_law 334 = .ok (.iadd, 1) := by decide +kernel
theorem dL_law_335 : decode cL_law 335 = .ok (.iaload, 1) := by decide +kernel
theorem dL_law_336 : decode cL_law 336 = .ok (.aload_n 0, 1) := by decide +kernel
theorem dL_law_337 : decode cL_law 337 = .ok (.iload_n 3, 1) := by decide +kernel
theorem dL_law_338 : decode cL_law 338 = .ok (.iconst 2, 1) := by decide +kernel
theorem dL_law_339 : decode cL_law 339 = .ok (.iadd, 1) := by decide +kernel
theorem dL_law_340 : decode cL_law 340 = .ok (.iaload, 1) := by decide +kernel
theorem dL_law_341 : decode cL_law 341 = .ok (.invokevirtual 45, 3) := by decide +kernel
theorem dL_law_344 : decode cL_law 344 = .ok (.if_icmp .eq 579, 3) := by decide +kernel
theorem dL_law_347 : decode cL_law 347 = .ok (.iconst 0, 1) := by decide +kernel
theorem dL_law_348 : decode cL_law 348 = .ok (.ireturn, 1) := by decide +kernel
theorem dL_law_349 : decode cL_law 349 = .ok (.aload_n 1, 1) := by decide +kernel
theorem dL_law_350 : decode cL_law 350 = .ok (.aload_n 0, 1) := by decide +kernel
theorem dL_law_351 : decode cL_law 351 = .ok (.iload_n 3, 1) := by decide +kernel
theorem dL_law_352 : decode cL_law 352 = .ok (.iconst 1, 1) := by decide +kernel
theorem dL_law_353 : decode cL_law 353 = .ok (.iadd, 1) := by decide +kernel
theorem dL_law_354 : decode cL_law 354 = .ok (.iaload, 1) := by decide +kernel
theorem dL_law_355 : decode cL_law 355 = .ok (.aload_n 0, 1) := by decide +kernel
theorem dL_law_356 : decode cL_law 356 = .ok (.iload_n 3, 1) := by decide +kernel
theorem dL_law_357 : decode cL_law 357 = .ok (.iconst 2, 1) := by decide +kernel
theorem dL_law_358 : decode cL_law 358 = .ok (.iadd, 1) := by decide +kernel
theorem dL_law_359 : decode cL_law 359 = .ok (.iaload, 1) := by decide +kernel
theorem dL_law_360 : decode cL_law 360 = .ok (.invokevirtual 46, 3) := by decide +kernel
theorem dL_law_363 : decode cL_law 363 = .ok (.aload_n 2, 1) := by decide +kernel
theorem dL_law_364 : decode cL_law 364 = .ok (.aload_n 0, 1) := by decide +kernel
theorem dL_law_365 : decode cL_law 365 = .ok (.iload_n 3, 1) := by decide +kernel
theorem dL_law_366 : decode cL_law 366 = .ok (.iconst 1, 1) := by decide +kernel
theorem dL_law_367 : decode cL_law 367 = .ok (.iadd, 1) := by decide +kernel
theorem dL_law_368 : decode cL_law 368 = .ok (.iaload, 1) := by decide +kernel
theorem dL_law_369 : decode cL_law 369 = .ok (.aload_n 0, 1) := by decide +kernel
theorem dL_law_370 : decode cL_law 370 = .ok (.iload_n 3, 1) := by decide +kernel
theorem dL_law_371 : decode cL_law 371 = .ok (.iconst 2, 1) := by decide +kernel
theorem dL_law_372 : decode cL_law 372 = .ok (.iadd, 1) := by decide +kernel
theorem dL_law_373 : decode cL_law 373 = .ok (.iaload, 1) := by decide +kernel
theorem dL_law_374 : decode cL_law 374 = .ok (.invokevirtual 49, 3) := by decide +kernel
theorem dL_law_377 : decode cL_law 377 = .ok (.if_icmp .eq 546, 3) := by decide +kernel
theorem dL_law_380 : decode cL_law 380 = .ok (.iconst 0, 1) := by decide +kernel
theorem dL_law_381 : decode cL_law 381 = .ok (.ireturn, 1) := by decide +kernel
theorem dL_law_382 : decode cL_law 382 = .ok (.aload_n 1, 1) := by decide +kernel
theorem dL_law_383 : decode cL_law 383 = .ok (.aload_n 0, 1) := by decide +kernel
theorem dL_law_384 : decode cL_law 384 = .ok (.iload_n 3, 1) := by decide +kernel
theorem dL_law_385 : decode cL_law 385 = .ok (.iconst 1, 1) := by decide +kernel
theorem dL_law_386 : decode cL_law 386 = .ok (.iadd, 1) := by decide +kernel
theorem dL_law_387 : decode cL_law 387 = .ok (.iaload, 1) := by decide +kernel
theorem dL_law_388 : decode cL_law 388 = .ok (.invokevirtual 50, 3) := by decide +kernel
theorem dL_law_391 : decode cL_law 391 = .ok (.aload_n 2, 1) := by decide +kernel
theorem dL_law_392 : decode cL_law 392 = .ok (.aload_n 0, 1) := by decide +kernel
theorem dL_law_393 : decode cL_law 393 = .ok (.iload_n 3, 1) := by decide +kernel
theorem dL_law_394 : decode cL_law 394 = .ok (.iconst 1, 1) := by decide +kernel
theorem dL_law_395 : decode cL_law 395 = .ok (.iadd, 1) := by decide +kernel
theorem dL_law_396 : decode cL_law 396 = .ok (.iaload, 1) := by decide +kernel
theorem dL_law_397 : decode cL_law 397 = .ok (.invokevirtual 54, 3) := by decide +kernel
theorem dL_law_400 : decode cL_law 400 = .ok (.if_icmp .eq 523, 3) := by decide +kernel
theorem dL_law_403 : decode cL_law 403 = .ok (.iconst 0, 1) := by decide +kernel
theorem dL_law_404 : decode cL_law 404 = .ok (.ireturn, 1) := by decide +kernel
theorem dL_law_405 : decode cL_law 405 = .ok (.aload_n 1, 1) := by decide +kernel
theorem dL_law_406 : decode cL_law 406 = .ok (.aload_n 0, 1) := by decide +kernel
theorem dL_law_407 : decode cL_law 407 = .ok (.iload_n 3, 1) := by decide +kernel
theorem dL_law_408 : decode cL_law 408 = .ok (.iconst 1, 1) := by decide +kernel
theorem dL_law_409 : decode cL_law 409 = .ok (.iadd, 1) := by decide +kernel
theorem dL_law_410 : decode cL_law 410 = .ok (.iaload, 1) := by decide +kernel
theorem dL_law_411 : decode cL_law 411 = .ok (.aload_n 0, 1) := by decide +kernel
theorem dL_law_412 : decode cL_law 412 = .ok (.iload_n 3, 1) := by decide +kernel
theorem dL_law_413 : decode cL_law 413 = .ok (.iconst 2, 1) := by decide +kernel
theorem dL_law_414 : decode cL_law 414 = .ok (.iadd, 1) := by decide +kernel
theorem dL_law_415 : decode cL_law 415 = .ok (.iaload, 1) := by decide +kernel
theorem dL_law_416 : decode cL_law 416 = .ok (.invokevirtual 55, 3) := by decide +kernel
theorem dL_law_419 : decode cL_law 419 = .ok (.aload_n 2, 1) := by decide +kernel
theorem dL_law_420 : decode cL_law 420 = .ok (.aload_n 0, 1) := by decide +kernel
theorem dL_law_421 : decode cL_law 421 = .ok (.iload_n 3, 1) := by decide +kernel
theorem dL_law_422 : decode cL_law 422 = .ok (.iconst 1, 1) := by decide +kernel
theorem dL_law_423 : decode cL_law 423 = .ok (.iadd, 1) := by decide +kernel
