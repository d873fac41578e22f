theorem dX4_when_28 : decode cX4_when 28 = .ok (.aload_n 0, 1) := by decide +kernel
theorem dX4_when_29 : decode cX4_when 29 = .ok (.iload_n 1, 1) := by decide +kernel
theorem dX4_when_30 : decode cX4_when 30 = .ok (.iload_n 2, 1) := by decide +kernel
theorem dX4_when_31 : decode cX4_when 31 = .ok (.iload_n 3, 1) := by decide +kernel
theorem dX4_when_32 : decode cX4_when 32 = .ok (.sipush 399, 3) := by decide +kernel
theorem dX4_when_35 : decode cX4_when 35 = .ok (.invokevirtual 162, 3) := by decide +kernel
theorem dX4_when_38 : decode cX4_when 38 = .ok (.ireturn, 1) := by decide +kernel
set_option maxRecDepth 20000 in
theorem ggX4_often_X4_refusePair : GoodIn wsX4_often wsX4_refusePair := goodIn_r _ [9, 10, 11, 12, 8, 13, 3, 14, 134, 135, 136, 137, 138, 139, 140, 141, 142, 143, 144, 145, 146, 147, 148, 149, 150, 151, 152, 153, 154, 155, 156, 157, 158, 159, 160] (by decide +kernel) (by decide +kernel)
set_option maxRecDepth 20000 in
theorem gX4_often_X4_refusePair : GoodIn wsX4_often (wsV RX4 154 RX4 yX4_refusePair wsX4_refusePair) := goodIn_app (goodIn_of _ (by decide +kernel)) ggX4_often_X4_refusePair
set_option maxRecDepth 20000 in
theorem ggX4_often_X4_areDays : GoodIn wsX4_often wsX4_areDays := goodIn_r _ [17] (by decide +kernel) (by decide +kernel)
set_option maxRecDepth 20000 in
theorem gX4_often_X4_areDays : GoodIn wsX4_often (va_wsS RX4 166 yX4_areDays wsX4_areDays) := goodIn_app (goodIn_of _ (by decide +kernel)) ggX4_often_X4_areDays
set_option maxRecDepth 20000 in
theorem ggX4_often_X1_copyFrom : GoodIn wsX4_often wsX1_copyFrom := goodIn_r _ [22, 23, 24, 25, 26, 27, 28, 29, 30, 31, 32, 33, 161, 162, 163, 164, 165, 166, 167, 168, 169] (by decide +kernel) (by decide +kernel)
set_option maxRecDepth 20000 in
theorem gX4_often_X1_copyFrom : GoodIn wsX4_often (wsV RX4 144 RX1 yX1_copyFrom wsX1_copyFrom) := goodIn_app (goodIn_of _ (by decide +kernel)) ggX4_often_X1_copyFrom
set_option maxRecDepth 20000 in
theorem ggX4_often_X1_meets : GoodIn wsX4_often wsX1_meets := goodIn_r _ [37, 38, 39, 40, 21, 41, 42, 43, 44, 45, 46, 47, 23, 48, 49, 50, 51, 52, 53, 54, 55, 56, 57, 58, 59, 60, 61, 62, 63, 64, 65, 66, 67, 68, 69, 70, 71, 72, 73, 74, 161, 162, 163, 164, 165, 166, 167, 168, 169, 148, 149, 150, 151, 152, 153, 154, 155, 156, 157, 158, 159, 160] (by decide +kernel) (by decide +kernel)
set_option maxRecDepth 20000 in
theorem gX4_often_X1_meets : GoodIn wsX4_often (wsV RX4 158 RX1 yX1_meets wsX1_meets) := goodIn_app (goodIn_of _ (by decide +kernel)) ggX4_often_X1_meets
set_option maxRecDepth 20000 in
theorem ggX4_often_X1_passNight : GoodIn wsX4_often wsX1_passNight := goodIn_r _ [78, 30, 79, 80, 81, 82, 21, 83, 42, 84, 32, 85, 86, 87, 88, 89, 47, 33, 23, 90, 54, 55, 51, 56, 57, 91, 92, 93, 94, 95, 96, 97, 98, 29, 99, 100, 101, 102, 103, 104, 105, 106, 107, 108, 109, 110, 111, 112, 113, 114, 115, 116, 117, 28, 31, 118, 119, 120, 121, 43, 44, 45, 46, 48, 49, 50, 52, 53, 122, 123, 124, 125, 126, 127, 128, 129, 130, 131, 132, 133, 161, 162, 163, 164, 165, 166, 167, 168, 169, 148, 149, 150, 151, 152, 153, 154, 155, 156, 157, 158, 159, 160] (by decide +kernel) (by decide +kernel)
set_option maxRecDepth 20000 in
theorem gX4_often_X1_passNight : GoodIn wsX4_often (wsV RX4 133 RX1 yX1_passNight wsX1_passNight) := goodIn_app (goodIn_of _ (by decide +kernel)) ggX4_often_X1_passNight
theorem dX4_often_0 : decode cX4_often 0 = .ok (.aload_n 0, 1) := by decide +kernel
theorem dX4_often_1 : decode cX4_often 1 = .ok (.iload_n 1, 1) := by decide +kernel
theorem dX4_often_2 : decode cX4_often 2 = .ok (.iload_n 2, 1) := by decide +kernel
theorem dX4_often_3 : decode cX4_often 3 = .ok (.iload_n 3, 1) := by decide +kernel
theorem dX4_often_4 : decode cX4_often 4 = .ok (.invokevirtual 154, 3) := by decide +kernel
theorem dX4_often_7 : decode cX4_often 7 = .ok (.istore 5, 2) := by decide +kernel
theorem dX4_often_9 : decode cX4_often 9 = .ok (.iload 5, 2) := by decide +kernel
theorem dX4_often_11 : decode cX4_often 11 = .ok (.ifCond .eq 6, 3) := by decide +kernel
theorem dX4_often_14 : decode cX4_often 14 = .ok (.iload 5, 2) := by decide +kernel
theorem dX4_often_16 : decode cX4_often 16 = .ok (.ireturn, 1) := by decide +kernel
theorem dX4_often_17 : decode cX4_often 17 = .ok (.iload 4, 2) := by decide +kernel
theorem dX4_often_19 : decode cX4_often 19 = .ok (.invokestatic 166, 3) := by decide +kernel
theorem dX4_often_22 : decode cX4_often 22 = .ok (.ifCond .ne 6, 3) := by decide +kernel
theorem dX4_often_25 : decode cX4_often 25 = .ok (.bipush (-3), 2) := by decide +kernel
theorem dX4_often_27 : decode cX4_often 27 = .ok (.ireturn, 1) := by decide +kernel
theorem dX4_often_28 : decode cX4_often 28 = .ok (.iconst 0, 1) := by decide +kernel
theorem dX4_often_29 : decode cX4_often 29 = .ok (.istore 6, 2) := by decide +kernel
theorem dX4_often_31 : decode cX4_often 31 = .ok (.aload_n 0, 1) := by decide +kernel
theorem dX4_often_32 : decode cX4_often 32 = .ok (.getfield 35, 3) := by decide +kernel
theorem dX4_often_35 : decode cX4_often 35 = .ok (.aload_n 0, 1) := by decide +kernel
theorem dX4_often_36 : decode cX4_often 36 = .ok (.getfield 31, 3) := by decide +kernel
theorem dX4_often_39 : decode cX4_often 39 = .ok (.invokevirtual 144, 3) := by decide +kernel
theorem dX4_often_42 : decode cX4_often 42 = .ok (.iconst 0, 1) := by decide +kernel
theorem dX4_often_43 : decode cX4_often 43 = .ok (.istore 7, 2) := by decide +kernel
theorem dX4_often_45 : decode cX4_often 45 = .ok (.iload 7, 2) := by decide +kernel
theorem dX4_often_47 : decode cX4_often 47 = .ok (.iload 4, 2) := by decide +kernel
theorem dX4_often_49 : decode cX4_often 49 = .ok (.if_icmp .ge 39, 3) := by decide +kernel
theorem dX4_often_52 : decode cX4_often 52 = .ok (.aload_n 0, 1) := by decide +kernel
theorem dX4_often_53 : decode cX4_often 53 = .ok (.getfield 35, 3) := by decide +kernel
theorem dX4_often_56 : decode cX4_often 56 = .ok (.iload_n 1, 1) := by decide +kernel
theorem dX4_often_57 : decode cX4_often 57 = .ok (.iload_n 2, 1) := by decide +kernel
theorem dX4_often_58 : decode cX4_often 58 = .ok (.iload_n 3, 1) := by decide +kernel
theorem dX4_often_59 : decode cX4_often 59 = .ok (.invokevirtual 158, 3) := by decide +kernel
theorem dX4_often_62 : decode cX4_often 62 = .ok (.ifCond .eq 6, 3) := by decide +kernel
theorem dX4_often_65 : decode cX4_often 65 = .ok (.iinc 6 1, 3) := by decide +kernel
theorem dX4_often_68 : decode cX4_often 68 = .ok (.aload_n 0, 1) := by decide +kernel
theorem dX4_often_69 : decode cX4_often 69 = .ok (.getfield 35, 3) := by decide +kernel
theorem dX4_often_72 : decode cX4_often 72 = .ok (.aload_n 0, 1) := by decide +kernel
theorem dX4_often_73 : decode cX4_often 73 = .ok (.getfield 12, 3) := by decide +kernel
theorem dX4_often_76 : decode cX4_often 76 = .ok (.getfield 130, 3) := by decide +kernel
theorem dX4_often_79 : decode cX4_often 79 = .ok (.invokevirtual 133, 3) := by decide +kernel
theorem dX4_often_82 : decode cX4_often 82 = .ok (.iinc 7 1, 3) := by decide +kernel
theorem dX4_often_85 : decode cX4_often 85 = .ok (.goto (-40), 3) := by decide +kernel
theorem dX4_often_88 : decode cX4_often 88 = .ok (.iload 6, 2) := by decide +kernel
theorem dX4_often_90 : decode cX4_often 90 = .ok (.ireturn, 1) := by decide +kernel
set_option maxRecDepth 20000 in
theorem ggX4_brings_X4_isHouse : GoodIn wsX4_brings wsX4_isHouse := goodIn_r _ [9, 3, 10, 110, 111, 112, 113, 114, 115, 116, 117, 118, 119, 120, 121, 122, 123, 124, 125, 126, 127, 128, 129, 130, 131, 132, 133, 134, 135, 136] (by decide +kernel) (by decide +kernel)
set_option maxRecDepth 20000 in
theorem gX4_brings_X4_isHouse : GoodIn wsX4_brings (wsV RX4 107 RX4 yX4_isHouse wsX4_isHouse) := goodIn_app (goodIn_of _ (by decide +kernel)) ggX4_brings_X4_isHouse
set_option maxRecDepth 20000 in
theorem ggX4_brings_X4_areDays : GoodIn wsX4_brings wsX4_areDays := goodIn_r _ [13] (by decide +kernel) (by decide +kernel)
set_option maxRecDepth 20000 in
theorem gX4_brings_X4_areDays : GoodIn wsX4_brings (va_wsS RX4 166 yX4_areDays wsX4_areDays) := goodIn_app (goodIn_of _ (by decide +kernel)) ggX4_brings_X4_areDays
set_option maxRecDepth 20000 in
theorem ggX4_brings_X1_copyFrom : GoodIn wsX4_brings wsX1_copyFrom := goodIn_r _ [18, 19, 20, 21, 22, 23, 24, 25, 26, 27, 28, 29, 137, 138, 139, 140, 141, 142, 143, 144, 145] (by decide +kernel) (by decide +kernel)
set_option maxRecDepth 20000 in
theorem gX4_brings_X1_copyFrom : GoodIn wsX4_brings (wsV RX4 144 RX1 yX1_copyFrom wsX1_copyFrom) := goodIn_app (goodIn_of _ (by decide +kernel)) ggX4_brings_X1_copyFrom
set_option maxRecDepth 20000 in
theorem ggX4_brings_X1_cropUnder : GoodIn wsX4_brings wsX1_cropUnder := goodIn_r _ [33, 34, 35, 19, 36, 37, 38, 39, 40, 41, 42, 137, 138, 139, 140, 141, 142, 143, 144, 145, 124, 125, 126, 127, 128, 129, 130, 131, 132, 133, 134, 135, 136] (by decide +kernel) (by decide +kernel)
set_option maxRecDepth 20000 in
theorem gX4_brings_X1_cropUnder : GoodIn wsX4_brings (wsV RX4 169 RX1 yX1_cropUnder wsX1_cropUnder) := goodIn_app (goodIn_of _ (by decide +kernel)) ggX4_brings_X1_cropUnder
set_option maxRecDepth 20000 in
theorem ggX4_brings_X1_passNight : GoodIn wsX4_brings wsX1_passNight := goodIn_r _ [46, 26, 47, 48, 49, 50, 17, 51, 34, 52, 28, 53, 54, 55, 56, 57, 36, 29, 19, 37, 38, 39, 40, 41, 42, 58, 59, 60, 61, 62, 63, 64, 65, 25, 66, 67, 68, 69, 70, 71, 72, 73, 74, 75, 76, 77, 78, 79, 80, 81, 82, 83, 84, 24, 27, 85, 86, 87, 88, 89, 90, 91, 92, 93, 94, 95, 96, 97, 98, 99, 100, 101, 102, 103, 104, 105, 106, 107, 108, 109, 137, 138, 139, 140, 141, 142, 143, 144, 145, 124, 125, 126, 127, 128, 129, 130, 131, 132, 133, 134, 135, 136] (by decide +kernel) (by decide +kernel)
set_option maxRecDepth 20000 in
theorem gX4_brings_X1_passNight : GoodIn wsX4_brings (wsV RX4 133 RX1 yX1_passNight wsX1_passNight) := goodIn_app (goodIn_of _ (by decide +kernel)) ggX4_brings_X1_passNight
theorem dX4_brings_0 : decode cX4_brings 0 = .ok (.aload_n 0, 1) := by decide +kernel
theorem dX4_brings_1 : decode cX4_brings 1 = .ok (.iload_n 1, 1) := by decide +kernel
theorem dX4_brings_2 : decode cX4_brings 2 = .ok (.invokevirtual 107, 3) := by decide +kernel
theorem dX4_brings_5 : decode cX4_brings 5 = .ok (.ifCond .ne 6, 3) := by decide +kernel
theorem dX4_brings_8 : decode cX4_brings 8 = .ok (.bipush (-2), 2) := by decide +kernel
theorem dX4_brings_10 : decode cX4_brings 10 = .ok (.ireturn, 1) := by decide +kernel
theorem dX4_brings_11 : decode cX4_brings 11 = .ok (.iload_n 2, 1) := by decide +kernel
theorem dX4_brings_12 : decode cX4_brings 12 = .ok (.invokestatic 166, 3) := by decide +kernel
theorem dX4_brings_15 : decode cX4_brings 15 = .ok (.ifCond .ne 6, 3) := by decide +kernel
theorem dX4_brings_18 : decode cX4_brings 18 = .ok (.bipush (-3), 2) := by decide +kernel
theorem dX4_brings_20 : decode cX4_brings 20 = .ok (.ireturn, 1) := by decide +kernel
theorem dX4_brings_21 : decode cX4_brings 21 = .ok (.iconst 0, 1) := by decide +kernel
theorem dX4_brings_22 : decode cX4_brings 22 = .ok (.istore_n 3, 1) := by decide +kernel
theorem dX4_brings_23 : decode cX4_brings 23 = .ok (.aload_n 0, 1) := by decide +kernel
theorem dX4_brings_24 : decode cX4_brings 24 = .ok (.getfield 35, 3) := by decide +kernel
theorem dX4_brings_27 : decode cX4_brings 27 = .ok (.aload_n 0, 1) := by decide +kernel
theorem dX4_brings_28 : decode cX4_brings 28 = .ok (.getfield 31, 3) := by decide +kernel
theorem dX4_brings_31 : decode cX4_brings 31 = .ok (.invokevirtual 144, 3) := by decide +kernel
theorem dX4_brings_34 : decode cX4_brings 34 = .ok (.iconst 0, 1) := by decide +kernel
theorem dX4_brings_35 : decode cX4_brings 35 = .ok (.istore 4, 2) := by decide +kernel
theorem dX4_brings_37 : decode cX4_brings 37 = .ok (.iload 4, 2) := by decide +kernel
theorem dX4_brings_39 : decode cX4_brings 39 = .ok (.iload_n 2, 1) := by decide +kernel
theorem dX4_brings_40 : decode cX4_brings 40 = .ok (.if_icmp .ge 34, 3) := by decide +kernel
theorem dX4_brings_43 : decode cX4_brings 43 = .ok (.iload_n 3, 1) := by decide +kernel
theorem dX4_brings_44 : decode cX4_brings 44 = .ok (.aload_n 0, 1) := by decide +kernel
theorem dX4_brings_45 : decode cX4_brings 45 = .ok (.getfield 35, 3) := by decide +kernel
theorem dX4_brings_48 : decode cX4_brings 48 = .ok (.iload_n 1, 1) := by decide +kernel
theorem dX4_brings_49 : decode cX4_brings 49 = .ok (.invokevirtual 169, 3) := by decide +kernel
theorem dX4_brings_52 : decode cX4_brings 52 = .ok (.iadd, 1) := by decide +kernel
theorem dX4_brings_53 : decode cX4_brings 53 = .ok (.istore_n 3, 1) := by decide +kernel
theorem dX4_brings_54 : decode cX4_brings 54 = .ok (.aload_n 0, 1) := by decide +kernel
theorem dX4_brings_55 : decode cX4_brings 55 = .ok (.getfield 35, 3) := by decide +kernel
theorem dX4_brings_58 : decode cX4_brings 58 = .ok (.aload_n 0, 1) := by decide +kernel
theorem dX4_brings_59 : decode cX4_brings 59 = .ok (.getfield 12, 3) := by decide +kernel
theorem dX4_brings_62 : decode cX4_brings 62 = .ok (.getfield 130, 3) := by decide +kernel
theorem dX4_brings_65 : decode cX4_brings 65 = .ok (.invokevirtual 133, 3) := by decide +kernel
theorem dX4_brings_68 : decode cX4_brings 68 = .ok (.iinc 4 1, 3) := by decide +kernel
theorem dX4_brings_71 : decode cX4_brings 71 = .ok (.goto (-34), 3) := by decide +kernel
theorem dX4_brings_74 : decode cX4_brings 74 = .ok (.iload_n 3, 1) := by decide +kernel
theorem dX4_brings_75 : decode cX4_brings 75 = .ok (.ireturn, 1) := by decide +kernel
set_option maxRecDepth 20000 in
theorem ggX4_feuding_X4_areDays : GoodIn wsX4_feuding wsX4_areDays := goodIn_r _ [8] (by decide +kernel) (by decide +kernel)
set_option maxRecDepth 20000 in
theorem gX4_feuding_X4_areDays : GoodIn wsX4_feuding (va_wsS RX4 166 yX4_areDays wsX4_areDays) := goodIn_app (goodIn_of _ (by decide +kernel)) ggX4_feuding_X4_areDays
set_option maxRecDepth 20000 in
theorem ggX4_feuding_X1_copyFrom : GoodIn wsX4_feuding wsX1_copyFrom := goodIn_r _ [13, 14, 15, 16, 17, 18, 19, 20, 21, 22, 23, 24, 146, 147, 148, 149, 150, 151, 152, 153, 154] (by decide +kernel) (by decide +kernel)
set_option maxRecDepth 20000 in
theorem gX4_feuding_X1_copyFrom : GoodIn wsX4_feuding (wsV RX4 144 RX1 yX1_copyFrom wsX1_copyFrom) := goodIn_app (goodIn_of _ (by decide +kernel)) ggX4_feuding_X1_copyFrom
set_option maxRecDepth 20000 in
theorem ggX4_feuding_X1_hasFeudBeside : GoodIn wsX4_feuding wsX1_hasFeudBeside := goodIn_r _ [28, 29, 30, 31, 32, 33, 34, 35, 12, 36, 37, 38, 39, 40, 41, 14, 42, 43, 44, 45, 46, 47, 48, 49, 50, 51, 52, 53, 54, 55, 56, 57, 58, 59, 146, 147, 148, 149, 150, 151, 152, 153, 154, 133, 134, 135, 136, 137, 138, 139, 140, 141, 142, 143, 144, 145] (by decide +kernel) (by decide +kernel)
set_option maxRecDepth 20000 in
theorem gX4_feuding_X1_hasFeudBeside : GoodIn wsX4_feuding (wsV RX4 172 RX1 yX1_hasFeudBeside wsX1_hasFeudBeside) := goodIn_app (goodIn_of _ (by decide +kernel)) ggX4_feuding_X1_hasFeudBeside
set_option maxRecDepth 20000 in
theorem ggX4_feuding_X1_passNight : GoodIn wsX4_feuding wsX1_passNight := goodIn_r _ [63, 21, 64, 65, 66, 67, 12, 68, 29, 69, 23, 70, 71, 72, 73, 74, 41, 24, 14, 75, 48, 49, 45, 50, 51, 76, 77, 78, 79, 80, 81, 82, 83, 20, 84, 85, 86, 87, 88, 89, 90, 91, 92, 93, 94, 95, 96, 97, 98, 99, 100, 101, 102, 19, 22, 103, 104, 105, 106, 37, 38, 39, 40, 42, 43, 44, 46, 47, 107, 108, 109, 110, 111, 112, 113, 114, 115, 116, 117, 118, 146, 147, 148, 149, 150, 151, 152, 153, 154, 133, 134, 135, 136, 137, 138, 139, 140, 141, 142, 143, 144, 145] (by decide +kernel) (by decide +kernel)
set_option maxRecDepth 20000 in
theorem gX4_feuding_X1_passNight : GoodIn wsX4_feuding (wsV RX4 133 RX1 yX1_passNight wsX1_passNight) := goodIn_app (goodIn_of _ (by decide +kernel)) ggX4_feuding_X1_passNight
theorem dX4_feuding_0 : decode cX4_feuding 0 = .ok (.iload_n 1, 1) := by decide +kernel
theorem dX4_feuding_1 : decode cX4_feuding 1 = .ok (.invokestatic 166, 3) := by decide +kernel
theorem dX4_feuding_4 : decode cX4_feuding 4 = .ok (.ifCond .ne 6, 3) := by decide +kernel
theorem dX4_feuding_7 : decode cX4_feuding 7 = .ok (.bipush (-3), 2) := by decide +kernel
theorem dX4_feuding_9 : decode cX4_feuding 9 = .ok (.ireturn, 1) := by decide +kernel
theorem dX4_feuding_10 : decode cX4_feuding 10 = .ok (.iconst 0, 1) := by decide +kernel
theorem dX4_feuding_11 : decode cX4_feuding 11 = .ok (.istore_n 2, 1) := by decide +kernel
theorem dX4_feuding_12 : decode cX4_feuding 12 = .ok (.aload_n 0, 1) := by decide +kernel
theorem dX4_feuding_13 : decode cX4_feuding 13 = .ok (.getfield 35, 3) := by decide +kernel
theorem dX4_feuding_16 : decode cX4_feuding 16 = .ok (.aload_n 0, 1) := by decide +kernel
theorem dX4_feuding_17 : decode cX4_feuding 17 = .ok (.getfield 31, 3) := by decide +kernel
theorem dX4_feuding_20 : decode cX4_feuding 20 = .ok (.invokevirtual 144, 3) := by decide +kernel
theorem dX4_feuding_23 : decode cX4_feuding 23 = .ok (.iconst 0, 1) := by decide +kernel
theorem dX4_feuding_24 : decode cX4_feuding 24 = .ok (.istore_n 3, 1) := by decide +kernel
theorem dX4_feuding_25 : decode cX4_feuding 25 = .ok (.iload_n 3, 1) := by decide +kernel
theorem dX4_feuding_26 : decode cX4_feuding 26 = .ok (.iload_n 1, 1) := by decide +kernel
theorem dX4_feuding_27 : decode cX4_feuding 27 = .ok (.if_icmp .ge 36, 3) := by decide +kernel
theorem dX4_feuding_30 : decode cX4_feuding 30 = .ok (.aload_n 0, 1) := by decide +kernel
theorem dX4_feuding_31 : decode cX4_feuding 31 = .ok (.getfield 35, 3) := by decide +kernel
theorem dX4_feuding_34 : decode cX4_feuding 34 = .ok (.invokevirtual 172, 3) := by decide +kernel
theorem dX4_feuding_37 : decode cX4_feuding 37 = .ok (.ifCond .eq 6, 3) := by decide +kernel
theorem dX4_feuding_40 : decode cX4_feuding 40 = .ok (.iinc 2 1, 3) := by decide +kernel
theorem dX4_feuding_43 : decode cX4_feuding 43 = .ok (.aload_n 0, 1) := by decide +kernel
theorem dX4_feuding_44 : decode cX4_feuding 44 = .ok (.getfield 35, 3) := by decide +kernel
theorem dX4_feuding_47 : decode cX4_feuding 47 = .ok (.aload_n 0, 1) := by decide +kernel
theorem dX4_feuding_48 : decode cX4_feuding 48 = .ok (.getfield 12, 3) := by decide +kernel
theorem dX4_feuding_51 : decode cX4_feuding 51 = .ok (.getfield 130, 3) := by decide +kernel
theorem dX4_feuding_54 : decode cX4_feuding 54 = .ok (.invokevirtual 133, 3) := by decide +kernel
theorem dX4_feuding_57 : decode cX4_feuding 57 = .ok (.iinc 3 1, 3) := by decide +kernel
theorem dX4_feuding_60 : decode cX4_feuding 60 = .ok (.goto (-35), 3) := by decide +kernel
theorem dX4_feuding_63 : decode cX4_feuding 63 = .ok (.iload_n 2, 1) := by decide +kernel
theorem dX4_feuding_64 : decode cX4_feuding 64 = .ok (.ireturn, 1) := by decide +kernel
set_option maxRecDepth 20000 in
theorem ggX4_nearest_X4_refusePair : GoodIn wsX4_nearest wsX4_refusePair := goodIn_r _ [9, 10, 11, 12, 8, 13, 14, 15, 123, 124, 125, 126, 127, 128, 129, 130, 131, 132, 133, 134, 135, 136, 143, 144, 145, 146, 147, 148, 149, 150, 151, 152, 153, 154, 155] (by decide +kernel) (by decide +kernel)
set_option maxRecDepth 20000 in
theorem gX4_nearest_X4_refusePair : GoodIn wsX4_nearest (wsV RX4 154 RX4 yX4_refusePair wsX4_refusePair) := goodIn_app (goodIn_of _ (by decide +kernel)) ggX4_nearest_X4_refusePair
set_option maxRecDepth 20000 in
theorem ggX4_nearest_X1_areBeside : GoodIn wsX4_nearest wsX1_areBeside := goodIn_r _ [20, 21, 22, 23, 24, 19, 25, 26, 27, 28, 29, 30, 31, 32, 33, 34, 35, 36, 37, 38, 39, 40, 41, 42, 43, 44, 45, 156, 157, 158, 159, 160, 161, 162, 163, 164, 143, 144, 145, 146, 147, 148, 149, 150, 151, 152, 153, 154, 155] (by decide +kernel) (by decide +kernel)
set_option maxRecDepth 20000 in
theorem gX4_nearest_X1_areBeside : GoodIn wsX4_nearest (wsV RX4 176 RX1 yX1_areBeside wsX1_areBeside) := goodIn_app (goodIn_of _ (by decide +kernel)) ggX4_nearest_X1_areBeside
set_option maxRecDepth 20000 in
theorem ggX4_nearest_X1_copyFrom : GoodIn wsX4_nearest wsX1_copyFrom := goodIn_r _ [49, 27, 50, 51, 52, 53, 54, 55, 56, 57, 58, 59, 156, 157, 158, 159, 160, 161, 162, 163, 164] (by decide +kernel) (by decide +kernel)
set_option maxRecDepth 20000 in
theorem gX4_nearest_X1_copyFrom : GoodIn wsX4_nearest (wsV RX4 144 RX1 yX1_copyFrom wsX1_copyFrom) := goodIn_app (goodIn_of _ (by decide +kernel)) ggX4_nearest_X1_copyFrom
set_option maxRecDepth 20000 in
theorem ggX4_nearest_X0_prepare : GoodIn wsX4_nearest wsX0_prepare := goodIn_r _ [64, 65, 66, 67, 68, 69, 70, 71, 72, 137, 138, 139, 140, 141, 142] (by decide +kernel) (by decide +kernel)
set_option maxRecDepth 20000 in
theorem gX4_nearest_X0_prepare : GoodIn wsX4_nearest (wsV RX4 179 RX0 yX0_prepare wsX0_prepare) := goodIn_app (goodIn_of _ (by decide +kernel)) ggX4_nearest_X0_prepare
set_option maxRecDepth 20000 in
theorem ggX4_nearest_X0_reaches : GoodIn wsX4_nearest wsX0_reaches := goodIn_r _ [74, 75, 76, 77, 68, 78, 79, 80, 81, 19, 82, 21, 83, 27, 84, 85, 86, 63, 87, 65, 66, 88, 89, 90, 91, 92, 67, 93, 94, 95, 96, 26, 59, 97, 34, 35, 31, 36, 37, 98, 99, 100, 101, 102, 103, 104, 105, 55, 106, 107, 108, 109, 110, 111, 112, 113, 114, 115, 116, 117, 118, 119, 120, 22, 23, 24, 25, 28, 29, 30, 32, 33, 121, 17, 18, 20, 38, 39, 40, 41, 42, 43, 44, 45, 122, 73, 137, 138, 139, 140, 141, 142, 156, 157, 158, 159, 160, 161, 162, 163, 164, 143, 144, 145, 146, 147, 148, 149, 150, 151, 152, 153, 154, 155] (by decide +kernel) (by decide +kernel)
set_option maxRecDepth 20000 in
theorem gX4_nearest_X0_reaches_n183 : GoodIn wsX4_nearest (wsX0_reaches) := ggX4_nearest_X0_reaches
theorem dX4_nearest_0 : decode cX4_nearest 0 = .ok (.aload_n 0, 1) := by decide +kernel
theorem dX4_nearest_1 : decode cX4_nearest 1 = .ok (.iload_n 1, 1) := by decide +kernel
theorem dX4_nearest_2 : decode cX4_nearest 2 = .ok (.iload_n 2, 1) := by decide +kernel
theorem dX4_nearest_3 : decode cX4_nearest 3 = .ok (.iload_n 3, 1) := by decide +kernel
theorem dX4_nearest_4 : decode cX4_nearest 4 = .ok (.invokevirtual 154, 3) := by decide +kernel
theorem dX4_nearest_7 : decode cX4_nearest 7 = .ok (.istore 4, 2) := by decide +kernel
theorem dX4_nearest_9 : decode cX4_nearest 9 = .ok (.iload 4, 2) := by decide +kernel
theorem dX4_nearest_11 : decode cX4_nearest 11 = .ok (.ifCond .eq 6, 3) := by decide +kernel
theorem dX4_nearest_14 : decode cX4_nearest 14 = .ok (.iload 4, 2) := by decide +kernel
theorem dX4_nearest_16 : decode cX4_nearest 16 = .ok (.ireturn, 1) := by decide +kernel
theorem dX4_nearest_17 : decode cX4_nearest 17 = .ok (.aload_n 0, 1) := by decide +kernel
theorem dX4_nearest_18 : decode cX4_nearest 18 = .ok (.getfield 31, 3) := by decide +kernel
theorem dX4_nearest_21 : decode cX4_nearest 21 = .ok (.iload_n 1, 1) := by decide +kernel
theorem dX4_nearest_22 : decode cX4_nearest 22 = .ok (.iload_n 2, 1) := by decide +kernel
theorem dX4_nearest_23 : decode cX4_nearest 23 = .ok (.invokevirtual 176, 3) := by decide +kernel
theorem dX4_nearest_26 : decode cX4_nearest 26 = .ok (.ifCond .eq 13, 3) := by decide +kernel
theorem dX4_nearest_29 : decode cX4_nearest 29 = .ok (.iload_n 3, 1) := by decide +kernel
theorem dX4_nearest_30 : decode cX4_nearest 30 = .ok (.ifCond .ne 7, 3) := by decide +kernel
theorem dX4_nearest_33 : decode cX4_nearest 33 = .ok (.iconst 0, 1) := by decide +kernel
theorem dX4_nearest_34 : decode cX4_nearest 34 = .ok (.goto 4, 3) := by decide +kernel
theorem dX4_nearest_37 : decode cX4_nearest 37 = .ok (.iconst (-1), 1) := by decide +kernel
theorem dX4_nearest_38 : decode cX4_nearest 38 = .ok (.ireturn, 1) := by decide +kernel
theorem dX4_nearest_39 : decode cX4_nearest 39 = .ok (.aload_n 0, 1) := by decide +kernel
theorem dX4_nearest_40 : decode cX4_nearest 40 = .ok (.getfield 35, 3) := by decide +kernel
theorem dX4_nearest_43 : decode cX4_nearest 43 = .ok (.aload_n 0, 1) := by decide +kernel
theorem dX4_nearest_44 : decode cX4_nearest 44 = .ok (.getfield 31, 3) := by decide +kernel
theorem dX4_nearest_47 : decode cX4_nearest 47 = .ok (.invokevirtual 144, 3) := by decide +kernel
theorem dX4_nearest_50 : decode cX4_nearest 50 = .ok (.aload_n 0, 1) := by decide +kernel
theorem dX4_nearest_51 : decode cX4_nearest 51 = .ok (.getfield 51, 3) := by decide +kernel
theorem dX4_nearest_54 : decode cX4_nearest 54 = .ok (.iload_n 1, 1) := by decide +kernel
theorem dX4_nearest_55 : decode cX4_nearest 55 = .ok (.iload_n 2, 1) := by decide +kernel
theorem dX4_nearest_56 : decode cX4_nearest 56 = .ok (.invokevirtual 179, 3) := by decide +kernel
theorem dX4_nearest_59 : decode cX4_nearest 59 = .ok (.iconst 1, 1) := by decide +kernel
theorem dX4_nearest_60 : decode cX4_nearest 60 = .ok (.istore 5, 2) := by decide +kernel
theorem dX4_nearest_62 : decode cX4_nearest 62 = .ok (.iload 5, 2) := by decide +kernel
theorem dX4_nearest_64 : decode cX4_nearest 64 = .ok (.iconst 5, 1) := by decide +kernel
theorem dX4_nearest_65 : decode cX4_nearest 65 = .ok (.if_icmp .gt 38, 3) := by decide +kernel
theorem dX4_nearest_68 : decode cX4_nearest 68 = .ok (.aload_n 0, 1) := by decide +kernel
theorem dX4_nearest_69 : decode cX4_nearest 69 = .ok (.getfield 51, 3) := by decide +kernel
theorem dX4_nearest_72 : decode cX4_nearest 72 = .ok (.iload 5, 2) := by decide +kernel
theorem dX4_nearest_74 : decode cX4_nearest 74 = .ok (.invokestatic 183, 3) := by decide +kernel
theorem dX4_nearest_77 : decode cX4_nearest 77 = .ok (.ifCond .eq 20, 3) := by decide +kernel
theorem dX4_nearest_80 : decode cX4_nearest 80 = .ok (.iload_n 3, 1) := by decide +kernel
theorem dX4_nearest_81 : decode cX4_nearest 81 = .ok (.ifCond .ne 8, 3) := by decide +kernel
theorem dX4_nearest_84 : decode cX4_nearest 84 = .ok (.iload 5, 2) := by decide +kernel
theorem dX4_nearest_86 : decode cX4_nearest 86 = .ok (.goto 10, 3) := by decide +kernel
theorem dX4_nearest_89 : decode cX4_nearest 89 = .ok (.aload_n 0, 1) := by decide +kernel
theorem dX4_nearest_90 : decode cX4_nearest 90 = .ok (.getfield 51, 3) := by decide +kernel
theorem dX4_nearest_93 : decode cX4_nearest 93 = .ok (.getfield 187, 3) := by decide +kernel
theorem dX4_nearest_96 : decode cX4_nearest 96 = .ok (.ireturn, 1) := by decide +kernel
theorem dX4_nearest_97 : decode cX4_nearest 97 = .ok (.iinc 5 1, 3) := by decide +kernel
theorem dX4_nearest_100 : decode cX4_nearest 100 = .ok (.goto (-38), 3) := by decide +kernel
theorem dX4_nearest_103 : decode cX4_nearest 103 = .ok (.iconst (-1), 1) := by decide +kernel
theorem dX4_nearest_104 : decode cX4_nearest 104 = .ok (.ireturn, 1) := by decide +kernel
set_option maxRecDepth 20000 in
theorem ggX4_mends_X4_refusePair : GoodIn wsX4_mends wsX4_refusePair := goodIn_r _ [6, 7, 8, 9, 5, 10, 1, 11, 149, 150, 151, 152, 153, 154, 155, 156, 157, 158, 159, 160, 161, 162, 163, 164, 165, 166, 167, 168, 169, 170, 171, 172, 173, 174, 175] (by decide +kernel) (by decide +kernel)
set_option maxRecDepth 20000 in
theorem gX4_mends_X4_refusePair : GoodIn wsX4_mends (wsV RX4 154 RX4 yX4_refusePair wsX4_refusePair) := goodIn_app (goodIn_of _ (by decide +kernel)) ggX4_mends_X4_refusePair
set_option maxRecDepth 20000 in
theorem ggX4_mends_X3_stuckOnes : GoodIn wsX4_mends wsX3_stuckOnes := goodIn_r _ [16, 17, 18, 163, 164, 165, 166, 167, 168, 169, 170, 171, 172, 173, 174, 175] (by decide +kernel) (by decide +kernel)
set_option maxRecDepth 20000 in
theorem gX4_mends_X3_stuckOnes : GoodIn wsX4_mends (wsV RX4 190 RX3 yX3_stuckOnes wsX3_stuckOnes) := goodIn_app (goodIn_of _ (by decide +kernel)) ggX4_mends_X3_stuckOnes
set_option maxRecDepth 20000 in
theorem ggX4_mends_X4_costOf : GoodIn wsX4_mends wsX4_costOf := goodIn_r _ [21] (by decide +kernel) (by decide +kernel)
set_option maxRecDepth 20000 in
theorem gX4_mends_X4_costOf : GoodIn wsX4_mends (va_wsS RX4 194 yX4_costOf wsX4_costOf) := goodIn_app (goodIn_of _ (by decide +kernel)) ggX4_mends_X4_costOf
set_option maxRecDepth 20000 in
theorem ggX4_mends_X4_meetsMended : GoodIn wsX4_mends wsX4_meetsMended := goodIn_r _ [25, 26, 27, 28, 29, 30, 31, 32, 33, 34, 35, 36, 37, 38, 39, 40, 41, 42, 43, 44, 45, 46, 47, 5, 48, 1, 49, 50, 51, 52, 53, 54, 55, 56, 57, 58, 59, 60, 61, 62, 63, 64, 65, 66, 15, 67, 68, 69, 70, 71, 72, 73, 74, 75, 76, 77, 78, 79, 80, 81, 82, 83, 84, 85, 86, 87, 88, 89, 90, 91, 92, 93, 94, 95, 96, 97, 98, 99, 100, 101, 102, 103, 104, 105, 106, 107, 108, 109, 110, 111, 112, 113, 114, 115, 116, 117, 118, 119, 120, 121, 122, 123, 124, 125, 126, 127, 128, 129, 130, 131, 132, 133, 134, 135, 136, 137, 138, 139, 140, 141, 142, 143, 144, 145, 146, 147, 148, 149, 150, 151, 152, 153, 154, 155, 156, 157, 158, 159, 160, 161, 162, 176, 177, 178, 179, 180, 181, 182, 183, 184, 163, 164, 165, 166, 167, 168, 169, 170, 171, 172, 173, 174, 175] (by decide +kernel) (by decide +kernel)
set_option maxRecDepth 20000 in
theorem gX4_mends_X4_meetsMended : GoodIn wsX4_mends (wsV RX4 197 RX4 yX4_meetsMended wsX4_meetsMended) := goodIn_app (goodIn_of _ (by decide +kernel)) ggX4_mends_X4_meetsMended
theorem dX4_mends_0 : decode cX4_mends 0 = .ok (.aload_n 0, 1) := by decide +kernel
theorem dX4_mends_1 : decode cX4_mends 1 = .ok (.iload_n 1, 1) := by decide +kernel
theorem dX4_mends_2 : decode cX4_mends 2 = .ok (.iload_n 2, 1) := by decide +kernel
theorem dX4_mends_3 : decode cX4_mends 3 = .ok (.iload 4, 2) := by decide +kernel
theorem dX4_mends_5 : decode cX4_mends 5 = .ok (.invokevirtual 154, 3) := by decide +kernel
theorem dX4_mends_8 : decode cX4_mends 8 = .ok (.istore 5, 2) := by decide +kernel
theorem dX4_mends_10 : decode cX4_mends 10 = .ok (.iload 5, 2) := by decide +kernel
theorem dX4_mends_12 : decode cX4_mends 12 = .ok (.ifCond .eq 6, 3) := by decide +kernel
theorem dX4_mends_15 : decode cX4_mends 15 = .ok (.iload 5, 2) := by decide +kernel
theorem dX4_mends_17 : decode cX4_mends 17 = .ok (.ireturn, 1) := by decide +kernel
theorem dX4_mends_18 : decode cX4_mends 18 = .ok (.iload_n 3, 1) := by decide +kernel
theorem dX4_mends_19 : decode cX4_mends 19 = .ok (.ifCond .lt 9, 3) := by decide +kernel
theorem dX4_mends_22 : decode cX4_mends 22 = .ok (.iload_n 3, 1) := by decide +kernel
theorem dX4_mends_23 : decode cX4_mends 23 = .ok (.bipush 99, 2) := by decide +kernel
theorem dX4_mends_25 : decode cX4_mends 25 = .ok (.if_icmp .le 6, 3) := by decide +kernel
theorem dX4_mends_28 : decode cX4_mends 28 = .ok (.bipush (-3), 2) := by decide +kernel
theorem dX4_mends_30 : decode cX4_mends 30 = .ok (.ireturn, 1) := by decide +kernel
theorem dX4_mends_31 : decode cX4_mends 31 = .ok (.aload_n 0, 1) := by decide +kernel
theorem dX4_mends_32 : decode cX4_mends 32 = .ok (.getfield 12, 3) := by decide +kernel
theorem dX4_mends_35 : decode cX4_mends 35 = .ok (.invokevirtual 190, 3) := by decide +kernel
theorem dX4_mends_38 : decode cX4_mends 38 = .ok (.istore 6, 2) := by decide +kernel
theorem dX4_mends_40 : decode cX4_mends 40 = .ok (.iconst (-1), 1) := by decide +kernel
theorem dX4_mends_41 : decode cX4_mends 41 = .ok (.istore 7, 2) := by decide +kernel
theorem dX4_mends_43 : decode cX4_mends 43 = .ok (.iconst (-1), 1) := by decide +kernel
theorem dX4_mends_44 : decode cX4_mends 44 = .ok (.istore 8, 2) := by decide +kernel
theorem dX4_mends_46 : decode cX4_mends 46 = .ok (.iconst 0, 1) := by decide +kernel
theorem dX4_mends_47 : decode cX4_mends 47 = .ok (.istore 9, 2) := by decide +kernel
theorem dX4_mends_49 : decode cX4_mends 49 = .ok (.iload 9, 2) := by decide +kernel
theorem dX4_mends_51 : decode cX4_mends 51 = .ok (.sipush 256, 3) := by decide +kernel
theorem dX4_mends_54 : decode cX4_mends 54 = .ok (.if_icmp .ge 71, 3) := by decide +kernel
theorem dX4_mends_57 : decode cX4_mends 57 = .ok (.iload 9, 2) := by decide +kernel
theorem dX4_mends_59 : decode cX4_mends 59 = .ok (.invokestatic 194, 3) := by decide +kernel
theorem dX4_mends_62 : decode cX4_mends 62 = .ok (.istore 10, 2) := by decide +kernel
theorem dX4_mends_64 : decode cX4_mends 64 = .ok (.iload 7, 2) := by decide +kernel
theorem dX4_mends_66 : decode cX4_mends 66 = .ok (.iconst (-1), 1) := by decide +kernel
theorem dX4_mends_67 : decode cX4_mends 67 = .ok (.if_icmp .eq 10, 3) := by decide +kernel
theorem dX4_mends_70 : decode cX4_mends 70 = .ok (.iload 10, 2) := by decide +kernel
theorem dX4_mends_72 : decode cX4_mends 72 = .ok (.iload 8, 2) := by decide +kernel
theorem dX4_mends_74 : decode cX4_mends 74 = .ok (.if_icmp .ge 7, 3) := by decide +kernel
theorem dX4_mends_77 : decode cX4_mends 77 = .ok (.iconst 1, 1) := by decide +kernel
theorem dX4_mends_78 : decode cX4_mends 78 = .ok (.goto 4, 3) := by decide +kernel
theorem dX4_mends_81 : decode cX4_mends 81 = .ok (.iconst 0, 1) := by decide +kernel
theorem dX4_mends_82 : decode cX4_mends 82 = .ok (.istore 11, 2) := by decide +kernel
theorem dX4_mends_84 : decode cX4_mends 84 = .ok (.iload 9, 2) := by decide +kernel
theorem dX4_mends_86 : decode cX4_mends 86 = .ok (.iload 6, 2) := by decide +kernel
theorem dX4_mends_88 : decode cX4_mends 88 = .ok (.iconst (-1), 1) := by decide +kernel
theorem dX4_mends_89 : decode cX4_mends 89 = .ok (.ixor, 1) := by decide +kernel
theorem dX4_mends_90 : decode cX4_mends 90 = .ok (.iand, 1) := by decide +kernel
theorem dX4_mends_91 : decode cX4_mends 91 = .ok (.ifCond .ne 28, 3) := by decide +kernel
theorem dX4_mends_94 : decode cX4_mends 94 = .ok (.iload 11, 2) := by decide +kernel
theorem dX4_mends_96 : decode cX4_mends 96 = .ok (.ifCond .eq 23, 3) := by decide +kernel
theorem dX4_mends_99 : decode cX4_mends 99 = .ok (.aload_n 0, 1) := by decide +kernel
theorem dX4_mends_100 : decode cX4_mends 100 = .ok (.iload_n 1, 1) := by decide +kernel
theorem dX4_mends_101 : decode cX4_mends 101 = .ok (.iload_n 2, 1) := by decide +kernel
theorem dX4_mends_102 : decode cX4_mends 102 = .ok (.iload_n 3, 1) := by decide +kernel
theorem dX4_mends_103 : decode cX4_mends 103 = .ok (.iload 9, 2) := by decide +kernel
theorem dX4_mends_105 : decode cX4_mends 105 = .ok (.invokevirtual 197, 3) := by decide +kernel
theorem dX4_mends_108 : decode cX4_mends 108 = .ok (.ifCond .eq 11, 3) := by decide +kernel
theorem dX4_mends_111 : decode cX4_mends 111 = .ok (.iload 9, 2) := by decide +kernel
theorem dX4_mends_113 : decode cX4_mends 113 = .ok (.istore 7, 2) := by decide +kernel
theorem dX4_mends_115 : decode cX4_mends 115 = .ok (.iload 10, 2) := by decide +kernel
theorem dX4_mends_117 : decode cX4_mends 117 = .ok (.istore 8, 2) := by decide +kernel
theorem dX4_mends_119 : decode cX4_mends 119 = .ok (.iinc 9 1, 3) := by decide +kernel
theorem dX4_mends_122 : decode cX4_mends 122 = .ok (.goto (-73), 3) := by decide +kernel
theorem dX4_mends_125 : decode cX4_mends 125 = .ok (.iload 4, 2) := by decide +kernel
theorem dX4_mends_127 : decode cX4_mends 127 = .ok (.ifCond .ne 8, 3) := by decide +kernel
theorem dX4_mends_130 : decode cX4_mends 130 = .ok (.iload 8, 2) := by decide +kernel
theorem dX4_mends_132 : decode cX4_mends 132 = .ok (.goto 5, 3) := by decide +kernel
theorem dX4_mends_135 : decode cX4_mends 135 = .ok (.iload 7, 2) := by decide +kernel
theorem dX4_mends_137 : decode cX4_mends 137 = .ok (.ireturn, 1) := by decide +kernel
set_option maxRecDepth 20000 in
theorem ggX4_seen_X4_isHouse : GoodIn wsX4_seen wsX4_isHouse := goodIn_r _ [9, 10, 11, 17, 18, 19, 20, 21, 22, 23, 24, 25, 26, 27, 28, 29, 30, 31, 32, 33, 34, 35, 36, 37, 38, 39, 40, 41, 42, 43] (by decide +kernel) (by decide +kernel)
set_option maxRecDepth 20000 in
theorem gX4_seen_X4_isHouse : GoodIn wsX4_seen (wsV RX4 107 RX4 yX4_isHouse wsX4_isHouse) := goodIn_app (goodIn_of _ (by decide +kernel)) ggX4_seen_X4_isHouse
set_option maxRecDepth 20000 in
theorem ggX4_seen_X4_isPlot : GoodIn wsX4_seen wsX4_isPlot := goodIn_r _ [15, 10, 16, 17, 18, 19, 20, 21, 22, 23, 24, 25, 26, 27, 28, 29, 30, 31, 32, 33, 34, 35, 36, 37, 38, 39, 40, 41, 42, 43] (by decide +kernel) (by decide +kernel)
set_option maxRecDepth 20000 in
theorem gX4_seen_X4_isPlot : GoodIn wsX4_seen (wsV RX4 96 RX4 yX4_isPlot wsX4_isPlot) := goodIn_app (goodIn_of _ (by decide +kernel)) ggX4_seen_X4_isPlot
theorem dX4_seen_0 : decode cX4_seen 0 = .ok (.aload_n 0, 1) := by decide +kernel
theorem dX4_seen_1 : decode cX4_seen 1 = .ok (.iload_n 1, 1) := by decide +kernel
theorem dX4_seen_2 : decode cX4_seen 2 = .ok (.invokevirtual 107, 3) := by decide +kernel
theorem dX4_seen_5 : decode cX4_seen 5 = .ok (.ifCond .eq 11, 3) := by decide +kernel
theorem dX4_seen_8 : decode cX4_seen 8 = .ok (.aload_n 0, 1) := by decide +kernel
theorem dX4_seen_9 : decode cX4_seen 9 = .ok (.iload_n 2, 1) := by decide +kernel
theorem dX4_seen_10 : decode cX4_seen 10 = .ok (.invokevirtual 96, 3) := by decide +kernel
theorem dX4_seen_13 : decode cX4_seen 13 = .ok (.ifCond .ne 6, 3) := by decide +kernel
theorem dX4_seen_16 : decode cX4_seen 16 = .ok (.bipush (-2), 2) := by decide +kernel
theorem dX4_seen_18 : decode cX4_seen 18 = .ok (.ireturn, 1) := by decide +kernel
theorem dX4_seen_19 : decode cX4_seen 19 = .ok (.iload_n 3, 1) := by decide +kernel
theorem dX4_seen_20 : decode cX4_seen 20 = .ok (.ifCond .lt 9, 3) := by decide +kernel
theorem dX4_seen_23 : decode cX4_seen 23 = .ok (.iload_n 3, 1) := by decide +kernel
theorem dX4_seen_24 : decode cX4_seen 24 = .ok (.bipush 99, 2) := by decide +kernel
theorem dX4_seen_26 : decode cX4_seen 26 = .ok (.if_icmp .le 6, 3) := by decide +kernel
theorem dX4_seen_29 : decode cX4_seen 29 = .ok (.bipush (-3), 2) := by decide +kernel
theorem dX4_seen_31 : decode cX4_seen 31 = .ok (.ireturn, 1) := by decide +kernel
theorem dX4_seen_32 : decode cX4_seen 32 = .ok (.aload_n 0, 1) := by decide +kernel
theorem dX4_seen_33 : decode cX4_seen 33 = .ok (.getfield 90, 3) := by decide +kernel
theorem dX4_seen_36 : decode cX4_seen 36 = .ok (.bipush 8, 2) := by decide +kernel
theorem dX4_seen_38 : decode cX4_seen 38 = .ok (.if_icmp .lt 6, 3) := by decide +kernel
theorem dX4_seen_41 : decode cX4_seen 41 = .ok (.bipush (-5), 2) := by decide +kernel
theorem dX4_seen_43 : decode cX4_seen 43 = .ok (.ireturn, 1) := by decide +kernel
theorem dX4_seen_44 : decode cX4_seen 44 = .ok (.aload_n 0, 1) := by decide +kernel
theorem dX4_seen_45 : decode cX4_seen 45 = .ok (.getfield 63, 3) := by decide +kernel
theorem dX4_seen_48 : decode cX4_seen 48 = .ok (.aload_n 0, 1) := by decide +kernel
theorem dX4_seen_49 : decode cX4_seen 49 = .ok (.getfield 90, 3) := by decide +kernel
theorem dX4_seen_52 : decode cX4_seen 52 = .ok (.iload_n 1, 1) := by decide +kernel
theorem dX4_seen_53 : decode cX4_seen 53 = .ok (.iastore, 1) := by decide +kernel
theorem dX4_seen_54 : decode cX4_seen 54 = .ok (.aload_n 0, 1) := by decide +kernel
theorem dX4_seen_55 : decode cX4_seen 55 = .ok (.getfield 66, 3) := by decide +kernel
theorem dX4_seen_58 : decode cX4_seen 58 = .ok (.aload_n 0, 1) := by decide +kernel
theorem dX4_seen_59 : decode cX4_seen 59 = .ok (.getfield 90, 3) := by decide +kernel
theorem dX4_seen_62 : decode cX4_seen 62 = .ok (.iload_n 2, 1) := by decide +kernel
theorem dX4_seen_63 : decode cX4_seen 63 = .ok (.iastore, 1) := by decide +kernel
theorem dX4_seen_64 : decode cX4_seen 64 = .ok (.aload_n 0, 1) := by decide +kernel
theorem dX4_seen_65 : decode cX4_seen 65 = .ok (.getfield 69, 3) := by decide +kernel
theorem dX4_seen_68 : decode cX4_seen 68 = .ok (.aload_n 0, 1) := by decide +kernel
theorem dX4_seen_69 : decode cX4_seen 69 = .ok (.getfield 90, 3) := by decide +kernel
theorem dX4_seen_72 : decode cX4_seen 72 = .ok (.iload_n 3, 1) := by decide +kernel
theorem dX4_seen_73 : decode cX4_seen 73 = .ok (.iastore, 1) := by decide +kernel
theorem dX4_seen_74 : decode cX4_seen 74 = .ok (.aload_n 0, 1) := by decide +kernel
theorem dX4_seen_75 : decode cX4_seen 75 = .ok (.dup, 1) := by decide +kernel
theorem dX4_seen_76 : decode cX4_seen 76 = .ok (.getfield 90, 3) := by decide +kernel
theorem dX4_seen_79 : decode cX4_seen 79 = .ok (.iconst 1, 1) := by decide +kernel
theorem dX4_seen_80 : decode cX4_seen 80 = .ok (.iadd, 1) := by decide +kernel
theorem dX4_seen_81 : decode cX4_seen 81 = .ok (.putfield 90, 3) := by decide +kernel
theorem dX4_seen_84 : decode cX4_seen 84 = .ok (.aload_n 0, 1) := by decide +kernel
theorem dX4_seen_85 : decode cX4_seen 85 = .ok (.getfield 90, 3) := by decide +kernel
theorem dX4_seen_88 : decode cX4_seen 88 = .ok (.ireturn, 1) := by decide +kernel
theorem dX4_forget_0 : decode cX4_forget 0 = .ok (.aload_n 0, 1) := by decide +kernel
theorem dX4_forget_1 : decode cX4_forget 1 = .ok (.getfield 90, 3) := by decide +kernel
theorem dX4_forget_4 : decode cX4_forget 4 = .ok (.istore_n 1, 1) := by decide +kernel
theorem dX4_forget_5 : decode cX4_forget 5 = .ok (.aload_n 0, 1) := by decide +kernel
theorem dX4_forget_6 : decode cX4_forget 6 = .ok (.iconst 0, 1) := by decide +kernel
theorem dX4_forget_7 : decode cX4_forget 7 = .ok (.putfield 90, 3) := by decide +kernel
theorem dX4_forget_10 : decode cX4_forget 10 = .ok (.iload_n 1, 1) := by decide +kernel
theorem dX4_forget_11 : decode cX4_forget 11 = .ok (.ireturn, 1) := by decide +kernel
set_option maxRecDepth 20000 in
theorem ggX4_laws_X4_explainsAllSeen : GoodIn wsX4_laws wsX4_explainsAllSeen := goodIn_r _ [5, 6, 7, 8, 9, 10, 11, 12, 13, 14, 15, 16, 17, 18, 19, 20, 21, 22, 23, 24, 25, 26, 27, 28, 29, 30, 31, 32, 33, 34, 35, 36, 37, 38, 39, 40, 41, 42, 43, 44, 45, 46, 47, 48, 49, 4, 50, 51, 52, 53, 54, 55, 56, 57, 58, 59, 60, 61, 62, 63, 64, 65, 66, 67, 68, 69, 70, 71, 72, 73, 74, 75, 76, 77, 78, 79, 80, 81, 82, 83, 84, 85, 86, 87, 88, 89, 90, 91, 92, 93, 94, 95, 96, 97, 98, 99, 100, 101, 102, 103, 104, 105, 106, 107, 108, 109, 110, 111, 112, 113, 114, 115, 116, 117, 118, 119, 120, 121, 122, 123, 124, 125, 126, 127, 128, 129, 130, 131, 132, 133, 134, 135, 136, 137, 138, 139, 140, 141, 142, 143, 144, 145, 146, 147, 148, 149, 150, 151, 152, 153, 154, 155, 156] (by decide +kernel) (by decide +kernel)
set_option maxRecDepth 20000 in
theorem gX4_laws_X4_explainsAllSeen : GoodIn wsX4_laws (wsV RX4 201 RX4 yX4_explainsAllSeen wsX4_explainsAllSeen) := goodIn_app (goodIn_of _ (by decide +kernel)) ggX4_laws_X4_explainsAllSeen
theorem dX4_laws_0 : decode cX4_laws 0 = .ok (.iconst 0, 1) := by decide +kernel
theorem dX4_laws_1 : decode cX4_laws 1 = .ok (.istore_n 1, 1) := by decide +kernel
theorem dX4_laws_2 : decode cX4_laws 2 = .ok (.iconst 0, 1) := by decide +kernel
theorem dX4_laws_3 : decode cX4_laws 3 = .ok (.istore_n 2, 1) := by decide +kernel
theorem dX4_laws_4 : decode cX4_laws 4 = .ok (.iload_n 2, 1) := by decide +kernel
theorem dX4_laws_5 : decode cX4_laws 5 = .ok (.iconst 2, 1) := by decide +kernel
theorem dX4_laws_6 : decode cX4_laws 6 = .ok (.if_icmp .gt 23, 3) := by decide +kernel
theorem dX4_laws_9 : decode cX4_laws 9 = .ok (.aload_n 0, 1) := by decide +kernel
theorem dX4_laws_10 : decode cX4_laws 10 = .ok (.iload_n 2, 1) := by decide +kernel
theorem dX4_laws_11 : decode cX4_laws 11 = .ok (.invokevirtual 201, 3) := by decide +kernel
theorem dX4_laws_14 : decode cX4_laws 14 = .ok (.ifCond .eq 9, 3) := by decide +kernel
theorem dX4_laws_17 : decode cX4_laws 17 = .ok (.iload_n 1, 1) := by decide +kernel
theorem dX4_laws_18 : decode cX4_laws 18 = .ok (.iconst 1, 1) := by decide +kernel
theorem dX4_laws_19 : decode cX4_laws 19 = .ok (.iload_n 2, 1) := by decide +kernel
theorem dX4_laws_20 : decode cX4_laws 20 = .ok (.ishl, 1) := by decide +kernel
theorem dX4_laws_21 : decode cX4_laws 21 = .ok (.ior, 1) := by decide +kernel
theorem dX4_laws_22 : decode cX4_laws 22 = .ok (.istore_n 1, 1) := by decide +kernel
theorem dX4_laws_23 : decode cX4_laws 23 = .ok (.iinc 2 1, 3) := by decide +kernel
theorem dX4_laws_26 : decode cX4_laws 26 = .ok (.goto (-22), 3) := by decide +kernel
theorem dX4_laws_29 : decode cX4_laws 29 = .ok (.iload_n 1, 1) := by decide +kernel
theorem dX4_laws_30 : decode cX4_laws 30 = .ok (.ireturn, 1) := by decide +kernel
set_option maxRecDepth 20000 in
theorem ggX4_count_X3_allPlots : GoodIn wsX4_count wsX3_allPlots := goodIn_r _ [19, 20, 35, 36, 37, 38, 39, 40, 41, 42, 43, 44, 45, 46, 47] (by decide +kernel) (by decide +kernel)
set_option maxRecDepth 20000 in
theorem gX4_count_X3_allPlots : GoodIn wsX4_count (wsV RX4 222 RX3 yX3_allPlots wsX3_allPlots) := goodIn_app (goodIn_of _ (by decide +kernel)) ggX4_count_X3_allPlots
theorem dX4_count_0 : decode cX4_count 0 = .ok (.iload_n 1, 1) := by decide +kernel
theorem dX4_count_1 : decode cX4_count 1 = .ok (.tableswitch 184 0 10 #[59, 67, 75, 83, 91, 99, 107, 130, 153, 158, 176], 59) := by decide +kernel
theorem dX4_count_60 : decode cX4_count 60 = .ok (.aload_n 0, 1) := by decide +kernel
theorem dX4_count_61 : decode cX4_count 61 = .ok (.getfield 12, 3) := by decide +kernel
theorem dX4_count_64 : decode cX4_count 64 = .ok (.getfield 204, 3) := by decide +kernel
theorem dX4_count_67 : decode cX4_count 67 = .ok (.ireturn, 1) := by decide +kernel
theorem dX4_count_68 : decode cX4_count 68 = .ok (.aload_n 0, 1) := by decide +kernel
theorem dX4_count_69 : decode cX4_count 69 = .ok (.getfield 12, 3) := by decide +kernel
theorem dX4_count_72 : decode cX4_count 72 = .ok (.getfield 207, 3) := by decide +kernel
theorem dX4_count_75 : decode cX4_count 75 = .ok (.ireturn, 1) := by decide +kernel
theorem dX4_count_76 : decode cX4_count 76 = .ok (.aload_n 0, 1) := by decide +kernel
theorem dX4_count_77 : decode cX4_count 77 = .ok (.getfield 12, 3) := by decide +kernel
theorem dX4_count_80 : decode cX4_count 80 = .ok (.getfield 210, 3) := by decide +kernel
theorem dX4_count_83 : decode cX4_count 83 = .ok (.ireturn, 1) := by decide +kernel
theorem dX4_count_84 : decode cX4_count 84 = .ok (.aload_n 0, 1) := by decide +kernel
theorem dX4_count_85 : decode cX4_count 85 = .ok (.getfield 12, 3) := by decide +kernel
theorem dX4_count_88 : decode cX4_count 88 = .ok (.getfield 213, 3) := by decide +kernel
theorem dX4_count_91 : decode cX4_count 91 = .ok (.ireturn, 1) := by decide +kernel
theorem dX4_count_92 : decode cX4_count 92 = .ok (.aload_n 0, 1) := by decide +kernel
theorem dX4_count_93 : decode cX4_count 93 = .ok (.getfield 12, 3) := by decide +kernel
theorem dX4_count_96 : decode cX4_count 96 = .ok (.getfield 130, 3) := by decide +kernel
theorem dX4_count_99 : decode cX4_count 99 = .ok (.ireturn, 1) := by decide +kernel
theorem dX4_count_100 : decode cX4_count 100 = .ok (.aload_n 0, 1) := by decide +kernel
theorem dX4_count_101 : decode cX4_count 101 = .ok (.getfield 31, 3) := by decide +kernel
theorem dX4_count_104 : decode cX4_count 104 = .ok (.getfield 119, 3) := by decide +kernel
theorem dX4_count_107 : decode cX4_count 107 = .ok (.ireturn, 1) := by decide +kernel
theorem dX4_count_108 : decode cX4_count 108 = .ok (.aload_n 0, 1) := by decide +kernel
theorem dX4_count_109 : decode cX4_count 109 = .ok (.getfield 12, 3) := by decide +kernel
theorem dX4_count_112 : decode cX4_count 112 = .ok (.getfield 130, 3) := by decide +kernel
theorem dX4_count_115 : decode cX4_count 115 = .ok (.iconst 1, 1) := by decide +kernel
theorem dX4_count_116 : decode cX4_count 116 = .ok (.if_icmp .ne 13, 3) := by decide +kernel
theorem dX4_count_119 : decode cX4_count 119 = .ok (.aload_n 0, 1) := by decide +kernel
theorem dX4_count_120 : decode cX4_count 120 = .ok (.getfield 31, 3) := by decide +kernel
theorem dX4_count_123 : decode cX4_count 123 = .ok (.getfield 216, 3) := by decide +kernel
theorem dX4_count_126 : decode cX4_count 126 = .ok (.goto 4, 3) := by decide +kernel
theorem dX4_count_129 : decode cX4_count 129 = .ok (.iconst (-1), 1) := by decide +kernel
theorem dX4_count_130 : decode cX4_count 130 = .ok (.ireturn, 1) := by decide +kernel
theorem dX4_count_131 : decode cX4_count 131 = .ok (.aload_n 0, 1) := by decide +kernel
theorem dX4_count_132 : decode cX4_count 132 = .ok (.getfield 12, 3) := by decide +kernel
theorem dX4_count_135 : decode cX4_count 135 = .ok (.getfield 130, 3) := by decide +kernel
theorem dX4_count_138 : decode cX4_count 138 = .ok (.iconst 3, 1) := by decide +kernel
theorem dX4_count_139 : decode cX4_count 139 = .ok (.if_icmp .ne 13, 3) := by decide +kernel
theorem dX4_count_142 : decode cX4_count 142 = .ok (.aload_n 0, 1) := by decide +kernel
theorem dX4_count_143 : decode cX4_count 143 = .ok (.getfield 31, 3) := by decide +kernel
theorem dX4_count_146 : decode cX4_count 146 = .ok (.getfield 219, 3) := by decide +kernel
theorem dX4_count_149 : decode cX4_count 149 = .ok (.goto 4, 3) := by decide +kernel
theorem dX4_count_152 : decode cX4_count 152 = .ok (.iconst (-1), 1) := by decide +kernel
theorem dX4_count_153 : decode cX4_count 153 = .ok (.ireturn, 1) := by decide +kernel
theorem dX4_count_154 : decode cX4_count 154 = .ok (.aload_n 0, 1) := by decide +kernel
theorem dX4_count_155 : decode cX4_count 155 = .ok (.getfield 90, 3) := by decide +kernel
theorem dX4_count_158 : decode cX4_count 158 = .ok (.ireturn, 1) := by decide +kernel
theorem dX4_count_159 : decode cX4_count 159 = .ok (.aload_n 0, 1) := by decide +kernel
theorem dX4_count_160 : decode cX4_count 160 = .ok (.getfield 12, 3) := by decide +kernel
theorem dX4_count_163 : decode cX4_count 163 = .ok (.invokevirtual 222, 3) := by decide +kernel
theorem dX4_count_166 : decode cX4_count 166 = .ok (.aload_n 0, 1) := by decide +kernel
theorem dX4_count_167 : decode cX4_count 167 = .ok (.getfield 31, 3) := by decide +kernel
theorem dX4_count_170 : decode cX4_count 170 = .ok (.getfield 225, 3) := by decide +kernel
theorem dX4_count_173 : decode cX4_count 173 = .ok (.iconst (-1), 1) := by decide +kernel
theorem dX4_count_174 : decode cX4_count 174 = .ok (.ixor, 1) := by decide +kernel
theorem dX4_count_175 : decode cX4_count 175 = .ok (.iand, 1) := by decide +kernel
theorem dX4_count_176 : decode cX4_count 176 = .ok (.ireturn, 1) := by decide +kernel
theorem dX4_count_177 : decode cX4_count 177 = .ok (.aload_n 0, 1) := by decide +kernel
theorem dX4_count_178 : decode cX4_count 178 = .ok (.getfield 22, 3) := by decide +kernel
theorem dX4_count_181 : decode cX4_count 181 = .ok (.getfield 76, 3) := by decide +kernel
theorem dX4_count_184 : decode cX4_count 184 = .ok (.ireturn, 1) := by decide +kernel
theorem dX4_count_185 : decode cX4_count 185 = .ok (.bipush (-3), 2) := by decide +kernel
theorem dX4_count_187 : decode cX4_count 187 = .ok (.ireturn, 1) := by decide +kernel
theorem dX4_isPlot_0 : decode cX4_isPlot 0 = .ok (.iload_n 1, 1) := by decide +kernel
theorem dX4_isPlot_1 : decode cX4_isPlot 1 = .ok (.ifCond .lt 18, 3) := by decide +kernel
theorem dX4_isPlot_4 : decode cX4_isPlot 4 = .ok (.iload_n 1, 1) := by decide +kernel
theorem dX4_isPlot_5 : decode cX4_isPlot 5 = .ok (.aload_n 0, 1) := by decide +kernel
theorem dX4_isPlot_6 : decode cX4_isPlot 6 = .ok (.getfield 12, 3) := by decide +kernel
theorem dX4_isPlot_9 : decode cX4_isPlot 9 = .ok (.getfield 204, 3) := by decide +kernel
theorem dX4_isPlot_12 : decode cX4_isPlot 12 = .ok (.if_icmp .ge 7, 3) := by decide +kernel
theorem dX4_isPlot_15 : decode cX4_isPlot 15 = .ok (.iconst 1, 1) := by decide +kernel
theorem dX4_isPlot_16 : decode cX4_isPlot 16 = .ok (.goto 4, 3) := by decide +kernel
theorem dX4_isPlot_19 : decode cX4_isPlot 19 = .ok (.iconst 0, 1) := by decide +kernel
theorem dX4_isPlot_20 : decode cX4_isPlot 20 = .ok (.ireturn, 1) := by decide +kernel
theorem dX4_isHouse_0 : decode cX4_isHouse 0 = .ok (.iload_n 1, 1) := by decide +kernel
theorem dX4_isHouse_1 : decode cX4_isHouse 1 = .ok (.ifCond .lt 18, 3) := by decide +kernel
theorem dX4_isHouse_4 : decode cX4_isHouse 4 = .ok (.iload_n 1, 1) := by decide +kernel
theorem dX4_isHouse_5 : decode cX4_isHouse 5 = .ok (.aload_n 0, 1) := by decide +kernel
theorem dX4_isHouse_6 : decode cX4_isHouse 6 = .ok (.getfield 12, 3) := by decide +kernel
theorem dX4_isHouse_9 : decode cX4_isHouse 9 = .ok (.getfield 207, 3) := by decide +kernel
theorem dX4_isHouse_12 : decode cX4_isHouse 12 = .ok (.if_icmp .ge 7, 3) := by decide +kernel
theorem dX4_isHouse_15 : decode cX4_isHouse 15 = .ok (.iconst 1, 1) := by decide +kernel
theorem dX4_isHouse_16 : decode cX4_isHouse 16 = .ok (.goto 4, 3) := by decide +kernel
theorem dX4_isHouse_19 : decode cX4_isHouse 19 = .ok (.iconst 0, 1) := by decide +kernel
theorem dX4_isHouse_20 : decode cX4_isHouse 20 = .ok (.ireturn, 1) := by decide +kernel
theorem dX4_areDays_0 : decode cX4_areDays 0 = .ok (.iload_n 0, 1) := by decide +kernel
theorem dX4_areDays_1 : decode cX4_areDays 1 = .ok (.iconst 1, 1) := by decide +kernel
theorem dX4_areDays_2 : decode cX4_areDays 2 = .ok (.if_icmp .lt 13, 3) := by decide +kernel
theorem dX4_areDays_5 : decode cX4_areDays 5 = .ok (.iload_n 0, 1) := by decide +kernel
theorem dX4_areDays_6 : decode cX4_areDays 6 = .ok (.bipush 99, 2) := by decide +kernel
theorem dX4_areDays_8 : decode cX4_areDays 8 = .ok (.if_icmp .gt 7, 3) := by decide +kernel
theorem dX4_areDays_11 : decode cX4_areDays 11 = .ok (.iconst 1, 1) := by decide +kernel
theorem dX4_areDays_12 : decode cX4_areDays 12 = .ok (.goto 4, 3) := by decide +kernel
theorem dX4_areDays_15 : decode cX4_areDays 15 = .ok (.iconst 0, 1) := by decide +kernel
theorem dX4_areDays_16 : decode cX4_areDays 16 = .ok (.ireturn, 1) := by decide +kernel
set_option maxRecDepth 20000 in
theorem ggX4_refusePair_X4_isHouse : GoodIn wsX4_refusePair wsX4_isHouse := goodIn_r _ [5, 6, 7, 8, 9, 10, 11, 12, 13, 14, 15, 16, 17, 18, 19, 20, 21, 22, 23, 24, 25, 26, 27, 28, 29, 30, 31, 32, 33, 34] (by decide +kernel) (by decide +kernel)
set_option maxRecDepth 20000 in
theorem gX4_refusePair_X4_isHouse : GoodIn wsX4_refusePair (wsV RX4 107 RX4 yX4_isHouse wsX4_isHouse) := goodIn_app (goodIn_of _ (by decide +kernel)) ggX4_refusePair_X4_isHouse
theorem dX4_refusePair_0 : decode cX4_refusePair 0 = .ok (.aload_n 0, 1) := by decide +kernel
theorem dX4_refusePair_1 : decode cX4_refusePair 1 = .ok (.iload_n 1, 1) := by decide +kernel
theorem dX4_refusePair_2 : decode cX4_refusePair 2 = .ok (.invokevirtual 107, 3) := by decide +kernel
theorem dX4_refusePair_5 : decode cX4_refusePair 5 = .ok (.ifCond .eq 11, 3) := by decide +kernel
theorem dX4_refusePair_8 : decode cX4_refusePair 8 = .ok (.aload_n 0, 1) := by decide +kernel
theorem dX4_refusePair_9 : decode cX4_refusePair 9 = .ok (.iload_n 2, 1) := by decide +kernel
theorem dX4_refusePair_10 : decode cX4_refusePair 10 = .ok (.invokevirtual 107, 3) := by decide +kernel
theorem dX4_refusePair_13 : decode cX4_refusePair 13 = .ok (.ifCond .ne 6, 3) := by decide +kernel
theorem dX4_refusePair_16 : decode cX4_refusePair 16 = .ok (.bipush (-2), 2) := by decide +kernel
theorem dX4_refusePair_18 : decode cX4_refusePair 18 = .ok (.ireturn, 1) := by decide +kernel
theorem dX4_refusePair_19 : decode cX4_refusePair 19 = .ok (.iload_n 3, 1) := by decide +kernel
theorem dX4_refusePair_20 : decode cX4_refusePair 20 = .ok (.ifCond .lt 13, 3) := by decide +kernel
theorem dX4_refusePair_23 : decode cX4_refusePair 23 = .ok (.iload_n 3, 1) := by decide +kernel
theorem dX4_refusePair_24 : decode cX4_refusePair 24 = .ok (.iconst 1, 1) := by decide +kernel
theorem dX4_refusePair_25 : decode cX4_refusePair 25 = .ok (.if_icmp .gt 8, 3) := by decide +kernel
theorem dX4_refusePair_28 : decode cX4_refusePair 28 = .ok (.iload_n 1, 1) := by decide +kernel
theorem dX4_refusePair_29 : decode cX4_refusePair 29 = .ok (.iload_n 2, 1) := by decide +kernel
theorem dX4_refusePair_30 : decode cX4_refusePair 30 = .ok (.if_icmp .ne 8, 3) := by decide +kernel
theorem dX4_refusePair_33 : decode cX4_refusePair 33 = .ok (.bipush (-3), 2) := by decide +kernel
theorem dX4_refusePair_35 : decode cX4_refusePair 35 = .ok (.goto 4, 3) := by decide +kernel
theorem dX4_refusePair_38 : decode cX4_refusePair 38 = .ok (.iconst 0, 1) := by decide +kernel
theorem dX4_refusePair_39 : decode cX4_refusePair 39 = .ok (.ireturn, 1) := by decide +kernel
theorem dX4_isSuch_0 : decode cX4_isSuch 0 = .ok (.iload_n 1, 1) := by decide +kernel
theorem dX4_isSuch_1 : decode cX4_isSuch 1 = .ok (.ifCond .eq 20, 3) := by decide +kernel
theorem dX4_isSuch_4 : decode cX4_isSuch 4 = .ok (.iload_n 1, 1) := by decide +kernel
theorem dX4_isSuch_5 : decode cX4_isSuch 5 = .ok (.iload_n 0, 1) := by decide +kernel
theorem dX4_isSuch_6 : decode cX4_isSuch 6 = .ok (.iconst 1, 1) := by decide +kernel
theorem dX4_isSuch_7 : decode cX4_isSuch 7 = .ok (.iadd, 1) := by decide +kernel
theorem dX4_isSuch_8 : decode cX4_isSuch 8 = .ok (.if_icmp .eq 13, 3) := by decide +kernel
theorem dX4_isSuch_11 : decode cX4_isSuch 11 = .ok (.iload_n 1, 1) := by decide +kernel
theorem dX4_isSuch_12 : decode cX4_isSuch 12 = .ok (.iconst 1, 1) := by decide +kernel
theorem dX4_isSuch_13 : decode cX4_isSuch 13 = .ok (.if_icmp .ne 12, 3) := by decide +kernel
theorem dX4_isSuch_16 : decode cX4_isSuch 16 = .ok (.iload_n 0, 1) := by decide +kernel
theorem dX4_isSuch_17 : decode cX4_isSuch 17 = .ok (.iconst 3, 1) := by decide +kernel
theorem dX4_isSuch_18 : decode cX4_isSuch 18 = .ok (.if_icmp .eq 7, 3) := by decide +kernel
theorem dX4_isSuch_21 : decode cX4_isSuch 21 = .ok (.iconst 1, 1) := by decide +kernel
theorem dX4_isSuch_22 : decode cX4_isSuch 22 = .ok (.goto 4, 3) := by decide +kernel
theorem dX4_isSuch_25 : decode cX4_isSuch 25 = .ok (.iconst 0, 1) := by decide +kernel
theorem dX4_isSuch_26 : decode cX4_isSuch 26 = .ok (.ireturn, 1) := by decide +kernel
theorem dX4_firstNightWith_0 : decode cX4_firstNightWith 0 = .ok (.iconst 0, 1) := by decide +kernel
theorem dX4_firstNightWith_1 : decode cX4_firstNightWith 1 = .ok (.istore 4, 2) := by decide +kernel
theorem dX4_firstNightWith_3 : decode cX4_firstNightWith 3 = .ok (.iload 4, 2) := by decide +kernel
theorem dX4_firstNightWith_5 : decode cX4_firstNightWith 5 = .ok (.iload_n 3, 1) := by decide +kernel
theorem dX4_firstNightWith_6 : decode cX4_firstNightWith 6 = .ok (.if_icmp .ge 34, 3) := by decide +kernel
theorem dX4_firstNightWith_9 : decode cX4_firstNightWith 9 = .ok (.iload 4, 2) := by decide +kernel
theorem dX4_firstNightWith_11 : decode cX4_firstNightWith 11 = .ok (.aload_n 0, 1) := by decide +kernel
theorem dX4_firstNightWith_12 : decode cX4_firstNightWith 12 = .ok (.getfield 59, 3) := by decide +kernel
theorem dX4_firstNightWith_15 : decode cX4_firstNightWith 15 = .ok (.arraylength, 1) := by decide +kernel
theorem dX4_firstNightWith_16 : decode cX4_firstNightWith 16 = .ok (.if_icmp .ge 24, 3) := by decide +kernel
theorem dX4_firstNightWith_19 : decode cX4_firstNightWith 19 = .ok (.aload_n 0, 1) := by decide +kernel
theorem dX4_firstNightWith_20 : decode cX4_firstNightWith 20 = .ok (.getfield 59, 3) := by decide +kernel
theorem dX4_firstNightWith_23 : decode cX4_firstNightWith 23 = .ok (.iload 4, 2) := by decide +kernel
theorem dX4_firstNightWith_25 : decode cX4_firstNightWith 25 = .ok (.laload, 1) := by decide +kernel
theorem dX4_firstNightWith_26 : decode cX4_firstNightWith 26 = .ok (.lload_n 1, 1) := by decide +kernel
theorem dX4_firstNightWith_27 : decode cX4_firstNightWith 27 = .ok (.lcmp, 1) := by decide +kernel
theorem dX4_firstNightWith_28 : decode cX4_firstNightWith 28 = .ok (.ifCond .ne 6, 3) := by decide +kernel
theorem dX4_firstNightWith_31 : decode cX4_firstNightWith 31 = .ok (.iload 4, 2) := by decide +kernel
theorem dX4_firstNightWith_33 : decode cX4_firstNightWith 33 = .ok (.ireturn, 1) := by decide +kernel
theorem dX4_firstNightWith_34 : decode cX4_firstNightWith 34 = .ok (.iinc 4 1, 3) := by decide +kernel
theorem dX4_firstNightWith_37 : decode cX4_firstNightWith 37 = .ok (.goto (-34), 3) := by decide +kernel
theorem dX4_firstNightWith_40 : decode cX4_firstNightWith 40 = .ok (.iconst (-1), 1) := by decide +kernel
theorem dX4_firstNightWith_41 : decode cX4_firstNightWith 41 = .ok (.ireturn, 1) := by decide +kernel
set_option maxRecDepth 20000 in
theorem ggX4_firstMeeting_X1_meets : GoodIn wsX4_firstMeeting wsX1_meets := goodIn_r _ [8, 9, 10, 11, 7, 12, 13, 14, 15, 16, 17, 18, 19, 20, 21, 22, 23, 24, 25, 26, 27, 28, 29, 30, 31, 32, 33, 34, 35, 36, 37, 38, 39, 40, 41, 42, 43, 44, 45, 46, 139, 140, 141, 142, 143, 144, 145, 146, 147, 126, 127, 128, 129, 130, 131, 132, 133, 134, 135, 136, 137, 138] (by decide +kernel) (by decide +kernel)
set_option maxRecDepth 20000 in
theorem gX4_firstMeeting_X1_meets : GoodIn wsX4_firstMeeting (wsV RX4 158 RX1 yX1_meets wsX1_meets) := goodIn_app (goodIn_of _ (by decide +kernel)) ggX4_firstMeeting_X1_meets
set_option maxRecDepth 20000 in
theorem ggX4_firstMeeting_X1_passNight : GoodIn wsX4_firstMeeting wsX1_passNight := goodIn_r _ [50, 51, 52, 53, 54, 55, 7, 56, 13, 57, 58, 59, 60, 61, 62, 63, 18, 64, 19, 65, 26, 27, 23, 28, 29, 66, 67, 68, 69, 70, 71, 72, 73, 74, 75, 76, 77, 78, 79, 80, 81, 82, 83, 84, 85, 86, 87, 88, 89, 90, 91, 92, 93, 94, 95, 96, 97, 98, 99, 14, 15, 16, 17, 20, 21, 22, 24, 25, 100, 101, 102, 103, 104, 105, 106, 107, 108, 109, 110, 111, 139, 140, 141, 142, 143, 144, 145, 146, 147, 126, 127, 128, 129, 130, 131, 132, 133, 134, 135, 136, 137, 138] (by decide +kernel) (by decide +kernel)
set_option maxRecDepth 20000 in
theorem gX4_firstMeeting_X1_passNight : GoodIn wsX4_firstMeeting (wsV RX4 133 RX1 yX1_passNight wsX1_passNight) := goodIn_app (goodIn_of _ (by decide +kernel)) ggX4_firstMeeting_X1_passNight
theorem dX4_firstMeeting_0 : decode cX4_firstMeeting 0 = .ok (.iconst 0, 1) := by decide +kernel
theorem dX4_firstMeeting_1 : decode cX4_firstMeeting 1 = .ok (.istore 5, 2) := by decide +kernel
theorem dX4_firstMeeting_3 : decode cX4_firstMeeting 3 = .ok (.iload 5, 2) := by decide +kernel
theorem dX4_firstMeeting_5 : decode cX4_firstMeeting 5 = .ok (.iload 4, 2) := by decide +kernel
theorem dX4_firstMeeting_7 : decode cX4_firstMeeting 7 = .ok (.if_icmp .gt 39, 3) := by decide +kernel
theorem dX4_firstMeeting_10 : decode cX4_firstMeeting 10 = .ok (.aload_n 0, 1) := by decide +kernel
theorem dX4_firstMeeting_11 : decode cX4_firstMeeting 11 = .ok (.getfield 35, 3) := by decide +kernel
theorem dX4_firstMeeting_14 : decode cX4_firstMeeting 14 = .ok (.iload_n 1, 1) := by decide +kernel
theorem dX4_firstMeeting_15 : decode cX4_firstMeeting 15 = .ok (.iload_n 2, 1) := by decide +kernel
theorem dX4_firstMeeting_16 : decode cX4_firstMeeting 16 = .ok (.iload_n 3, 1) := by decide +kernel
theorem dX4_firstMeeting_17 : decode cX4_firstMeeting 17 = .ok (.invokevirtual 158, 3) := by decide +kernel
theorem dX4_firstMeeting_20 : decode cX4_firstMeeting 20 = .ok (.ifCond .eq 6, 3) := by decide +kernel
theorem dX4_firstMeeting_23 : decode cX4_firstMeeting 23 = .ok (.iload 5, 2) := by decide +kernel
theorem dX4_firstMeeting_25 : decode cX4_firstMeeting 25 = .ok (.ireturn, 1) := by decide +kernel
theorem dX4_firstMeeting_26 : decode cX4_firstMeeting 26 = .ok (.aload_n 0, 1) := by decide +kernel
theorem dX4_firstMeeting_27 : decode cX4_firstMeeting 27 = .ok (.getfield 35, 3) := by decide +kernel
theorem dX4_firstMeeting_30 : decode cX4_firstMeeting 30 = .ok (.aload_n 0, 1) := by decide +kernel
theorem dX4_firstMeeting_31 : decode cX4_firstMeeting 31 = .ok (.getfield 12, 3) := by decide +kernel
theorem dX4_firstMeeting_34 : decode cX4_firstMeeting 34 = .ok (.getfield 130, 3) := by decide +kernel
theorem dX4_firstMeeting_37 : decode cX4_firstMeeting 37 = .ok (.invokevirtual 133, 3) := by decide +kernel
theorem dX4_firstMeeting_40 : decode cX4_firstMeeting 40 = .ok (.iinc 5 1, 3) := by decide +kernel
theorem dX4_firstMeeting_43 : decode cX4_firstMeeting 43 = .ok (.goto (-40), 3) := by decide +kernel
theorem dX4_firstMeeting_46 : decode cX4_firstMeeting 46 = .ok (.iconst (-1), 1) := by decide +kernel
theorem dX4_firstMeeting_47 : decode cX4_firstMeeting 47 = .ok (.ireturn, 1) := by decide +kernel
set_option maxRecDepth 20000 in
theorem ggX4_meetsMended_X1_copyFrom : GoodIn wsX4_meetsMended wsX1_copyFrom := goodIn_r _ [8, 9, 10, 11, 12, 13, 14, 15, 16, 17, 18, 19, 141, 142, 143, 144, 145, 146, 147, 148, 149] (by decide +kernel) (by decide +kernel)
set_option maxRecDepth 20000 in
theorem gX4_meetsMended_X1_copyFrom : GoodIn wsX4_meetsMended (wsV RX4 144 RX1 yX1_copyFrom wsX1_copyFrom) := goodIn_app (goodIn_of _ (by decide +kernel)) ggX4_meetsMended_X1_copyFrom
set_option maxRecDepth 20000 in
theorem ggX4_meetsMended_X4_firstMeeting : GoodIn wsX4_meetsMended wsX4_firstMeeting := goodIn_r _ [24, 1, 25, 26, 27, 28, 29, 7, 30, 31, 32, 33, 34, 35, 36, 37, 38, 39, 40, 9, 41, 42, 43, 44, 45, 46, 47, 48, 49, 50, 51, 52, 53, 54, 55, 56, 57, 58, 59, 60, 61, 62, 63, 64, 65, 66, 67, 68, 69, 70, 71, 16, 72, 73, 74, 75, 76, 77, 18, 78, 79, 80, 81, 82, 19, 83, 84, 85, 86, 87, 88, 89, 90, 91, 15, 92, 93, 94, 95, 96, 97, 98, 99, 100, 101, 102, 103, 104, 105, 106, 107, 108, 109, 110, 14, 17, 111, 112, 113, 114, 115, 116, 117, 118, 119, 120, 121, 122, 123, 124, 125, 126, 127, 128, 129, 130, 131, 132, 133, 134, 135, 136, 137, 138, 139, 140, 150, 151, 152, 153, 154, 155, 156, 157, 158, 159, 160, 161, 162, 141, 142, 143, 144, 145, 146, 147, 148, 149] (by decide +kernel) (by decide +kernel)
set_option maxRecDepth 20000 in
theorem gX4_meetsMended_X4_firstMeeting : GoodIn wsX4_meetsMended (wsV RX4 162 RX4 yX4_firstMeeting wsX4_firstMeeting) := goodIn_app (goodIn_of _ (by decide +kernel)) ggX4_meetsMended_X4_firstMeeting
theorem dX4_meetsMended_0 : decode cX4_meetsMended 0 = .ok (.aload_n 0, 1) := by decide +kernel
theorem dX4_meetsMended_1 : decode cX4_meetsMended 1 = .ok (.getfield 35, 3) := by decide +kernel
theorem dX4_meetsMended_4 : decode cX4_meetsMended 4 = .ok (.aload_n 0, 1) := by decide +kernel
theorem dX4_meetsMended_5 : decode cX4_meetsMended 5 = .ok (.getfield 31, 3) := by decide +kernel
theorem dX4_meetsMended_8 : decode cX4_meetsMended 8 = .ok (.invokevirtual 144, 3) := by decide +kernel
theorem dX4_meetsMended_11 : decode cX4_meetsMended 11 = .ok (.aload_n 0, 1) := by decide +kernel
theorem dX4_meetsMended_12 : decode cX4_meetsMended 12 = .ok (.getfield 35, 3) := by decide +kernel
theorem dX4_meetsMended_15 : decode cX4_meetsMended 15 = .ok (.iload 4, 2) := by decide +kernel
theorem dX4_meetsMended_17 : decode cX4_meetsMended 17 = .ok (.putfield 228, 3) := by decide +kernel
theorem dX4_meetsMended_20 : decode cX4_meetsMended 20 = .ok (.aload_n 0, 1) := by decide +kernel
theorem dX4_meetsMended_21 : decode cX4_meetsMended 21 = .ok (.iload_n 1, 1) := by decide +kernel
theorem dX4_meetsMended_22 : decode cX4_meetsMended 22 = .ok (.iload_n 2, 1) := by decide +kernel
theorem dX4_meetsMended_23 : decode cX4_meetsMended 23 = .ok (.iconst 0, 1) := by decide +kernel
theorem dX4_meetsMended_24 : decode cX4_meetsMended 24 = .ok (.iload_n 3, 1) := by decide +kernel
theorem dX4_meetsMended_25 : decode cX4_meetsMended 25 = .ok (.invokevirtual 162, 3) := by decide +kernel
theorem dX4_meetsMended_28 : decode cX4_meetsMended 28 = .ok (.iconst (-1), 1) := by decide +kernel
theorem dX4_meetsMended_29 : decode cX4_meetsMended 29 = .ok (.if_icmp .eq 7, 3) := by decide +kernel
theorem dX4_meetsMended_32 : decode cX4_meetsMended 32 = .ok (.iconst 1, 1) := by decide +kernel
theorem dX4_meetsMended_33 : decode cX4_meetsMended 33 = .ok (.goto 4, 3) := by decide +kernel
theorem dX4_meetsMended_36 : decode cX4_meetsMended 36 = .ok (.iconst 0, 1) := by decide +kernel
theorem dX4_meetsMended_37 : decode cX4_meetsMended 37 = .ok (.ireturn, 1) := by decide +kernel
theorem dX4_costOf_0 : decode cX4_costOf 0 = .ok (.iconst 0, 1) := by decide +kernel
theorem dX4_costOf_1 : decode cX4_costOf 1 = .ok (.istore_n 1, 1) := by decide +kernel
theorem dX4_costOf_2 : decode cX4_costOf 2 = .ok (.iconst 0, 1) := by decide +kernel
theorem dX4_costOf_3 : decode cX4_costOf 3 = .ok (.istore_n 2, 1) := by decide +kernel
theorem dX4_costOf_4 : decode cX4_costOf 4 = .ok (.iload_n 2, 1) := by decide +kernel
theorem dX4_costOf_5 : decode cX4_costOf 5 = .ok (.bipush 8, 2) := by decide +kernel
theorem dX4_costOf_7 : decode cX4_costOf 7 = .ok (.if_icmp .ge 23, 3) := by decide +kernel
theorem dX4_costOf_10 : decode cX4_costOf 10 = .ok (.iload_n 0, 1) := by decide +kernel
theorem dX4_costOf_11 : decode cX4_costOf 11 = .ok (.iload_n 2, 1) := by decide +kernel
theorem dX4_costOf_12 : decode cX4_costOf 12 = .ok (.ishr, 1) := by decide +kernel
theorem dX4_costOf_13 : decode cX4_costOf 13 = .ok (.iconst 1, 1) := by decide +kernel
theorem dX4_costOf_14 : decode cX4_costOf 14 = .ok (.iand, 1) := by decide +kernel
theorem dX4_costOf_15 : decode cX4_costOf 15 = .ok (.ifCond .eq 9, 3) := by decide +kernel
theorem dX4_costOf_18 : decode cX4_costOf 18 = .ok (.iload_n 1, 1) := by decide +kernel
theorem dX4_costOf_19 : decode cX4_costOf 19 = .ok (.iconst 1, 1) := by decide +kernel
theorem dX4_costOf_20 : decode cX4_costOf 20 = .ok (.iload_n 2, 1) := by decide +kernel
theorem dX4_costOf_21 : decode cX4_costOf 21 = .ok (.iadd, 1) := by decide +kernel
theorem dX4_costOf_22 : decode cX4_costOf 22 = .ok (.iadd, 1) := by decide +kernel
theorem dX4_costOf_23 : decode cX4_costOf 23 = .ok (.istore_n 1, 1) := by decide +kernel
theorem dX4_costOf_24 : decode cX4_costOf 24 = .ok (.iinc 2 1, 3) := by decide +kernel
theorem dX4_costOf_27 : decode cX4_costOf 27 = .ok (.goto (-23), 3) := by decide +kernel
theorem dX4_costOf_30 : decode cX4_costOf 30 = .ok (.iload_n 1, 1) := by decide +kernel
theorem dX4_costOf_31 : decode cX4_costOf 31 = .ok (.ireturn, 1) := by decide +kernel
set_option maxRecDepth 20000 in
theorem ggX4_explainsAllSeen_X1_startAsTold : GoodIn wsX4_explainsAllSeen wsX1_startAsTold := goodIn_r _ [6, 7, 8, 9, 10, 11, 12, 13, 14, 15, 16, 17, 18, 19, 20, 21, 22, 23, 24, 25, 26, 27, 28, 29, 30, 31, 32, 33, 34, 35, 36, 37, 38, 39, 40, 41, 131, 132, 133, 134, 135, 136, 137, 138, 139, 140, 141, 142, 143, 144, 145, 146, 147, 148, 149, 150, 151, 152] (by decide +kernel) (by decide +kernel)
set_option maxRecDepth 20000 in
theorem gX4_explainsAllSeen_X1_startAsTold : GoodIn wsX4_explainsAllSeen (wsV RX4 87 RX1 yX1_startAsTold wsX1_startAsTold) := goodIn_app (goodIn_of _ (by decide +kernel)) ggX4_explainsAllSeen_X1_startAsTold
set_option maxRecDepth 20000 in
theorem ggX4_explainsAllSeen_X4_explainsNight : GoodIn wsX4_explainsAllSeen wsX4_explainsNight := goodIn_r _ [46, 47, 48, 1, 49, 50, 51, 117, 118, 119, 120, 121, 122, 123, 124, 125, 126, 127, 128, 129, 130, 131, 132, 133, 134, 135, 136, 137, 138, 139] (by decide +kernel) (by decide +kernel)
set_option maxRecDepth 20000 in
theorem gX4_explainsAllSeen_X4_explainsNight : GoodIn wsX4_explainsAllSeen (wsV RX4 231 RX4 yX4_explainsNight wsX4_explainsNight) := goodIn_app (goodIn_of _ (by decide +kernel)) ggX4_explainsAllSeen_X4_explainsNight
set_option maxRecDepth 20000 in
theorem ggX4_explainsAllSeen_X1_passNight : GoodIn wsX4_explainsAllSeen wsX1_passNight := goodIn_r _ [55, 16, 56, 57, 58, 59, 5, 60, 7, 61, 19, 62, 63, 64, 65, 66, 67, 20, 9, 68, 38, 39, 28, 40, 41, 69, 70, 71, 72, 73, 74, 75, 76, 15, 77, 78, 79, 80, 81, 82, 83, 84, 85, 86, 87, 88, 89, 90, 91, 92, 93, 94, 95, 14, 17, 96, 97, 98, 99, 100, 101, 102, 103, 104, 34, 35, 36, 37, 105, 106, 107, 108, 109, 110, 111, 112, 113, 114, 115, 116, 131, 132, 133, 134, 135, 136, 137, 138, 139, 140, 141, 142, 143, 144, 145, 146, 147, 148, 149, 150, 151, 152] (by decide +kernel) (by decide +kernel)
set_option maxRecDepth 20000 in
theorem gX4_explainsAllSeen_X1_passNight : GoodIn wsX4_explainsAllSeen (wsV RX4 133 RX1 yX1_passNight wsX1_passNight) := goodIn_app (goodIn_of _ (by decide +kernel)) ggX4_explainsAllSeen_X1_passNight
theorem dX4_explainsAllSeen_0 : decode cX4_explainsAllSeen 0 = .ok (.aload_n 0, 1) := by decide +kernel
theorem dX4_explainsAllSeen_1 : decode cX4_explainsAllSeen 1 = .ok (.getfield 35, 3) := by decide +kernel
theorem dX4_explainsAllSeen_4 : decode cX4_explainsAllSeen 4 = .ok (.invokevirtual 87, 3) := by decide +kernel
theorem dX4_explainsAllSeen_7 : decode cX4_explainsAllSeen 7 = .ok (.iconst 0, 1) := by decide +kernel
theorem dX4_explainsAllSeen_8 : decode cX4_explainsAllSeen 8 = .ok (.istore_n 2, 1) := by decide +kernel
theorem dX4_explainsAllSeen_9 : decode cX4_explainsAllSeen 9 = .ok (.iload_n 2, 1) := by decide +kernel
theorem dX4_explainsAllSeen_10 : decode cX4_explainsAllSeen 10 = .ok (.bipush 99, 2) := by decide +kernel
theorem dX4_explainsAllSeen_12 : decode cX4_explainsAllSeen 12 = .ok (.if_icmp .gt 27, 3) := by decide +kernel
theorem dX4_explainsAllSeen_15 : decode cX4_explainsAllSeen 15 = .ok (.aload_n 0, 1) := by decide +kernel
theorem dX4_explainsAllSeen_16 : decode cX4_explainsAllSeen 16 = .ok (.iload_n 2, 1) := by decide +kernel
theorem dX4_explainsAllSeen_17 : decode cX4_explainsAllSeen 17 = .ok (.invokevirtual 231, 3) := by decide +kernel
theorem dX4_explainsAllSeen_20 : decode cX4_explainsAllSeen 20 = .ok (.ifCond .ne 5, 3) := by decide +kernel
theorem dX4_explainsAllSeen_23 : decode cX4_explainsAllSeen 23 = .ok (.iconst 0, 1) := by decide +kernel
theorem dX4_explainsAllSeen_24 : decode cX4_explainsAllSeen 24 = .ok (.ireturn, 1) := by decide +kernel
theorem dX4_explainsAllSeen_25 : decode cX4_explainsAllSeen 25 = .ok (.aload_n 0, 1) := by decide +kernel
theorem dX4_explainsAllSeen_26 : decode cX4_explainsAllSeen 26 = .ok (.getfield 35, 3) := by decide +kernel
theorem dX4_explainsAllSeen_29 : decode cX4_explainsAllSeen 29 = .ok (.iload_n 1, 1) := by decide +kernel
theorem dX4_explainsAllSeen_30 : decode cX4_explainsAllSeen 30 = .ok (.invokevirtual 133, 3) := by decide +kernel
theorem dX4_explainsAllSeen_33 : decode cX4_explainsAllSeen 33 = .ok (.iinc 2 1, 3) := by decide +kernel
theorem dX4_explainsAllSeen_36 : decode cX4_explainsAllSeen 36 = .ok (.goto (-27), 3) := by decide +kernel
theorem dX4_explainsAllSeen_39 : decode cX4_explainsAllSeen 39 = .ok (.iconst 1, 1) := by decide +kernel
theorem dX4_explainsAllSeen_40 : decode cX4_explainsAllSeen 40 = .ok (.ireturn, 1) := by decide +kernel
theorem dX4_explainsNight_0 : decode cX4_explainsNight 0 = .ok (.iconst 0, 1) := by decide +kernel
theorem dX4_explainsNight_1 : decode cX4_explainsNight 1 = .ok (.istore_n 2, 1) := by decide +kernel
theorem dX4_explainsNight_2 : decode cX4_explainsNight 2 = .ok (.iload_n 2, 1) := by decide +kernel
theorem dX4_explainsNight_3 : decode cX4_explainsNight 3 = .ok (.aload_n 0, 1) := by decide +kernel
theorem dX4_explainsNight_4 : decode cX4_explainsNight 4 = .ok (.getfield 90, 3) := by decide +kernel
theorem dX4_explainsNight_7 : decode cX4_explainsNight 7 = .ok (.if_icmp .ge 44, 3) := by decide +kernel
theorem dX4_explainsNight_10 : decode cX4_explainsNight 10 = .ok (.aload_n 0, 1) := by decide +kernel
theorem dX4_explainsNight_11 : decode cX4_explainsNight 11 = .ok (.getfield 69, 3) := by decide +kernel
theorem dX4_explainsNight_14 : decode cX4_explainsNight 14 = .ok (.iload_n 2, 1) := by decide +kernel
theorem dX4_explainsNight_15 : decode cX4_explainsNight 15 = .ok (.iaload, 1) := by decide +kernel
theorem dX4_explainsNight_16 : decode cX4_explainsNight 16 = .ok (.iload_n 1, 1) := by decide +kernel
theorem dX4_explainsNight_17 : decode cX4_explainsNight 17 = .ok (.if_icmp .ne 28, 3) := by decide +kernel
theorem dX4_explainsNight_20 : decode cX4_explainsNight 20 = .ok (.aload_n 0, 1) := by decide +kernel
theorem dX4_explainsNight_21 : decode cX4_explainsNight 21 = .ok (.getfield 35, 3) := by decide +kernel
theorem dX4_explainsNight_24 : decode cX4_explainsNight 24 = .ok (.getfield 113, 3) := by decide +kernel
theorem dX4_explainsNight_27 : decode cX4_explainsNight 27 = .ok (.aload_n 0, 1) := by decide +kernel
theorem dX4_explainsNight_28 : decode cX4_explainsNight 28 = .ok (.getfield 63, 3) := by decide +kernel
theorem dX4_explainsNight_31 : decode cX4_explainsNight 31 = .ok (.iload_n 2, 1) := by decide +kernel
theorem dX4_explainsNight_32 : decode cX4_explainsNight 32 = .ok (.iaload, 1) := by decide +kernel
theorem dX4_explainsNight_33 : decode cX4_explainsNight 33 = .ok (.iaload, 1) := by decide +kernel
theorem dX4_explainsNight_34 : decode cX4_explainsNight 34 = .ok (.aload_n 0, 1) := by decide +kernel
theorem dX4_explainsNight_35 : decode cX4_explainsNight 35 = .ok (.getfield 66, 3) := by decide +kernel
theorem dX4_explainsNight_38 : decode cX4_explainsNight 38 = .ok (.iload_n 2, 1) := by decide +kernel
theorem dX4_explainsNight_39 : decode cX4_explainsNight 39 = .ok (.iaload, 1) := by decide +kernel
theorem dX4_explainsNight_40 : decode cX4_explainsNight 40 = .ok (.if_icmp .eq 5, 3) := by decide +kernel
theorem dX4_explainsNight_43 : decode cX4_explainsNight 43 = .ok (.iconst 0, 1) := by decide +kernel
theorem dX4_explainsNight_44 : decode cX4_explainsNight 44 = .ok (.ireturn, 1) := by decide +kernel
theorem dX4_explainsNight_45 : decode cX4_explainsNight 45 = .ok (.iinc 2 1, 3) := by decide +kernel
theorem dX4_explainsNight_48 : decode cX4_explainsNight 48 = .ok (.goto (-46), 3) := by decide +kernel
theorem dX4_explainsNight_51 : decode cX4_explainsNight 51 = .ok (.iconst 1, 1) := by decide +kernel
theorem dX4_explainsNight_52 : decode cX4_explainsNight 52 = .ok (.ireturn, 1) := by decide +kernel
set_option maxRecDepth 20000 in
theorem ggX5_init_X5_plain : GoodIn wsX5_init wsX5_plain := goodIn_r _ [30, 6, 31, 32, 33, 34, 11, 39, 40, 41, 42, 43, 44, 45, 46, 47, 48, 49, 50, 51, 52, 53, 54, 55, 56, 57, 58, 59, 60, 61, 62, 63, 64, 65, 66, 67, 68, 69, 70, 71, 72, 73, 74, 75, 76, 77, 78] (by decide +kernel) (by decide +kernel)
set_option maxRecDepth 20000 in
theorem gX5_init_X5_plain : GoodIn wsX5_init (wsV RX5 72 RX5 yX5_plain wsX5_plain) := goodIn_app (goodIn_of _ (by decide +kernel)) ggX5_init_X5_plain
set_option maxRecDepth 20000 in
theorem ggX5_init_X5_begin : GoodIn wsX5_init wsX5_begin := goodIn_r _ [38, 14, 8, 11, 39, 40, 41, 42, 43, 44, 45, 46, 47, 48, 49, 50, 51, 52, 53, 54, 55, 56, 57, 58, 59, 60, 61, 62, 63, 64, 65, 66, 67, 68, 69, 70, 71, 72, 73, 74, 75, 76, 77, 78] (by decide +kernel) (by decide +kernel)
set_option maxRecDepth 20000 in
theorem gX5_init_X5_begin : GoodIn wsX5_init (wsV RX5 75 RX5 yX5_begin wsX5_begin) := goodIn_app (goodIn_of _ (by decide +kernel)) ggX5_init_X5_begin
theorem dX5_init_0 : decode cX5_init 0 = .ok (.aload_n 0, 1) := by decide +kernel
theorem dX5_init_1 : decode cX5_init 1 = .ok (.invokespecial 1, 3) := by decide +kernel
theorem dX5_init_4 : decode cX5_init 4 = .ok (.aload_n 0, 1) := by decide +kernel
theorem dX5_init_5 : decode cX5_init 5 = .ok (.bipush 6, 2) := by decide +kernel
theorem dX5_init_7 : decode cX5_init 7 = .ok (.putfield 7, 3) := by decide +kernel
theorem dX5_init_10 : decode cX5_init 10 = .ok (.aload_n 0, 1) := by decide +kernel
theorem dX5_init_11 : decode cX5_init 11 = .ok (.bipush 12, 2) := by decide +kernel
theorem dX5_init_13 : decode cX5_init 13 = .ok (.newarray .int, 2) := by decide +kernel
theorem dX5_init_15 : decode cX5_init 15 = .ok (.putfield 13, 3) := by decide +kernel
theorem dX5_init_18 : decode cX5_init 18 = .ok (.aload_n 0, 1) := by decide +kernel
theorem dX5_init_19 : decode cX5_init 19 = .ok (.bipush 8, 2) := by decide +kernel
theorem dX5_init_21 : decode cX5_init 21 = .ok (.newarray .int, 2) := by decide +kernel
theorem dX5_init_23 : decode cX5_init 23 = .ok (.putfield 17, 3) := by decide +kernel
theorem dX5_init_26 : decode cX5_init 26 = .ok (.aload_n 0, 1) := by decide +kernel
theorem dX5_init_27 : decode cX5_init 27 = .ok (.bipush 8, 2) := by decide +kernel
theorem dX5_init_29 : decode cX5_init 29 = .ok (.newarray .int, 2) := by decide +kernel
theorem dX5_init_31 : decode cX5_init 31 = .ok (.putfield 20, 3) := by decide +kernel
theorem dX5_init_34 : decode cX5_init 34 = .ok (.aload_n 0, 1) := by decide +kernel
theorem dX5_init_35 : decode cX5_init 35 = .ok (.bipush 12, 2) := by decide +kernel
theorem dX5_init_37 : decode cX5_init 37 = .ok (.newarray .int, 2) := by decide +kernel
theorem dX5_init_39 : decode cX5_init 39 = .ok (.putfield 23, 3) := by decide +kernel
theorem dX5_init_42 : decode cX5_init 42 = .ok (.aload_n 0, 1) := by decide +kernel
theorem dX5_init_43 : decode cX5_init 43 = .ok (.bipush 12, 2) := by decide +kernel
theorem dX5_init_45 : decode cX5_init 45 = .ok (.newarray .int, 2) := by decide +kernel
theorem dX5_init_47 : decode cX5_init 47 = .ok (.putfield 26, 3) := by decide +kernel
theorem dX5_init_50 : decode cX5_init 50 = .ok (.aload_n 0, 1) := by decide +kernel
theorem dX5_init_51 : decode cX5_init 51 = .ok (.iconst 1, 1) := by decide +kernel
theorem dX5_init_52 : decode cX5_init 52 = .ok (.putfield 29, 3) := by decide +kernel
theorem dX5_init_55 : decode cX5_init 55 = .ok (.aload_n 0, 1) := by decide +kernel
theorem dX5_init_56 : decode cX5_init 56 = .ok (.sipush 200, 3) := by decide +kernel
theorem dX5_init_59 : decode cX5_init 59 = .ok (.newarray .int, 2) := by decide +kernel
theorem dX5_init_61 : decode cX5_init 61 = .ok (.putfield 32, 3) := by decide +kernel
theorem dX5_init_64 : decode cX5_init 64 = .ok (.aload_n 0, 1) := by decide +kernel
theorem dX5_init_65 : decode cX5_init 65 = .ok (.bipush 36, 2) := by decide +kernel
theorem dX5_init_67 : decode cX5_init 67 = .ok (.newarray .int, 2) := by decide +kernel
theorem dX5_init_69 : decode cX5_init 69 = .ok (.putfield 35, 3) := by decide +kernel
theorem dX5_init_72 : decode cX5_init 72 = .ok (.aload_n 0, 1) := by decide +kernel
theorem dX5_init_73 : decode cX5_init 73 = .ok (.bipush 19, 2) := by decide +kernel
theorem dX5_init_75 : decode cX5_init 75 = .ok (.newarray .int, 2) := by decide +kernel
theorem dX5_init_77 : decode cX5_init 77 = .ok (.putfield 38, 3) := by decide +kernel
theorem dX5_init_80 : decode cX5_init 80 = .ok (.aload_n 0, 1) := by decide +kernel
theorem dX5_init_81 : decode cX5_init 81 = .ok (.bipush 19, 2) := by decide +kernel
theorem dX5_init_83 : decode cX5_init 83 = .ok (.newarray .int, 2) := by decide +kernel
theorem dX5_init_85 : decode cX5_init 85 = .ok (.putfield 41, 3) := by decide +kernel
theorem dX5_init_88 : decode cX5_init 88 = .ok (.aload_n 0, 1) := by decide +kernel
theorem dX5_init_89 : decode cX5_init 89 = .ok (.bipush 38, 2) := by decide +kernel
theorem dX5_init_91 : decode cX5_init 91 = .ok (.newarray .int, 2) := by decide +kernel
theorem dX5_init_93 : decode cX5_init 93 = .ok (.putfield 44, 3) := by decide +kernel
theorem dX5_init_96 : decode cX5_init 96 = .ok (.aload_n 0, 1) := by decide +kernel
theorem dX5_init_97 : decode cX5_init 97 = .ok (.iconst 2, 1) := by decide +kernel
theorem dX5_init_98 : decode cX5_init 98 = .ok (.newarray .boolean, 2) := by decide +kernel
theorem dX5_init_100 : decode cX5_init 100 = .ok (.putfield 47, 3) := by decide +kernel
theorem dX5_init_103 : decode cX5_init 103 = .ok (.aload_n 0, 1) := by decide +kernel
theorem dX5_init_104 : decode cX5_init 104 = .ok (.bipush 24, 2) := by decide +kernel
theorem dX5_init_106 : decode cX5_init 106 = .ok (.newarray .int, 2) := by decide +kernel
theorem dX5_init_108 : decode cX5_init 108 = .ok (.putfield 51, 3) := by decide +kernel
theorem dX5_init_111 : decode cX5_init 111 = .ok (.aload_n 0, 1) := by decide +kernel
theorem dX5_init_112 : decode cX5_init 112 = .ok (.bipush 8, 2) := by decide +kernel
theorem dX5_init_114 : decode cX5_init 114 = .ok (.newarray .int, 2) := by decide +kernel
theorem dX5_init_116 : decode cX5_init 116 = .ok (.putfield 54, 3) := by decide +kernel
theorem dX5_init_119 : decode cX5_init 119 = .ok (.aload_n 0, 1) := by decide +kernel
theorem dX5_init_120 : decode cX5_init 120 = .ok (.sipush 9018, 3) := by decide +kernel
theorem dX5_init_123 : decode cX5_init 123 = .ok (.newarray .int, 2) := by decide +kernel
theorem dX5_init_125 : decode cX5_init 125 = .ok (.putfield 57, 3) := by decide +kernel
theorem dX5_init_128 : decode cX5_init 128 = .ok (.aload_n 0, 1) := by decide +kernel
theorem dX5_init_129 : decode cX5_init 129 = .ok (.bipush 48, 2) := by decide +kernel
theorem dX5_init_131 : decode cX5_init 131 = .ok (.newarray .int, 2) := by decide +kernel
theorem dX5_init_133 : decode cX5_init 133 = .ok (.putfield 60, 3) := by decide +kernel
theorem dX5_init_136 : decode cX5_init 136 = .ok (.aload_n 0, 1) := by decide +kernel
theorem dX5_init_137 : decode cX5_init 137 = .ok (.bipush 6, 2) := by decide +kernel
theorem dX5_init_139 : decode cX5_init 139 = .ok (.newarray .int, 2) := by decide +kernel
theorem dX5_init_141 : decode cX5_init 141 = .ok (.putfield 63, 3) := by decide +kernel
theorem dX5_init_144 : decode cX5_init 144 = .ok (.aload_n 0, 1) := by decide +kernel
theorem dX5_init_145 : decode cX5_init 145 = .ok (.bipush 6, 2) := by decide +kernel
theorem dX5_init_147 : decode cX5_init 147 = .ok (.newarray .int, 2) := by decide +kernel
theorem dX5_init_149 : decode cX5_init 149 = .ok (.putfield 66, 3) := by decide +kernel
theorem dX5_init_152 : decode cX5_init 152 = .ok (.aload_n 0, 1) := by decide +kernel
theorem dX5_init_153 : decode cX5_init 153 = .ok (.bipush 6, 2) := by decide +kernel
theorem dX5_init_155 : decode cX5_init 155 = .ok (.newarray .int, 2) := by decide +kernel
theorem dX5_init_157 : decode cX5_init 157 = .ok (.putfield 69, 3) := by decide +kernel
theorem dX5_init_160 : decode cX5_init 160 = .ok (.aload_n 0, 1) := by decide +kernel
theorem dX5_init_161 : decode cX5_init 161 = .ok (.invokevirtual 72, 3) := by decide +kernel
theorem dX5_init_164 : decode cX5_init 164 = .ok (.aload_n 0, 1) := by decide +kernel
theorem dX5_init_165 : decode cX5_init 165 = .ok (.invokevirtual 75, 3) := by decide +kernel
theorem dX5_init_168 : decode cX5_init 168 = .ok (.return_, 1) := by decide +kernel
theorem dX5_in_0 : decode cX5_in 0 = .ok (.iload_n 0, 1) := by decide +kernel
theorem dX5_in_1 : decode cX5_in 1 = .ok (.iload_n 1, 1) := by decide +kernel
theorem dX5_in_2 : decode cX5_in 2 = .ok (.if_icmp .lt 12, 3) := by decide +kernel
theorem dX5_in_5 : decode cX5_in 5 = .ok (.iload_n 0, 1) := by decide +kernel
theorem dX5_in_6 : decode cX5_in 6 = .ok (.iload_n 2, 1) := by decide +kernel
theorem dX5_in_7 : decode cX5_in 7 = .ok (.if_icmp .gt 7, 3) := by decide +kernel
theorem dX5_in_10 : decode cX5_in 10 = .ok (.iconst 1, 1) := by decide +kernel
theorem dX5_in_11 : decode cX5_in 11 = .ok (.goto 4, 3) := by decide +kernel
theorem dX5_in_14 : decode cX5_in 14 = .ok (.iconst 0, 1) := by decide +kernel
theorem dX5_in_15 : decode cX5_in 15 = .ok (.ireturn, 1) := by decide +kernel
theorem dX5_has_0 : decode cX5_has 0 = .ok (.iload_n 0, 1) := by decide +kernel
theorem dX5_has_1 : decode cX5_has 1 = .ok (.iload_n 1, 1) := by decide +kernel
theorem dX5_has_2 : decode cX5_has 2 = .ok (.ishr, 1) := by decide +kernel
theorem dX5_has_3 : decode cX5_has 3 = .ok (.iconst 1, 1) := by decide +kernel
theorem dX5_has_4 : decode cX5_has 4 = .ok (.iand, 1) := by decide +kernel
theorem dX5_has_5 : decode cX5_has 5 = .ok (.iconst 1, 1) := by decide +kernel
theorem dX5_has_6 : decode cX5_has 6 = .ok (.if_icmp .ne 7, 3) := by decide +kernel
theorem dX5_has_9 : decode cX5_has 9 = .ok (.iconst 1, 1) := by decide +kernel
theorem dX5_has_10 : decode cX5_has 10 = .ok (.goto 4, 3) := by decide +kernel
theorem dX5_has_13 : decode cX5_has 13 = .ok (.iconst 0, 1) := by decide +kernel
theorem dX5_has_14 : decode cX5_has 14 = .ok (.ireturn, 1) := by decide +kernel
set_option maxRecDepth 20000 in
theorem ggX5_isHouse_X5_in : GoodIn wsX5_isHouse wsX5_in := goodIn_r _ [5] (by decide +kernel) (by decide +kernel)
set_option maxRecDepth 20000 in
theorem gX5_isHouse_X5_in : GoodIn wsX5_isHouse (va_wsS RX5 81 yX5_in wsX5_in) := goodIn_app (goodIn_of _ (by decide +kernel)) ggX5_isHouse_X5_in
theorem dX5_isHouse_0 : decode cX5_isHouse 0 = .ok (.iload_n 1, 1) := by decide +kernel
theorem dX5_isHouse_1 : decode cX5_isHouse 1 = .ok (.iconst 0, 1) := by decide +kernel
theorem dX5_isHouse_2 : decode cX5_isHouse 2 = .ok (.aload_n 0, 1) := by decide +kernel
theorem dX5_isHouse_3 : decode cX5_isHouse 3 = .ok (.getfield 78, 3) := by decide +kernel
theorem dX5_isHouse_6 : decode cX5_isHouse 6 = .ok (.iconst 1, 1) := by decide +kernel
theorem dX5_isHouse_7 : decode cX5_isHouse 7 = .ok (.isub, 1) := by decide +kernel
theorem dX5_isHouse_8 : decode cX5_isHouse 8 = .ok (.invokestatic 81, 3) := by decide +kernel
theorem dX5_isHouse_11 : decode cX5_isHouse 11 = .ok (.ireturn, 1) := by decide +kernel
set_option maxRecDepth 20000 in
theorem ggX5_isPlot_X5_in : GoodIn wsX5_isPlot wsX5_in := goodIn_r _ [5] (by decide +kernel) (by decide +kernel)
set_option maxRecDepth 20000 in
theorem gX5_isPlot_X5_in : GoodIn wsX5_isPlot (va_wsS RX5 81 yX5_in wsX5_in) := goodIn_app (goodIn_of _ (by decide +kernel)) ggX5_isPlot_X5_in
theorem dX5_isPlot_0 : decode cX5_isPlot 0 = .ok (.iload_n 1, 1) := by decide +kernel
theorem dX5_isPlot_1 : decode cX5_isPlot 1 = .ok (.iconst 0, 1) := by decide +kernel
theorem dX5_isPlot_2 : decode cX5_isPlot 2 = .ok (.aload_n 0, 1) := by decide +kernel
theorem dX5_isPlot_3 : decode cX5_isPlot 3 = .ok (.getfield 7, 3) := by decide +kernel
theorem dX5_isPlot_6 : decode cX5_isPlot 6 = .ok (.iconst 1, 1) := by decide +kernel
theorem dX5_isPlot_7 : decode cX5_isPlot 7 = .ok (.isub, 1) := by decide +kernel
theorem dX5_isPlot_8 : decode cX5_isPlot 8 = .ok (.invokestatic 81, 3) := by decide +kernel
theorem dX5_isPlot_11 : decode cX5_isPlot 11 = .ok (.ireturn, 1) := by decide +kernel
theorem dX5_plain_0 : decode cX5_plain 0 = .ok (.iconst 0, 1) := by decide +kernel
theorem dX5_plain_1 : decode cX5_plain 1 = .ok (.istore_n 1, 1) := by decide +kernel
theorem dX5_plain_2 : decode cX5_plain 2 = .ok (.iload_n 1, 1) := by decide +kernel
theorem dX5_plain_3 : decode cX5_plain 3 = .ok (.bipush 12, 2) := by decide +kernel
theorem dX5_plain_5 : decode cX5_plain 5 = .ok (.if_icmp .ge 16, 3) := by decide +kernel
theorem dX5_plain_8 : decode cX5_plain 8 = .ok (.aload_n 0, 1) := by decide +kernel
theorem dX5_plain_9 : decode cX5_plain 9 = .ok (.getfield 13, 3) := by decide +kernel
theorem dX5_plain_12 : decode cX5_plain 12 = .ok (.iload_n 1, 1) := by decide +kernel
theorem dX5_plain_13 : decode cX5_plain 13 = .ok (.iconst 1, 1) := by decide +kernel
theorem dX5_plain_14 : decode cX5_plain 14 = .ok (.iastore, 1) := by decide +kernel
theorem dX5_plain_15 : decode cX5_plain 15 = .ok (.iinc 1 1, 3) := by decide +kernel
theorem dX5_plain_18 : decode cX5_plain 18 = .ok (.goto (-16), 3) := by decide +kernel
theorem dX5_plain_21 : decode cX5_plain 21 = .ok (.aload_n 0, 1) := by decide +kernel
theorem dX5_plain_22 : decode cX5_plain 22 = .ok (.iconst 0, 1) := by decide +kernel
theorem dX5_plain_23 : decode cX5_plain 23 = .ok (.putfield 78, 3) := by decide +kernel
theorem dX5_plain_26 : decode cX5_plain 26 = .ok (.aload_n 0, 1) := by decide +kernel
theorem dX5_plain_27 : decode cX5_plain 27 = .ok (.iconst 0, 1) := by decide +kernel
theorem dX5_plain_28 : decode cX5_plain 28 = .ok (.putfield 85, 3) := by decide +kernel
theorem dX5_plain_31 : decode cX5_plain 31 = .ok (.aload_n 0, 1) := by decide +kernel
theorem dX5_plain_32 : decode cX5_plain 32 = .ok (.iconst 0, 1) := by decide +kernel
theorem dX5_plain_33 : decode cX5_plain 33 = .ok (.putfield 88, 3) := by decide +kernel
theorem dX5_plain_36 : decode cX5_plain 36 = .ok (.aload_n 0, 1) := by decide +kernel
theorem dX5_plain_37 : decode cX5_plain 37 = .ok (.iconst 0, 1) := by decide +kernel
theorem dX5_plain_38 : decode cX5_plain 38 = .ok (.putfield 91, 3) := by decide +kernel
theorem dX5_plain_41 : decode cX5_plain 41 = .ok (.aload_n 0, 1) := by decide +kernel
theorem dX5_plain_42 : decode cX5_plain 42 = .ok (.iconst 1, 1) := by decide +kernel
theorem dX5_plain_43 : decode cX5_plain 43 = .ok (.putfield 29, 3) := by decide +kernel
theorem dX5_plain_46 : decode cX5_plain 46 = .ok (.return_, 1) := by decide +kernel
theorem dX5_begin_0 : decode cX5_begin 0 = .ok (.iconst 0, 1) := by decide +kernel
theorem dX5_begin_1 : decode cX5_begin 1 = .ok (.istore_n 1, 1) := by decide +kernel
theorem dX5_begin_2 : decode cX5_begin 2 = .ok (.iload_n 1, 1) := by decide +kernel
theorem dX5_begin_3 : decode cX5_begin 3 = .ok (.bipush 8, 2) := by decide +kernel
theorem dX5_begin_5 : decode cX5_begin 5 = .ok (.if_icmp .ge 31, 3) := by decide +kernel
theorem dX5_begin_8 : decode cX5_begin 8 = .ok (.aload_n 0, 1) := by decide +kernel
theorem dX5_begin_9 : decode cX5_begin 9 = .ok (.getfield 38, 3) := by decide +kernel
theorem dX5_begin_12 : decode cX5_begin 12 = .ok (.iload_n 1, 1) := by decide +kernel
theorem dX5_begin_13 : decode cX5_begin 13 = .ok (.aload_n 0, 1) := by decide +kernel
theorem dX5_begin_14 : decode cX5_begin 14 = .ok (.getfield 20, 3) := by decide +kernel
theorem dX5_begin_17 : decode cX5_begin 17 = .ok (.iload_n 1, 1) := by decide +kernel
theorem dX5_begin_18 : decode cX5_begin 18 = .ok (.iaload, 1) := by decide +kernel
theorem dX5_begin_19 : decode cX5_begin 19 = .ok (.iastore, 1) := by decide +kernel
theorem dX5_begin_20 : decode cX5_begin 20 = .ok (.aload_n 0, 1) := by decide +kernel
theorem dX5_begin_21 : decode cX5_begin 21 = .ok (.getfield 38, 3) := by decide +kernel
theorem dX5_begin_24 : decode cX5_begin 24 = .ok (.bipush 8, 2) := by decide +kernel
theorem dX5_begin_26 : decode cX5_begin 26 = .ok (.iload_n 1, 1) := by decide +kernel
theorem dX5_begin_27 : decode cX5_begin 27 = .ok (.iadd, 1) := by decide +kernel
theorem dX5_begin_28 : decode cX5_begin 28 = .ok (.iconst (-1), 1) := by decide +kernel
theorem dX5_begin_29 : decode cX5_begin 29 = .ok (.iastore, 1) := by decide +kernel
theorem dX5_begin_30 : decode cX5_begin 30 = .ok (.iinc 1 1, 3) := by decide +kernel
theorem dX5_begin_33 : decode cX5_begin 33 = .ok (.goto (-31), 3) := by decide +kernel
theorem dX5_begin_36 : decode cX5_begin 36 = .ok (.aload_n 0, 1) := by decide +kernel
theorem dX5_begin_37 : decode cX5_begin 37 = .ok (.getfield 38, 3) := by decide +kernel
theorem dX5_begin_40 : decode cX5_begin 40 = .ok (.bipush 16, 2) := by decide +kernel
theorem dX5_begin_42 : decode cX5_begin 42 = .ok (.iconst 0, 1) := by decide +kernel
theorem dX5_begin_43 : decode cX5_begin 43 = .ok (.iastore, 1) := by decide +kernel
theorem dX5_begin_44 : decode cX5_begin 44 = .ok (.aload_n 0, 1) := by decide +kernel
theorem dX5_begin_45 : decode cX5_begin 45 = .ok (.getfield 38, 3) := by decide +kernel
theorem dX5_begin_48 : decode cX5_begin 48 = .ok (.bipush 17, 2) := by decide +kernel
theorem dX5_begin_50 : decode cX5_begin 50 = .ok (.iconst 0, 1) := by decide +kernel
theorem dX5_begin_51 : decode cX5_begin 51 = .ok (.iastore, 1) := by decide +kernel
theorem dX5_begin_52 : decode cX5_begin 52 = .ok (.aload_n 0, 1) := by decide +kernel
theorem dX5_begin_53 : decode cX5_begin 53 = .ok (.getfield 38, 3) := by decide +kernel
theorem dX5_begin_56 : decode cX5_begin 56 = .ok (.bipush 18, 2) := by decide +kernel
theorem dX5_begin_58 : decode cX5_begin 58 = .ok (.aload_n 0, 1) := by decide +kernel
theorem dX5_begin_59 : decode cX5_begin 59 = .ok (.getfield 29, 3) := by decide +kernel
theorem dX5_begin_62 : decode cX5_begin 62 = .ok (.iastore, 1) := by decide +kernel
theorem dX5_begin_63 : decode cX5_begin 63 = .ok (.return_, 1) := by decide +kernel
set_option maxRecDepth 20000 in
theorem ggX5_write_X5_in : GoodIn wsX5_write wsX5_in := goodIn_r _ [7] (by decide +kernel) (by decide +kernel)
set_option maxRecDepth 20000 in
theorem gX5_write_X5_in : GoodIn wsX5_write (va_wsS RX5 81 yX5_in wsX5_in) := goodIn_app (goodIn_of _ (by decide +kernel)) ggX5_write_X5_in
theorem dX5_write_0 : decode cX5_write 0 = .ok (.iload_n 3, 1) := by decide +kernel
theorem dX5_write_1 : decode cX5_write 1 = .ok (.iconst 1, 1) := by decide +kernel
theorem dX5_write_2 : decode cX5_write 2 = .ok (.bipush 8, 2) := by decide +kernel
theorem dX5_write_4 : decode cX5_write 4 = .ok (.invokestatic 81, 3) := by decide +kernel
theorem dX5_write_7 : decode cX5_write 7 = .ok (.ifCond .ne 6, 3) := by decide +kernel
theorem dX5_write_10 : decode cX5_write 10 = .ok (.bipush (-3), 2) := by decide +kernel
theorem dX5_write_12 : decode cX5_write 12 = .ok (.ireturn, 1) := by decide +kernel
theorem dX5_write_13 : decode cX5_write 13 = .ok (.aload_n 0, 1) := by decide +kernel
theorem dX5_write_14 : decode cX5_write 14 = .ok (.getfield 94, 3) := by decide +kernel
theorem dX5_write_17 : decode cX5_write 17 = .ok (.iload_n 3, 1) := by decide +kernel
theorem dX5_write_18 : decode cX5_write 18 = .ok (.iadd, 1) := by decide +kernel
theorem dX5_write_19 : decode cX5_write 19 = .ok (.sipush 200, 3) := by decide +kernel
theorem dX5_write_22 : decode cX5_write 22 = .ok (.if_icmp .le 6, 3) := by decide +kernel
theorem dX5_write_25 : decode cX5_write 25 = .ok (.bipush (-5), 2) := by decide +kernel
theorem dX5_write_27 : decode cX5_write 27 = .ok (.ireturn, 1) := by decide +kernel
theorem dX5_write_28 : decode cX5_write 28 = .ok (.iconst 0, 1) := by decide +kernel
theorem dX5_write_29 : decode cX5_write 29 = .ok (.istore 4, 2) := by decide +kernel
theorem dX5_write_31 : decode cX5_write 31 = .ok (.iload 4, 2) := by decide +kernel
theorem dX5_write_33 : decode cX5_write 33 = .ok (.iload_n 3, 1) := by decide +kernel
theorem dX5_write_34 : decode cX5_write 34 = .ok (.if_icmp .ge 33, 3) := by decide +kernel
theorem dX5_write_37 : decode cX5_write 37 = .ok (.aload_n 0, 1) := by decide +kernel
theorem dX5_write_38 : decode cX5_write 38 = .ok (.getfield 32, 3) := by decide +kernel
theorem dX5_write_41 : decode cX5_write 41 = .ok (.aload_n 0, 1) := by decide +kernel
theorem dX5_write_42 : decode cX5_write 42 = .ok (.getfield 94, 3) := by decide +kernel
theorem dX5_write_45 : decode cX5_write 45 = .ok (.iload 4, 2) := by decide +kernel
theorem dX5_write_47 : decode cX5_write 47 = .ok (.iadd, 1) := by decide +kernel
theorem dX5_write_48 : decode cX5_write 48 = .ok (.lload_n 1, 1) := by decide +kernel
theorem dX5_write_49 : decode cX5_write 49 = .ok (.bipush 8, 2) := by decide +kernel
theorem dX5_write_51 : decode cX5_write 51 = .ok (.iload 4, 2) := by decide +kernel
theorem dX5_write_53 : decode cX5_write 53 = .ok (.imul, 1) := by decide +kernel
theorem dX5_write_54 : decode cX5_write 54 = .ok (.lshr, 1) := by decide +kernel
theorem dX5_write_55 : decode cX5_write 55 = .ok (.ldc2_w 97, 3) := by decide +kernel
theorem dX5_write_58 : decode cX5_write 58 = .ok (.land, 1) := by decide +kernel
theorem dX5_write_59 : decode cX5_write 59 = .ok (.l2i, 1) := by decide +kernel
theorem dX5_write_60 : decode cX5_write 60 = .ok (.iastore, 1) := by decide +kernel
theorem dX5_write_61 : decode cX5_write 61 = .ok (.iinc 4 1, 3) := by decide +kernel
theorem dX5_write_64 : decode cX5_write 64 = .ok (.goto (-33), 3) := by decide +kernel
theorem dX5_write_67 : decode cX5_write 67 = .ok (.aload_n 0, 1) := by decide +kernel
theorem dX5_write_68 : decode cX5_write 68 = .ok (.dup, 1) := by decide +kernel
theorem dX5_write_69 : decode cX5_write 69 = .ok (.getfield 94, 3) := by decide +kernel
theorem dX5_write_72 : decode cX5_write 72 = .ok (.iload_n 3, 1) := by decide +kernel
theorem dX5_write_73 : decode cX5_write 73 = .ok (.iadd, 1) := by decide +kernel
theorem dX5_write_74 : decode cX5_write 74 = .ok (.putfield 94, 3) := by decide +kernel
theorem dX5_write_77 : decode cX5_write 77 = .ok (.aload_n 0, 1) := by decide +kernel
theorem dX5_write_78 : decode cX5_write 78 = .ok (.getfield 94, 3) := by decide +kernel
theorem dX5_write_81 : decode cX5_write 81 = .ok (.ireturn, 1) := by decide +kernel
theorem dX5_erase_0 : decode cX5_erase 0 = .ok (.aload_n 0, 1) := by decide +kernel
theorem dX5_erase_1 : decode cX5_erase 1 = .ok (.getfield 94, 3) := by decide +kernel
theorem dX5_erase_4 : decode cX5_erase 4 = .ok (.istore_n 1, 1) := by decide +kernel
theorem dX5_erase_5 : decode cX5_erase 5 = .ok (.aload_n 0, 1) := by decide +kernel
theorem dX5_erase_6 : decode cX5_erase 6 = .ok (.iconst 0, 1) := by decide +kernel
theorem dX5_erase_7 : decode cX5_erase 7 = .ok (.putfield 94, 3) := by decide +kernel
theorem dX5_erase_10 : decode cX5_erase 10 = .ok (.iload_n 1, 1) := by decide +kernel
theorem dX5_erase_11 : decode cX5_erase 11 = .ok (.ireturn, 1) := by decide +kernel
set_option maxRecDepth 20000 in
theorem ggX5_nextToken_X5_in : GoodIn wsX5_nextToken wsX5_in := goodIn_r _ [17] (by decide +kernel) (by decide +kernel)
set_option maxRecDepth 20000 in
theorem gX5_nextToken_X5_in : GoodIn wsX5_nextToken (va_wsS RX5 81 yX5_in wsX5_in) := goodIn_app (goodIn_of _ (by decide +kernel)) ggX5_nextToken_X5_in
theorem dX5_nextToken_0 : decode cX5_nextToken 0 = .ok (.aload_n 0, 1) := by decide +kernel
theorem dX5_nextToken_1 : decode cX5_nextToken 1 = .ok (.getfield 99, 3) := by decide +kernel
theorem dX5_nextToken_4 : decode cX5_nextToken 4 = .ok (.aload_n 0, 1) := by decide +kernel
theorem dX5_nextToken_5 : decode cX5_nextToken 5 = .ok (.getfield 94, 3) := by decide +kernel
theorem dX5_nextToken_8 : decode cX5_nextToken 8 = .ok (.if_icmp .ge 30, 3) := by decide +kernel
theorem dX5_nextToken_11 : decode cX5_nextToken 11 = .ok (.aload_n 0, 1) := by decide +kernel
theorem dX5_nextToken_12 : decode cX5_nextToken 12 = .ok (.getfield 32, 3) := by decide +kernel
theorem dX5_nextToken_15 : decode cX5_nextToken 15 = .ok (.aload_n 0, 1) := by decide +kernel
theorem dX5_nextToken_16 : decode cX5_nextToken 16 = .ok (.getfield 99, 3) := by decide +kernel
theorem dX5_nextToken_19 : decode cX5_nextToken 19 = .ok (.iaload, 1) := by decide +kernel
theorem dX5_nextToken_20 : decode cX5_nextToken 20 = .ok (.bipush 32, 2) := by decide +kernel
theorem dX5_nextToken_22 : decode cX5_nextToken 22 = .ok (.if_icmp .ne 16, 3) := by decide +kernel
theorem dX5_nextToken_25 : decode cX5_nextToken 25 = .ok (.aload_n 0, 1) := by decide +kernel
theorem dX5_nextToken_26 : decode cX5_nextToken 26 = .ok (.dup, 1) := by decide +kernel
theorem dX5_nextToken_27 : decode cX5_nextToken 27 = .ok (.getfield 99, 3) := by decide +kernel
theorem dX5_nextToken_30 : decode cX5_nextToken 30 = .ok (.iconst 1, 1) := by decide +kernel
theorem dX5_nextToken_31 : decode cX5_nextToken 31 = .ok (.iadd, 1) := by decide +kernel
theorem dX5_nextToken_32 : decode cX5_nextToken 32 = .ok (.putfield 99, 3) := by decide +kernel
theorem dX5_nextToken_35 : decode cX5_nextToken 35 = .ok (.goto (-35), 3) := by decide +kernel
theorem dX5_nextToken_38 : decode cX5_nextToken 38 = .ok (.aload_n 0, 1) := by decide +kernel
theorem dX5_nextToken_39 : decode cX5_nextToken 39 = .ok (.aload_n 0, 1) := by decide +kernel
theorem dX5_nextToken_40 : decode cX5_nextToken 40 = .ok (.getfield 99, 3) := by decide +kernel
theorem dX5_nextToken_43 : decode cX5_nextToken 43 = .ok (.putfield 102, 3) := by decide +kernel
theorem dX5_nextToken_46 : decode cX5_nextToken 46 = .ok (.aload_n 0, 1) := by decide +kernel
theorem dX5_nextToken_47 : decode cX5_nextToken 47 = .ok (.iconst 0, 1) := by decide +kernel
theorem dX5_nextToken_48 : decode cX5_nextToken 48 = .ok (.putfield 105, 3) := by decide +kernel
theorem dX5_nextToken_51 : decode cX5_nextToken 51 = .ok (.aload_n 0, 1) := by decide +kernel
theorem dX5_nextToken_52 : decode cX5_nextToken 52 = .ok (.iconst 0, 1) := by decide +kernel
theorem dX5_nextToken_53 : decode cX5_nextToken 53 = .ok (.putfield 108, 3) := by decide +kernel
theorem dX5_nextToken_56 : decode cX5_nextToken 56 = .ok (.aload_n 0, 1) := by decide +kernel
theorem dX5_nextToken_57 : decode cX5_nextToken 57 = .ok (.getfield 99, 3) := by decide +kernel
theorem dX5_nextToken_60 : decode cX5_nextToken 60 = .ok (.aload_n 0, 1) := by decide +kernel
theorem dX5_nextToken_61 : decode cX5_nextToken 61 = .ok (.getfield 94, 3) := by decide +kernel
theorem dX5_nextToken_64 : decode cX5_nextToken 64 = .ok (.if_icmp .ne 13, 3) := by decide +kernel
theorem dX5_nextToken_67 : decode cX5_nextToken 67 = .ok (.aload_n 0, 1) := by decide +kernel
theorem dX5_nextToken_68 : decode cX5_nextToken 68 = .ok (.ldc2_w 111, 3) := by decide +kernel
theorem dX5_nextToken_71 : decode cX5_nextToken 71 = .ok (.putfield 113, 3) := by decide +kernel
theorem dX5_nextToken_74 : decode cX5_nextToken 74 = .ok (.goto 306, 3) := by decide +kernel
theorem dX5_nextToken_77 : decode cX5_nextToken 77 = .ok (.aload_n 0, 1) := by decide +kernel
theorem dX5_nextToken_78 : decode cX5_nextToken 78 = .ok (.getfield 32, 3) := by decide +kernel
theorem dX5_nextToken_81 : decode cX5_nextToken 81 = .ok (.aload_n 0, 1) := by decide +kernel
theorem dX5_nextToken_82 : decode cX5_nextToken 82 = .ok (.getfield 99, 3) := by decide +kernel
theorem dX5_nextToken_85 : decode cX5_nextToken 85 = .ok (.iaload, 1) := by decide +kernel
theorem dX5_nextToken_86 : decode cX5_nextToken 86 = .ok (.bipush 97, 2) := by decide +kernel
theorem dX5_nextToken_88 : decode cX5_nextToken 88 = .ok (.bipush 122, 2) := by decide +kernel
theorem dX5_nextToken_90 : decode cX5_nextToken 90 = .ok (.invokestatic 81, 3) := by decide +kernel
theorem dX5_nextToken_93 : decode cX5_nextToken 93 = .ok (.ifCond .eq 129, 3) := by decide +kernel
theorem dX5_nextToken_96 : decode cX5_nextToken 96 = .ok (.aload_n 0, 1) := by decide +kernel
theorem dX5_nextToken_97 : decode cX5_nextToken 97 = .ok (.lconst 0, 1) := by decide +kernel
theorem dX5_nextToken_98 : decode cX5_nextToken 98 = .ok (.putfield 113, 3) := by decide +kernel
theorem dX5_nextToken_101 : decode cX5_nextToken 101 = .ok (.aload_n 0, 1) := by decide +kernel
theorem dX5_nextToken_102 : decode cX5_nextToken 102 = .ok (.getfield 99, 3) := by decide +kernel
theorem dX5_nextToken_105 : decode cX5_nextToken 105 = .ok (.aload_n 0, 1) := by decide +kernel
theorem dX5_nextToken_106 : decode cX5_nextToken 106 = .ok (.getfield 94, 3) := by decide +kernel
theorem dX5_nextToken_109 : decode cX5_nextToken 109 = .ok (.if_icmp .ge 82, 3) := by decide +kernel
theorem dX5_nextToken_112 : decode cX5_nextToken 112 = .ok (.aload_n 0, 1) := by decide +kernel
theorem dX5_nextToken_113 : decode cX5_nextToken 113 = .ok (.getfield 32, 3) := by decide +kernel
theorem dX5_nextToken_116 : decode cX5_nextToken 116 = .ok (.aload_n 0, 1) := by decide +kernel
theorem dX5_nextToken_117 : decode cX5_nextToken 117 = .ok (.getfield 99, 3) := by decide +kernel
theorem dX5_nextToken_120 : decode cX5_nextToken 120 = .ok (.iaload, 1) := by decide +kernel
theorem dX5_nextToken_121 : decode cX5_nextToken 121 = .ok (.bipush 97, 2) := by decide +kernel
theorem dX5_nextToken_123 : decode cX5_nextToken 123 = .ok (.bipush 122, 2) := by decide +kernel
theorem dX5_nextToken_125 : decode cX5_nextToken 125 = .ok (.invokestatic 81, 3) := by decide +kernel
theorem dX5_nextToken_128 : decode cX5_nextToken 128 = .ok (.ifCond .eq 63, 3) := by decide +kernel
theorem dX5_nextToken_131 : decode cX5_nextToken 131 = .ok (.aload_n 0, 1) := by decide +kernel
theorem dX5_nextToken_132 : decode cX5_nextToken 132 = .ok (.aload_n 0, 1) := by decide +kernel
theorem dX5_nextToken_133 : decode cX5_nextToken 133 = .ok (.getfield 99, 3) := by decide +kernel
theorem dX5_nextToken_136 : decode cX5_nextToken 136 = .ok (.aload_n 0, 1) := by decide +kernel
theorem dX5_nextToken_137 : decode cX5_nextToken 137 = .ok (.getfield 102, 3) := by decide +kernel
theorem dX5_nextToken_140 : decode cX5_nextToken 140 = .ok (.isub, 1) := by decide +kernel
theorem dX5_nextToken_141 : decode cX5_nextToken 141 = .ok (.bipush 9, 2) := by decide +kernel
theorem dX5_nextToken_143 : decode cX5_nextToken 143 = .ok (.if_icmp .ge 29, 3) := by decide +kernel
theorem dX5_nextToken_146 : decode cX5_nextToken 146 = .ok (.ldc2_w 117, 3) := by decide +kernel
theorem dX5_nextToken_149 : decode cX5_nextToken 149 = .ok (.aload_n 0, 1) := by decide +kernel
theorem dX5_nextToken_150 : decode cX5_nextToken 150 = .ok (.getfield 113, 3) := by decide +kernel
theorem dX5_nextToken_153 : decode cX5_nextToken 153 = .ok (.lmul, 1) := by decide +kernel
theorem dX5_nextToken_154 : decode cX5_nextToken 154 = .ok (.aload_n 0, 1) := by decide +kernel
theorem dX5_nextToken_155 : decode cX5_nextToken 155 = .ok (.getfield 32, 3) := by decide +kernel
theorem dX5_nextToken_158 : decode cX5_nextToken 158 = .ok (.aload_n 0, 1) := by decide +kernel
theorem dX5_nextToken_159 : decode cX5_nextToken 159 = .ok (.getfield 99, 3) := by decide +kernel
theorem dX5_nextToken_162 : decode cX5_nextToken 162 = .ok (.iaload, 1) := by decide +kernel
theorem dX5_nextToken_163 : decode cX5_nextToken 163 = .ok (.i2l, 1) := by decide +kernel
theorem dX5_nextToken_164 : decode cX5_nextToken 164 = .ok (.ladd, 1) := by decide +kernel
theorem dX5_nextToken_165 : decode cX5_nextToken 165 = .ok (.ldc2_w 119, 3) := by decide +kernel
theorem dX5_nextToken_168 : decode cX5_nextToken 168 = .ok (.lsub, 1) := by decide +kernel
theorem dX5_nextToken_169 : decode cX5_nextToken 169 = .ok (.goto 6, 3) := by decide +kernel
theorem dX5_nextToken_172 : decode cX5_nextToken 172 = .ok (.ldc2_w 121, 3) := by decide +kernel
theorem dX5_nextToken_175 : decode cX5_nextToken 175 = .ok (.putfield 113, 3) := by decide +kernel
theorem dX5_nextToken_178 : decode cX5_nextToken 178 = .ok (.aload_n 0, 1) := by decide +kernel
theorem dX5_nextToken_179 : decode cX5_nextToken 179 = .ok (.dup, 1) := by decide +kernel
theorem dX5_nextToken_180 : decode cX5_nextToken 180 = .ok (.getfield 99, 3) := by decide +kernel
theorem dX5_nextToken_183 : decode cX5_nextToken 183 = .ok (.iconst 1, 1) := by decide +kernel
theorem dX5_nextToken_184 : decode cX5_nextToken 184 = .ok (.iadd, 1) := by decide +kernel
theorem dX5_nextToken_185 : decode cX5_nextToken 185 = .ok (.putfield 99, 3) := by decide +kernel
theorem dX5_nextToken_188 : decode cX5_nextToken 188 = .ok (.goto (-87), 3) := by decide +kernel
theorem dX5_nextToken_191 : decode cX5_nextToken 191 = .ok (.aload_n 0, 1) := by decide +kernel
theorem dX5_nextToken_192 : decode cX5_nextToken 192 = .ok (.aload_n 0, 1) := by decide +kernel
theorem dX5_nextToken_193 : decode cX5_nextToken 193 = .ok (.getfield 99, 3) := by decide +kernel
theorem dX5_nextToken_196 : decode cX5_nextToken 196 = .ok (.aload_n 0, 1) := by decide +kernel
theorem dX5_nextToken_197 : decode cX5_nextToken 197 = .ok (.getfield 102, 3) := by decide +kernel
theorem dX5_nextToken_200 : decode cX5_nextToken 200 = .ok (.isub, 1) := by decide +kernel
theorem dX5_nextToken_201 : decode cX5_nextToken 201 = .ok (.bipush 9, 2) := by decide +kernel
theorem dX5_nextToken_203 : decode cX5_nextToken 203 = .ok (.if_icmp .le 9, 3) := by decide +kernel
theorem dX5_nextToken_206 : decode cX5_nextToken 206 = .ok (.ldc2_w 121, 3) := by decide +kernel
theorem dX5_nextToken_209 : decode cX5_nextToken 209 = .ok (.goto 7, 3) := by decide +kernel
theorem dX5_nextToken_212 : decode cX5_nextToken 212 = .ok (.aload_n 0, 1) := by decide +kernel
theorem dX5_nextToken_213 : decode cX5_nextToken 213 = .ok (.getfield 113, 3) := by decide +kernel
theorem dX5_nextToken_216 : decode cX5_nextToken 216 = .ok (.putfield 113, 3) := by decide +kernel
theorem dX5_nextToken_219 : decode cX5_nextToken 219 = .ok (.goto 161, 3) := by decide +kernel
theorem dX5_nextToken_222 : decode cX5_nextToken 222 = .ok (.aload_n 0, 1) := by decide +kernel
theorem dX5_nextToken_223 : decode cX5_nextToken 223 = .ok (.getfield 32, 3) := by decide +kernel
theorem dX5_nextToken_226 : decode cX5_nextToken 226 = .ok (.aload_n 0, 1) := by decide +kernel
theorem dX5_nextToken_227 : decode cX5_nextToken 227 = .ok (.getfield 99, 3) := by decide +kernel
theorem dX5_nextToken_230 : decode cX5_nextToken 230 = .ok (.iaload, 1) := by decide +kernel
theorem dX5_nextToken_231 : decode cX5_nextToken 231 = .ok (.bipush 48, 2) := by decide +kernel
theorem dX5_nextToken_233 : decode cX5_nextToken 233 = .ok (.bipush 57, 2) := by decide +kernel
theorem dX5_nextToken_235 : decode cX5_nextToken 235 = .ok (.invokestatic 81, 3) := by decide +kernel
theorem dX5_nextToken_238 : decode cX5_nextToken 238 = .ok (.ifCond .eq 105, 3) := by decide +kernel
theorem dX5_nextToken_241 : decode cX5_nextToken 241 = .ok (.aload_n 0, 1) := by decide +kernel
theorem dX5_nextToken_242 : decode cX5_nextToken 242 = .ok (.getfield 99, 3) := by decide +kernel
theorem dX5_nextToken_245 : decode cX5_nextToken 245 = .ok (.aload_n 0, 1) := by decide +kernel
theorem dX5_nextToken_246 : decode cX5_nextToken 246 = .ok (.getfield 94, 3) := by decide +kernel
theorem dX5_nextToken_249 : decode cX5_nextToken 249 = .ok (.if_icmp .ge 84, 3) := by decide +kernel
theorem dX5_nextToken_252 : decode cX5_nextToken 252 = .ok (.aload_n 0, 1) := by decide +kernel
theorem dX5_nextToken_253 : decode cX5_nextToken 253 = .ok (.getfield 32, 3) := by decide +kernel
theorem dX5_nextToken_256 : decode cX5_nextToken 256 = .ok (.aload_n 0, 1) := by decide +kernel
theorem dX5_nextToken_257 : decode cX5_nextToken 257 = .ok (.getfield 99, 3) := by decide +kernel
theorem dX5_nextToken_260 : decode cX5_nextToken 260 = .ok (.iaload, 1) := by decide +kernel
theorem dX5_nextToken_261 : decode cX5_nextToken 261 = .ok (.bipush 48, 2) := by decide +kernel
theorem dX5_nextToken_263 : decode cX5_nextToken 263 = .ok (.bipush 57, 2) := by decide +kernel
theorem dX5_nextToken_265 : decode cX5_nextToken 265 = .ok (.invokestatic 81, 3) := by decide +kernel
theorem dX5_nextToken_268 : decode cX5_nextToken 268 = .ok (.ifCond .eq 65, 3) := by decide +kernel
theorem dX5_nextToken_271 : decode cX5_nextToken 271 = .ok (.aload_n 0, 1) := by decide +kernel
theorem dX5_nextToken_272 : decode cX5_nextToken 272 = .ok (.aload_n 0, 1) := by decide +kernel
theorem dX5_nextToken_273 : decode cX5_nextToken 273 = .ok (.getfield 105, 3) := by decide +kernel
theorem dX5_nextToken_276 : decode cX5_nextToken 276 = .ok (.iconst 4, 1) := by decide +kernel
theorem dX5_nextToken_277 : decode cX5_nextToken 277 = .ok (.if_icmp .ge 26, 3) := by decide +kernel
theorem dX5_nextToken_280 : decode cX5_nextToken 280 = .ok (.bipush 10, 2) := by decide +kernel
theorem dX5_nextToken_282 : decode cX5_nextToken 282 = .ok (.aload_n 0, 1) := by decide +kernel
theorem dX5_nextToken_283 : decode cX5_nextToken 283 = .ok (.getfield 108, 3) := by decide +kernel
theorem dX5_nextToken_286 : decode cX5_nextToken 286 = .ok (.imul, 1) := by decide +kernel
theorem dX5_nextToken_287 : decode cX5_nextToken 287 = .ok (.aload_n 0, 1) := by decide +kernel
theorem dX5_nextToken_288 : decode cX5_nextToken 288 = .ok (.getfield 32, 3) := by decide +kernel
theorem dX5_nextToken_291 : decode cX5_nextToken 291 = .ok (.aload_n 0, 1) := by decide +kernel
theorem dX5_nextToken_292 : decode cX5_nextToken 292 = .ok (.getfield 99, 3) := by decide +kernel
theorem dX5_nextToken_295 : decode cX5_nextToken 295 = .ok (.iaload, 1) := by decide +kernel
theorem dX5_nextToken_296 : decode cX5_nextToken 296 = .ok (.iadd, 1) := by decide +kernel
theorem dX5_nextToken_297 : decode cX5_nextToken 297 = .ok (.bipush 48, 2) := by decide +kernel
theorem dX5_nextToken_299 : decode cX5_nextToken 299 = .ok (.isub, 1) := by decide +kernel
theorem dX5_nextToken_300 : decode cX5_nextToken 300 = .ok (.goto 7, 3) := by decide +kernel
theorem dX5_nextToken_303 : decode cX5_nextToken 303 = .ok (.aload_n 0, 1) := by decide +kernel
theorem dX5_nextToken_304 : decode cX5_nextToken 304 = .ok (.getfield 108, 3) := by decide +kernel
theorem dX5_nextToken_307 : decode cX5_nextToken 307 = .ok (.putfield 108, 3) := by decide +kernel
theorem dX5_nextToken_310 : decode cX5_nextToken 310 = .ok (.aload_n 0, 1) := by decide +kernel
theorem dX5_nextToken_311 : decode cX5_nextToken 311 = .ok (.dup, 1) := by decide +kernel
theorem dX5_nextToken_312 : decode cX5_nextToken 312 = .ok (.getfield 105, 3) := by decide +kernel
theorem dX5_nextToken_315 : decode cX5_nextToken 315 = .ok (.iconst 1, 1) := by decide +kernel
theorem dX5_nextToken_316 : decode cX5_nextToken 316 = .ok (.iadd, 1) := by decide +kernel
theorem dX5_nextToken_317 : decode cX5_nextToken 317 = .ok (.putfield 105, 3) := by decide +kernel
theorem dX5_nextToken_320 : decode cX5_nextToken 320 = .ok (.aload_n 0, 1) := by decide +kernel
theorem dX5_nextToken_321 : decode cX5_nextToken 321 = .ok (.dup, 1) := by decide +kernel
theorem dX5_nextToken_322 : decode cX5_nextToken 322 = .ok (.getfield 99, 3) := by decide +kernel
theorem dX5_nextToken_325 : decode cX5_nextToken 325 = .ok (.iconst 1, 1) := by decide +kernel
theorem dX5_nextToken_326 : decode cX5_nextToken 326 = .ok (.iadd, 1) := by decide +kernel
theorem dX5_nextToken_327 : decode cX5_nextToken 327 = .ok (.putfield 99, 3) := by decide +kernel
theorem dX5_nextToken_330 : decode cX5_nextToken 330 = .ok (.goto (-89), 3) := by decide +kernel
theorem dX5_nextToken_333 : decode cX5_nextToken 333 = .ok (.aload_n 0, 1) := by decide +kernel
theorem dX5_nextToken_334 : decode cX5_nextToken 334 = .ok (.ldc2_w 123, 3) := by decide +kernel
theorem dX5_nextToken_337 : decode cX5_nextToken 337 = .ok (.putfield 113, 3) := by decide +kernel
theorem dX5_nextToken_340 : decode cX5_nextToken 340 = .ok (.goto 40, 3) := by decide +kernel
theorem dX5_nextToken_343 : decode cX5_nextToken 343 = .ok (.aload_n 0, 1) := by decide +kernel
theorem dX5_nextToken_344 : decode cX5_nextToken 344 = .ok (.aload_n 0, 1) := by decide +kernel
theorem dX5_nextToken_345 : decode cX5_nextToken 345 = .ok (.getfield 32, 3) := by decide +kernel
theorem dX5_nextToken_348 : decode cX5_nextToken 348 = .ok (.aload_n 0, 1) := by decide +kernel
theorem dX5_nextToken_349 : decode cX5_nextToken 349 = .ok (.getfield 99, 3) := by decide +kernel
theorem dX5_nextToken_352 : decode cX5_nextToken 352 = .ok (.iaload, 1) := by decide +kernel
theorem dX5_nextToken_353 : decode cX5_nextToken 353 = .ok (.bipush 59, 2) := by decide +kernel
theorem dX5_nextToken_355 : decode cX5_nextToken 355 = .ok (.if_icmp .ne 9, 3) := by decide +kernel
theorem dX5_nextToken_358 : decode cX5_nextToken 358 = .ok (.ldc2_w 125, 3) := by decide +kernel
theorem dX5_nextToken_361 : decode cX5_nextToken 361 = .ok (.goto 6, 3) := by decide +kernel
theorem dX5_nextToken_364 : decode cX5_nextToken 364 = .ok (.ldc2_w 121, 3) := by decide +kernel
theorem dX5_nextToken_367 : decode cX5_nextToken 367 = .ok (.putfield 113, 3) := by decide +kernel
theorem dX5_nextToken_370 : decode cX5_nextToken 370 = .ok (.aload_n 0, 1) := by decide +kernel
theorem dX5_nextToken_371 : decode cX5_nextToken 371 = .ok (.dup, 1) := by decide +kernel
theorem dX5_nextToken_372 : decode cX5_nextToken 372 = .ok (.getfield 99, 3) := by decide +kernel
theorem dX5_nextToken_375 : decode cX5_nextToken 375 = .ok (.iconst 1, 1) := by decide +kernel
theorem dX5_nextToken_376 : decode cX5_nextToken 376 = .ok (.iadd, 1) := by decide +kernel
theorem dX5_nextToken_377 : decode cX5_nextToken 377 = .ok (.putfield 99, 3) := by decide +kernel
theorem dX5_nextToken_380 : decode cX5_nextToken 380 = .ok (.return_, 1) := by decide +kernel
theorem dX5_fails_0 : decode cX5_fails 0 = .ok (.aload_n 0, 1) := by decide +kernel
theorem dX5_fails_1 : decode cX5_fails 1 = .ok (.aload_n 0, 1) := by decide +kernel
theorem dX5_fails_2 : decode cX5_fails 2 = .ok (.getfield 102, 3) := by decide +kernel
theorem dX5_fails_5 : decode cX5_fails 5 = .ok (.putfield 127, 3) := by decide +kernel
theorem dX5_fails_8 : decode cX5_fails 8 = .ok (.iconst 0, 1) := by decide +kernel
theorem dX5_fails_9 : decode cX5_fails 9 = .ok (.ireturn, 1) := by decide +kernel
set_option maxRecDepth 20000 in
theorem ggX5_isNumber_X5_nextToken : GoodIn wsX5_isNumber wsX5_nextToken := goodIn_r _ [10, 11, 12, 13, 14, 3, 4, 15, 1, 16, 17, 18, 2, 19, 20, 21, 9, 22, 28, 29, 30, 31, 32, 33, 34, 35, 36, 37, 38, 39, 40, 41, 42, 43, 44, 45, 46, 47, 48, 49, 50, 51, 52, 53, 54, 55, 56, 57, 58, 59, 60, 61, 62, 63, 64, 65, 66, 67] (by decide +kernel) (by decide +kernel)
set_option maxRecDepth 20000 in
theorem gX5_isNumber_X5_nextToken : GoodIn wsX5_isNumber (wsV RX5 130 RX5 yX5_nextToken wsX5_nextToken) := goodIn_app (goodIn_of _ (by decide +kernel)) ggX5_isNumber_X5_nextToken
set_option maxRecDepth 20000 in
theorem ggX5_isNumber_X5_in : GoodIn wsX5_isNumber wsX5_in := goodIn_r _ [22] (by decide +kernel) (by decide +kernel)
set_option maxRecDepth 20000 in
theorem gX5_isNumber_X5_in : GoodIn wsX5_isNumber (va_wsS RX5 81 yX5_in wsX5_in) := goodIn_app (goodIn_of _ (by decide +kernel)) ggX5_isNumber_X5_in
set_option maxRecDepth 20000 in
theorem ggX5_isNumber_X5_fails : GoodIn wsX5_isNumber wsX5_fails := goodIn_r _ [26, 14, 27, 28, 29, 30, 31, 32, 33, 34, 35, 36, 37, 38, 39, 40, 41, 42, 43, 44, 45, 46, 47, 48, 49, 50, 51, 52, 53, 54, 55, 56, 57, 58, 59, 60, 61, 62, 63, 64, 65, 66, 67] (by decide +kernel) (by decide +kernel)
set_option maxRecDepth 20000 in
theorem gX5_isNumber_X5_fails : GoodIn wsX5_isNumber (wsV RX5 133 RX5 yX5_fails wsX5_fails) := goodIn_app (goodIn_of _ (by decide +kernel)) ggX5_isNumber_X5_fails
theorem dX5_isNumber_0 : decode cX5_isNumber 0 = .ok (.aload_n 0, 1) := by decide +kernel
theorem dX5_isNumber_1 : decode cX5_isNumber 1 = .ok (.invokevirtual 130, 3) := by decide +kernel
theorem dX5_isNumber_4 : decode cX5_isNumber 4 = .ok (.aload_n 0, 1) := by decide +kernel
theorem dX5_isNumber_5 : decode cX5_isNumber 5 = .ok (.getfield 113, 3) := by decide +kernel
theorem dX5_isNumber_8 : decode cX5_isNumber 8 = .ok (.ldc2_w 123, 3) := by decide +kernel
theorem dX5_isNumber_11 : decode cX5_isNumber 11 = .ok (.lcmp, 1) := by decide +kernel
theorem dX5_isNumber_12 : decode cX5_isNumber 12 = .ok (.ifCond .ne 33, 3) := by decide +kernel
theorem dX5_isNumber_15 : decode cX5_isNumber 15 = .ok (.aload_n 0, 1) := by decide +kernel
theorem dX5_isNumber_16 : decode cX5_isNumber 16 = .ok (.getfield 105, 3) := by decide +kernel
theorem dX5_isNumber_19 : decode cX5_isNumber 19 = .ok (.iload_n 3, 1) := by decide +kernel
theorem dX5_isNumber_20 : decode cX5_isNumber 20 = .ok (.bipush 99, 2) := by decide +kernel
theorem dX5_isNumber_22 : decode cX5_isNumber 22 = .ok (.if_icmp .le 7, 3) := by decide +kernel
theorem dX5_isNumber_25 : decode cX5_isNumber 25 = .ok (.iconst 4, 1) := by decide +kernel
theorem dX5_isNumber_26 : decode cX5_isNumber 26 = .ok (.goto 4, 3) := by decide +kernel
theorem dX5_isNumber_29 : decode cX5_isNumber 29 = .ok (.iconst 2, 1) := by decide +kernel
theorem dX5_isNumber_30 : decode cX5_isNumber 30 = .ok (.if_icmp .gt 15, 3) := by decide +kernel
theorem dX5_isNumber_33 : decode cX5_isNumber 33 = .ok (.aload_n 0, 1) := by decide +kernel
theorem dX5_isNumber_34 : decode cX5_isNumber 34 = .ok (.getfield 108, 3) := by decide +kernel
theorem dX5_isNumber_37 : decode cX5_isNumber 37 = .ok (.iload_n 2, 1) := by decide +kernel
theorem dX5_isNumber_38 : decode cX5_isNumber 38 = .ok (.iload_n 3, 1) := by decide +kernel
theorem dX5_isNumber_39 : decode cX5_isNumber 39 = .ok (.invokestatic 81, 3) := by decide +kernel
theorem dX5_isNumber_42 : decode cX5_isNumber 42 = .ok (.ifCond .ne 8, 3) := by decide +kernel
theorem dX5_isNumber_45 : decode cX5_isNumber 45 = .ok (.aload_n 0, 1) := by decide +kernel
theorem dX5_isNumber_46 : decode cX5_isNumber 46 = .ok (.invokevirtual 133, 3) := by decide +kernel
theorem dX5_isNumber_49 : decode cX5_isNumber 49 = .ok (.ireturn, 1) := by decide +kernel
theorem dX5_isNumber_50 : decode cX5_isNumber 50 = .ok (.aload_n 0, 1) := by decide +kernel
theorem dX5_isNumber_51 : decode cX5_isNumber 51 = .ok (.getfield 35, 3) := by decide +kernel
theorem dX5_isNumber_54 : decode cX5_isNumber 54 = .ok (.iload_n 1, 1) := by decide +kernel
theorem dX5_isNumber_55 : decode cX5_isNumber 55 = .ok (.aload_n 0, 1) := by decide +kernel
theorem dX5_isNumber_56 : decode cX5_isNumber 56 = .ok (.getfield 108, 3) := by decide +kernel
theorem dX5_isNumber_59 : decode cX5_isNumber 59 = .ok (.iastore, 1) := by decide +kernel
theorem dX5_isNumber_60 : decode cX5_isNumber 60 = .ok (.iconst 1, 1) := by decide +kernel
theorem dX5_isNumber_61 : decode cX5_isNumber 61 = .ok (.ireturn, 1) := by decide +kernel
set_option maxRecDepth 20000 in
theorem ggX5_isGreen_X5_isNumber : GoodIn wsX5_isGreen wsX5_isNumber := goodIn_r _ [11, 12, 13, 14, 15, 1, 16, 17, 18, 10, 19, 20, 21, 22, 23, 24, 25, 26, 27, 28, 29, 30, 31, 32, 33, 34, 35, 36, 37, 38, 39, 40, 41, 42, 43, 44, 45, 46, 47, 48, 49, 50, 51, 52, 53, 54, 55, 56, 57, 58, 59, 60, 61, 62, 63, 64, 65, 66, 67, 68, 69, 70, 71, 72, 73, 74, 75, 76] (by decide +kernel) (by decide +kernel)
set_option maxRecDepth 20000 in
theorem gX5_isGreen_X5_isNumber : GoodIn wsX5_isGreen (wsV RX5 137 RX5 yX5_isNumber wsX5_isNumber) := goodIn_app (goodIn_of _ (by decide +kernel)) ggX5_isGreen_X5_isNumber
theorem dX5_isGreen_0 : decode cX5_isGreen 0 = .ok (.aload_n 0, 1) := by decide +kernel
theorem dX5_isGreen_1 : decode cX5_isGreen 1 = .ok (.iload_n 1, 1) := by decide +kernel
theorem dX5_isGreen_2 : decode cX5_isGreen 2 = .ok (.iconst 1, 1) := by decide +kernel
theorem dX5_isGreen_3 : decode cX5_isGreen 3 = .ok (.iadd, 1) := by decide +kernel
theorem dX5_isGreen_4 : decode cX5_isGreen 4 = .ok (.iconst 3, 1) := by decide +kernel
theorem dX5_isGreen_5 : decode cX5_isGreen 5 = .ok (.bipush 12, 2) := by decide +kernel
theorem dX5_isGreen_7 : decode cX5_isGreen 7 = .ok (.invokevirtual 137, 3) := by decide +kernel
theorem dX5_isGreen_10 : decode cX5_isGreen 10 = .ok (.ifCond .ne 5, 3) := by decide +kernel
theorem dX5_isGreen_13 : decode cX5_isGreen 13 = .ok (.iconst 0, 1) := by decide +kernel
theorem dX5_isGreen_14 : decode cX5_isGreen 14 = .ok (.ireturn, 1) := by decide +kernel
theorem dX5_isGreen_15 : decode cX5_isGreen 15 = .ok (.aload_n 0, 1) := by decide +kernel
theorem dX5_isGreen_16 : decode cX5_isGreen 16 = .ok (.aload_n 0, 1) := by decide +kernel
theorem dX5_isGreen_17 : decode cX5_isGreen 17 = .ok (.getfield 35, 3) := by decide +kernel
theorem dX5_isGreen_20 : decode cX5_isGreen 20 = .ok (.iload_n 1, 1) := by decide +kernel
theorem dX5_isGreen_21 : decode cX5_isGreen 21 = .ok (.iconst 1, 1) := by decide +kernel
theorem dX5_isGreen_22 : decode cX5_isGreen 22 = .ok (.iadd, 1) := by decide +kernel
theorem dX5_isGreen_23 : decode cX5_isGreen 23 = .ok (.iaload, 1) := by decide +kernel
theorem dX5_isGreen_24 : decode cX5_isGreen 24 = .ok (.putfield 140, 3) := by decide +kernel
theorem dX5_isGreen_27 : decode cX5_isGreen 27 = .ok (.aload_n 0, 1) := by decide +kernel
theorem dX5_isGreen_28 : decode cX5_isGreen 28 = .ok (.iconst 0, 1) := by decide +kernel
theorem dX5_isGreen_29 : decode cX5_isGreen 29 = .ok (.putfield 143, 3) := by decide +kernel
theorem dX5_isGreen_32 : decode cX5_isGreen 32 = .ok (.aload_n 0, 1) := by decide +kernel
theorem dX5_isGreen_33 : decode cX5_isGreen 33 = .ok (.iconst 0, 1) := by decide +kernel
theorem dX5_isGreen_34 : decode cX5_isGreen 34 = .ok (.putfield 146, 3) := by decide +kernel
theorem dX5_isGreen_37 : decode cX5_isGreen 37 = .ok (.aload_n 0, 1) := by decide +kernel
theorem dX5_isGreen_38 : decode cX5_isGreen 38 = .ok (.iconst 0, 1) := by decide +kernel
theorem dX5_isGreen_39 : decode cX5_isGreen 39 = .ok (.putfield 149, 3) := by decide +kernel
theorem dX5_isGreen_42 : decode cX5_isGreen 42 = .ok (.aload_n 0, 1) := by decide +kernel
theorem dX5_isGreen_43 : decode cX5_isGreen 43 = .ok (.iconst 0, 1) := by decide +kernel
theorem dX5_isGreen_44 : decode cX5_isGreen 44 = .ok (.putfield 152, 3) := by decide +kernel
theorem dX5_isGreen_47 : decode cX5_isGreen 47 = .ok (.iconst 1, 1) := by decide +kernel
theorem dX5_isGreen_48 : decode cX5_isGreen 48 = .ok (.ireturn, 1) := by decide +kernel
set_option maxRecDepth 20000 in
theorem ggX5_isHouseLine_X5_fails : GoodIn wsX5_isHouseLine wsX5_fails := goodIn_r _ [9, 10, 11, 35, 36, 37, 38, 39, 40, 41, 42, 43, 44, 45, 46, 47, 48, 49, 50, 51, 52, 53, 54, 55, 56, 57, 58, 59, 60, 61, 62, 63, 64, 65, 66, 67, 68, 69, 70, 71, 72, 73, 74] (by decide +kernel) (by decide +kernel)
set_option maxRecDepth 20000 in
theorem gX5_isHouseLine_X5_fails : GoodIn wsX5_isHouseLine (wsV RX5 133 RX5 yX5_fails wsX5_fails) := goodIn_app (goodIn_of _ (by decide +kernel)) ggX5_isHouseLine_X5_fails
set_option maxRecDepth 20000 in
theorem ggX5_isHouseLine_X5_isNumber : GoodIn wsX5_isHouseLine wsX5_isNumber := goodIn_r _ [15, 16, 17, 18, 19, 3, 20, 21, 22, 8, 23, 24, 25, 26, 10, 27, 28, 29, 30, 31, 32, 33, 34, 5, 6, 7, 9, 11, 35, 36, 37, 38, 39, 40, 41, 42, 43, 44, 45, 46, 47, 48, 49, 50, 51, 52, 53, 54, 55, 56, 57, 58, 59, 60, 61, 62, 63, 64, 65, 66, 67, 68, 69, 70, 71, 72, 73, 74] (by decide +kernel) (by decide +kernel)
set_option maxRecDepth 20000 in
theorem gX5_isHouseLine_X5_isNumber : GoodIn wsX5_isHouseLine (wsV RX5 137 RX5 yX5_isNumber wsX5_isNumber) := goodIn_app (goodIn_of _ (by decide +kernel)) ggX5_isHouseLine_X5_isNumber
theorem dX5_isHouseLine_0 : decode cX5_isHouseLine 0 = .ok (.aload_n 0, 1) := by decide +kernel
theorem dX5_isHouseLine_1 : decode cX5_isHouseLine 1 = .ok (.getfield 143, 3) := by decide +kernel
theorem dX5_isHouseLine_4 : decode cX5_isHouseLine 4 = .ok (.bipush 8, 2) := by decide +kernel
theorem dX5_isHouseLine_6 : decode cX5_isHouseLine 6 = .ok (.if_icmp .ne 8, 3) := by decide +kernel
theorem dX5_isHouseLine_9 : decode cX5_isHouseLine 9 = .ok (.aload_n 0, 1) := by decide +kernel
theorem dX5_isHouseLine_10 : decode cX5_isHouseLine 10 = .ok (.invokevirtual 133, 3) := by decide +kernel
theorem dX5_isHouseLine_13 : decode cX5_isHouseLine 13 = .ok (.ireturn, 1) := by decide +kernel
theorem dX5_isHouseLine_14 : decode cX5_isHouseLine 14 = .ok (.aload_n 0, 1) := by decide +kernel
theorem dX5_isHouseLine_15 : decode cX5_isHouseLine 15 = .ok (.dup, 1) := by decide +kernel
theorem dX5_isHouseLine_16 : decode cX5_isHouseLine 16 = .ok (.getfield 143, 3) := by decide +kernel
theorem dX5_isHouseLine_19 : decode cX5_isHouseLine 19 = .ok (.iconst 1, 1) := by decide +kernel
theorem dX5_isHouseLine_20 : decode cX5_isHouseLine 20 = .ok (.iadd, 1) := by decide +kernel
theorem dX5_isHouseLine_21 : decode cX5_isHouseLine 21 = .ok (.putfield 143, 3) := by decide +kernel
theorem dX5_isHouseLine_24 : decode cX5_isHouseLine 24 = .ok (.aload_n 0, 1) := by decide +kernel
theorem dX5_isHouseLine_25 : decode cX5_isHouseLine 25 = .ok (.iload_n 1, 1) := by decide +kernel
theorem dX5_isHouseLine_26 : decode cX5_isHouseLine 26 = .ok (.iconst 1, 1) := by decide +kernel
theorem dX5_isHouseLine_27 : decode cX5_isHouseLine 27 = .ok (.iadd, 1) := by decide +kernel
theorem dX5_isHouseLine_28 : decode cX5_isHouseLine 28 = .ok (.iconst 0, 1) := by decide +kernel
theorem dX5_isHouseLine_29 : decode cX5_isHouseLine 29 = .ok (.aload_n 0, 1) := by decide +kernel
theorem dX5_isHouseLine_30 : decode cX5_isHouseLine 30 = .ok (.getfield 140, 3) := by decide +kernel
theorem dX5_isHouseLine_33 : decode cX5_isHouseLine 33 = .ok (.iconst 1, 1) := by decide +kernel
theorem dX5_isHouseLine_34 : decode cX5_isHouseLine 34 = .ok (.isub, 1) := by decide +kernel
theorem dX5_isHouseLine_35 : decode cX5_isHouseLine 35 = .ok (.invokevirtual 137, 3) := by decide +kernel
theorem dX5_isHouseLine_38 : decode cX5_isHouseLine 38 = .ok (.ifCond .ne 5, 3) := by decide +kernel
theorem dX5_isHouseLine_41 : decode cX5_isHouseLine 41 = .ok (.iconst 0, 1) := by decide +kernel
theorem dX5_isHouseLine_42 : decode cX5_isHouseLine 42 = .ok (.ireturn, 1) := by decide +kernel
theorem dX5_isHouseLine_43 : decode cX5_isHouseLine 43 = .ok (.iconst 1, 1) := by decide +kernel
theorem dX5_isHouseLine_44 : decode cX5_isHouseLine 44 = .ok (.aload_n 0, 1) := by decide +kernel
theorem dX5_isHouseLine_45 : decode cX5_isHouseLine 45 = .ok (.getfield 35, 3) := by decide +kernel
theorem dX5_isHouseLine_48 : decode cX5_isHouseLine 48 = .ok (.iload_n 1, 1) := by decide +kernel
theorem dX5_isHouseLine_49 : decode cX5_isHouseLine 49 = .ok (.iconst 1, 1) := by decide +kernel
theorem dX5_isHouseLine_50 : decode cX5_isHouseLine 50 = .ok (.iadd, 1) := by decide +kernel
theorem dX5_isHouseLine_51 : decode cX5_isHouseLine 51 = .ok (.iaload, 1) := by decide +kernel
theorem dX5_isHouseLine_52 : decode cX5_isHouseLine 52 = .ok (.ishl, 1) := by decide +kernel
theorem dX5_isHouseLine_53 : decode cX5_isHouseLine 53 = .ok (.iload_n 2, 1) := by decide +kernel
theorem dX5_isHouseLine_54 : decode cX5_isHouseLine 54 = .ok (.ifCond .eq 23, 3) := by decide +kernel
theorem dX5_isHouseLine_57 : decode cX5_isHouseLine 57 = .ok (.iconst 1, 1) := by decide +kernel
theorem dX5_isHouseLine_58 : decode cX5_isHouseLine 58 = .ok (.aload_n 0, 1) := by decide +kernel
theorem dX5_isHouseLine_59 : decode cX5_isHouseLine 59 = .ok (.getfield 35, 3) := by decide +kernel
theorem dX5_isHouseLine_62 : decode cX5_isHouseLine 62 = .ok (.iload_n 1, 1) := by decide +kernel
theorem dX5_isHouseLine_63 : decode cX5_isHouseLine 63 = .ok (.iconst 1, 1) := by decide +kernel
theorem dX5_isHouseLine_64 : decode cX5_isHouseLine 64 = .ok (.iadd, 1) := by decide +kernel
theorem dX5_isHouseLine_65 : decode cX5_isHouseLine 65 = .ok (.iaload, 1) := by decide +kernel
theorem dX5_isHouseLine_66 : decode cX5_isHouseLine 66 = .ok (.iconst 1, 1) := by decide +kernel
theorem dX5_isHouseLine_67 : decode cX5_isHouseLine 67 = .ok (.iadd, 1) := by decide +kernel
theorem dX5_isHouseLine_68 : decode cX5_isHouseLine 68 = .ok (.aload_n 0, 1) := by decide +kernel
theorem dX5_isHouseLine_69 : decode cX5_isHouseLine 69 = .ok (.getfield 140, 3) := by decide +kernel
theorem dX5_isHouseLine_72 : decode cX5_isHouseLine 72 = .ok (.irem, 1) := by decide +kernel
theorem dX5_isHouseLine_73 : decode cX5_isHouseLine 73 = .ok (.ishl, 1) := by decide +kernel
theorem dX5_isHouseLine_74 : decode cX5_isHouseLine 74 = .ok (.goto 4, 3) := by decide +kernel
theorem dX5_isHouseLine_77 : decode cX5_isHouseLine 77 = .ok (.iconst 0, 1) := by decide +kernel
theorem dX5_isHouseLine_78 : decode cX5_isHouseLine 78 = .ok (.ior, 1) := by decide +kernel
theorem dX5_isHouseLine_79 : decode cX5_isHouseLine 79 = .ok (.istore_n 3, 1) := by decide +kernel
theorem dX5_isHouseLine_80 : decode cX5_isHouseLine 80 = .ok (.aload_n 0, 1) := by decide +kernel
theorem dX5_isHouseLine_81 : decode cX5_isHouseLine 81 = .ok (.getfield 146, 3) := by decide +kernel
theorem dX5_isHouseLine_84 : decode cX5_isHouseLine 84 = .ok (.iload_n 3, 1) := by decide +kernel
theorem dX5_isHouseLine_85 : decode cX5_isHouseLine 85 = .ok (.iand, 1) := by decide +kernel
theorem dX5_isHouseLine_86 : decode cX5_isHouseLine 86 = .ok (.ifCond .ne 20, 3) := by decide +kernel
theorem dX5_isHouseLine_89 : decode cX5_isHouseLine 89 = .ok (.aload_n 0, 1) := by decide +kernel
theorem dX5_isHouseLine_90 : decode cX5_isHouseLine 90 = .ok (.getfield 146, 3) := by decide +kernel
theorem dX5_isHouseLine_93 : decode cX5_isHouseLine 93 = .ok (.iload_n 3, 1) := by decide +kernel
theorem dX5_isHouseLine_94 : decode cX5_isHouseLine 94 = .ok (.ior, 1) := by decide +kernel
theorem dX5_isHouseLine_95 : decode cX5_isHouseLine 95 = .ok (.iconst 1, 1) := by decide +kernel
theorem dX5_isHouseLine_96 : decode cX5_isHouseLine 96 = .ok (.aload_n 0, 1) := by decide +kernel
theorem dX5_isHouseLine_97 : decode cX5_isHouseLine 97 = .ok (.getfield 140, 3) := by decide +kernel
theorem dX5_isHouseLine_100 : decode cX5_isHouseLine 100 = .ok (.ishl, 1) := by decide +kernel
theorem dX5_isHouseLine_101 : decode cX5_isHouseLine 101 = .ok (.iconst 1, 1) := by decide +kernel
theorem dX5_isHouseLine_102 : decode cX5_isHouseLine 102 = .ok (.isub, 1) := by decide +kernel
theorem dX5_isHouseLine_103 : decode cX5_isHouseLine 103 = .ok (.if_icmp .ne 8, 3) := by decide +kernel
theorem dX5_isHouseLine_106 : decode cX5_isHouseLine 106 = .ok (.aload_n 0, 1) := by decide +kernel
theorem dX5_isHouseLine_107 : decode cX5_isHouseLine 107 = .ok (.invokevirtual 133, 3) := by decide +kernel
theorem dX5_isHouseLine_110 : decode cX5_isHouseLine 110 = .ok (.ireturn, 1) := by decide +kernel
theorem dX5_isHouseLine_111 : decode cX5_isHouseLine 111 = .ok (.aload_n 0, 1) := by decide +kernel
theorem dX5_isHouseLine_112 : decode cX5_isHouseLine 112 = .ok (.aload_n 0, 1) := by decide +kernel
theorem dX5_isHouseLine_113 : decode cX5_isHouseLine 113 = .ok (.getfield 146, 3) := by decide +kernel
theorem dX5_isHouseLine_116 : decode cX5_isHouseLine 116 = .ok (.iload_n 3, 1) := by decide +kernel
theorem dX5_isHouseLine_117 : decode cX5_isHouseLine 117 = .ok (.ior, 1) := by decide +kernel
theorem dX5_isHouseLine_118 : decode cX5_isHouseLine 118 = .ok (.putfield 146, 3) := by decide +kernel
theorem dX5_isHouseLine_121 : decode cX5_isHouseLine 121 = .ok (.iconst 1, 1) := by decide +kernel
theorem dX5_isHouseLine_122 : decode cX5_isHouseLine 122 = .ok (.ireturn, 1) := by decide +kernel
set_option maxRecDepth 20000 in
theorem ggX5_areUnlike_X5_isNumber : GoodIn wsX5_areUnlike wsX5_isNumber := goodIn_r _ [6, 7, 8, 9, 10, 1, 11, 12, 13, 5, 14, 15, 16, 17, 18, 19, 20, 21, 22, 23, 24, 25, 26, 27, 28, 29, 30, 31, 32, 33, 34, 35, 36, 37, 38, 39, 40, 41, 42, 43, 44, 45, 46, 47, 48, 49, 50, 51, 52, 53, 54, 55, 56, 57, 58, 59, 60, 61, 62, 63, 64, 65, 66, 67, 68, 69, 70, 71] (by decide +kernel) (by decide +kernel)
set_option maxRecDepth 20000 in
theorem gX5_areUnlike_X5_isNumber : GoodIn wsX5_areUnlike (wsV RX5 137 RX5 yX5_isNumber wsX5_isNumber) := goodIn_app (goodIn_of _ (by decide +kernel)) ggX5_areUnlike_X5_isNumber
set_option maxRecDepth 20000 in
theorem ggX5_areUnlike_X5_fails : GoodIn wsX5_areUnlike wsX5_fails := goodIn_r _ [30, 18, 31, 32, 33, 34, 35, 36, 37, 38, 39, 40, 41, 42, 43, 44, 45, 46, 47, 48, 49, 50, 51, 52, 53, 54, 55, 56, 57, 58, 59, 60, 61, 62, 63, 64, 65, 66, 67, 68, 69, 70, 71] (by decide +kernel) (by decide +kernel)
set_option maxRecDepth 20000 in
theorem gX5_areUnlike_X5_fails : GoodIn wsX5_areUnlike (wsV RX5 133 RX5 yX5_fails wsX5_fails) := goodIn_app (goodIn_of _ (by decide +kernel)) ggX5_areUnlike_X5_fails
theorem dX5_areUnlike_0 : decode cX5_areUnlike 0 = .ok (.aload_n 0, 1) := by decide +kernel
theorem dX5_areUnlike_1 : decode cX5_areUnlike 1 = .ok (.iload_n 1, 1) := by decide +kernel
theorem dX5_areUnlike_2 : decode cX5_areUnlike 2 = .ok (.iconst 1, 1) := by decide +kernel
theorem dX5_areUnlike_3 : decode cX5_areUnlike 3 = .ok (.iadd, 1) := by decide +kernel
theorem dX5_areUnlike_4 : decode cX5_areUnlike 4 = .ok (.iconst 0, 1) := by decide +kernel
theorem dX5_areUnlike_5 : decode cX5_areUnlike 5 = .ok (.iload_n 2, 1) := by decide +kernel
theorem dX5_areUnlike_6 : decode cX5_areUnlike 6 = .ok (.invokevirtual 137, 3) := by decide +kernel
theorem dX5_areUnlike_9 : decode cX5_areUnlike 9 = .ok (.ifCond .eq 15, 3) := by decide +kernel
theorem dX5_areUnlike_12 : decode cX5_areUnlike 12 = .ok (.aload_n 0, 1) := by decide +kernel
theorem dX5_areUnlike_13 : decode cX5_areUnlike 13 = .ok (.iload_n 1, 1) := by decide +kernel
theorem dX5_areUnlike_14 : decode cX5_areUnlike 14 = .ok (.iconst 2, 1) := by decide +kernel
theorem dX5_areUnlike_15 : decode cX5_areUnlike 15 = .ok (.iadd, 1) := by decide +kernel
theorem dX5_areUnlike_16 : decode cX5_areUnlike 16 = .ok (.iconst 0, 1) := by decide +kernel
theorem dX5_areUnlike_17 : decode cX5_areUnlike 17 = .ok (.iload_n 2, 1) := by decide +kernel
theorem dX5_areUnlike_18 : decode cX5_areUnlike 18 = .ok (.invokevirtual 137, 3) := by decide +kernel
theorem dX5_areUnlike_21 : decode cX5_areUnlike 21 = .ok (.ifCond .ne 5, 3) := by decide +kernel
theorem dX5_areUnlike_24 : decode cX5_areUnlike 24 = .ok (.iconst 0, 1) := by decide +kernel
theorem dX5_areUnlike_25 : decode cX5_areUnlike 25 = .ok (.ireturn, 1) := by decide +kernel
theorem dX5_areUnlike_26 : decode cX5_areUnlike 26 = .ok (.aload_n 0, 1) := by decide +kernel
theorem dX5_areUnlike_27 : decode cX5_areUnlike 27 = .ok (.getfield 35, 3) := by decide +kernel
theorem dX5_areUnlike_30 : decode cX5_areUnlike 30 = .ok (.iload_n 1, 1) := by decide +kernel
theorem dX5_areUnlike_31 : decode cX5_areUnlike 31 = .ok (.iconst 1, 1) := by decide +kernel
theorem dX5_areUnlike_32 : decode cX5_areUnlike 32 = .ok (.iadd, 1) := by decide +kernel
theorem dX5_areUnlike_33 : decode cX5_areUnlike 33 = .ok (.iaload, 1) := by decide +kernel
theorem dX5_areUnlike_34 : decode cX5_areUnlike 34 = .ok (.aload_n 0, 1) := by decide +kernel
theorem dX5_areUnlike_35 : decode cX5_areUnlike 35 = .ok (.getfield 35, 3) := by decide +kernel
theorem dX5_areUnlike_38 : decode cX5_areUnlike 38 = .ok (.iload_n 1, 1) := by decide +kernel
theorem dX5_areUnlike_39 : decode cX5_areUnlike 39 = .ok (.iconst 2, 1) := by decide +kernel
theorem dX5_areUnlike_40 : decode cX5_areUnlike 40 = .ok (.iadd, 1) := by decide +kernel
theorem dX5_areUnlike_41 : decode cX5_areUnlike 41 = .ok (.iaload, 1) := by decide +kernel
theorem dX5_areUnlike_42 : decode cX5_areUnlike 42 = .ok (.if_icmp .ne 10, 3) := by decide +kernel
theorem dX5_areUnlike_45 : decode cX5_areUnlike 45 = .ok (.aload_n 0, 1) := by decide +kernel
theorem dX5_areUnlike_46 : decode cX5_areUnlike 46 = .ok (.invokevirtual 133, 3) := by decide +kernel
theorem dX5_areUnlike_49 : decode cX5_areUnlike 49 = .ok (.ifCond .eq 7, 3) := by decide +kernel
theorem dX5_areUnlike_52 : decode cX5_areUnlike 52 = .ok (.iconst 1, 1) := by decide +kernel
theorem dX5_areUnlike_53 : decode cX5_areUnlike 53 = .ok (.goto 4, 3) := by decide +kernel
theorem dX5_areUnlike_56 : decode cX5_areUnlike 56 = .ok (.iconst 0, 1) := by decide +kernel
theorem dX5_areUnlike_57 : decode cX5_areUnlike 57 = .ok (.ireturn, 1) := by decide +kernel
set_option maxRecDepth 20000 in
theorem ggX5_isPath_X5_fails : GoodIn wsX5_isPath wsX5_fails := goodIn_r _ [7, 8, 9, 38, 39, 40, 41, 42, 43, 44, 45, 46, 47, 48, 49, 50, 51, 52, 53, 54, 55, 56, 57, 58, 59, 60, 61, 62, 63, 64, 65, 66, 67, 68, 69, 70, 71, 72, 73, 74, 75, 76, 77] (by decide +kernel) (by decide +kernel)
set_option maxRecDepth 20000 in
theorem gX5_isPath_X5_fails : GoodIn wsX5_isPath (wsV RX5 133 RX5 yX5_fails wsX5_fails) := goodIn_app (goodIn_of _ (by decide +kernel)) ggX5_isPath_X5_fails
set_option maxRecDepth 20000 in
theorem ggX5_isPath_X5_areUnlike : GoodIn wsX5_isPath wsX5_areUnlike := goodIn_r _ [13, 14, 15, 16, 17, 6, 18, 19, 20, 21, 22, 23, 24, 25, 26, 27, 28, 29, 8, 30, 31, 32, 33, 34, 35, 36, 37, 3, 4, 5, 7, 9, 38, 39, 40, 41, 42, 43, 44, 45, 46, 47, 48, 49, 50, 51, 52, 53, 54, 55, 56, 57, 58, 59, 60, 61, 62, 63, 64, 65, 66, 67, 68, 69, 70, 71, 72, 73, 74, 75, 76, 77] (by decide +kernel) (by decide +kernel)
set_option maxRecDepth 20000 in
theorem gX5_isPath_X5_areUnlike : GoodIn wsX5_isPath (wsV RX5 155 RX5 yX5_areUnlike wsX5_areUnlike) := goodIn_app (goodIn_of _ (by decide +kernel)) ggX5_isPath_X5_areUnlike
theorem dX5_isPath_0 : decode cX5_isPath 0 = .ok (.aload_n 0, 1) := by decide +kernel
theorem dX5_isPath_1 : decode cX5_isPath 1 = .ok (.getfield 149, 3) := by decide +kernel
theorem dX5_isPath_4 : decode cX5_isPath 4 = .ok (.bipush 6, 2) := by decide +kernel
theorem dX5_isPath_6 : decode cX5_isPath 6 = .ok (.if_icmp .ne 8, 3) := by decide +kernel
theorem dX5_isPath_9 : decode cX5_isPath 9 = .ok (.aload_n 0, 1) := by decide +kernel
theorem dX5_isPath_10 : decode cX5_isPath 10 = .ok (.invokevirtual 133, 3) := by decide +kernel
theorem dX5_isPath_13 : decode cX5_isPath 13 = .ok (.ireturn, 1) := by decide +kernel
theorem dX5_isPath_14 : decode cX5_isPath 14 = .ok (.aload_n 0, 1) := by decide +kernel
theorem dX5_isPath_15 : decode cX5_isPath 15 = .ok (.dup, 1) := by decide +kernel
theorem dX5_isPath_16 : decode cX5_isPath 16 = .ok (.getfield 149, 3) := by decide +kernel
theorem dX5_isPath_19 : decode cX5_isPath 19 = .ok (.iconst 1, 1) := by decide +kernel
theorem dX5_isPath_20 : decode cX5_isPath 20 = .ok (.iadd, 1) := by decide +kernel
theorem dX5_isPath_21 : decode cX5_isPath 21 = .ok (.putfield 149, 3) := by decide +kernel
theorem dX5_isPath_24 : decode cX5_isPath 24 = .ok (.aload_n 0, 1) := by decide +kernel
theorem dX5_isPath_25 : decode cX5_isPath 25 = .ok (.iload_n 1, 1) := by decide +kernel
theorem dX5_isPath_26 : decode cX5_isPath 26 = .ok (.aload_n 0, 1) := by decide +kernel
theorem dX5_isPath_27 : decode cX5_isPath 27 = .ok (.getfield 140, 3) := by decide +kernel
theorem dX5_isPath_30 : decode cX5_isPath 30 = .ok (.iconst 1, 1) := by decide +kernel
theorem dX5_isPath_31 : decode cX5_isPath 31 = .ok (.isub, 1) := by decide +kernel
theorem dX5_isPath_32 : decode cX5_isPath 32 = .ok (.invokevirtual 155, 3) := by decide +kernel
theorem dX5_isPath_35 : decode cX5_isPath 35 = .ok (.ireturn, 1) := by decide +kernel
set_option maxRecDepth 20000 in
theorem ggX5_isFeud_X5_fails : GoodIn wsX5_isFeud wsX5_fails := goodIn_r _ [7, 8, 9, 38, 39, 40, 41, 42, 43, 44, 45, 46, 47, 48, 49, 50, 51, 52, 53, 54, 55, 56, 57, 58, 59, 60, 61, 62, 63, 64, 65, 66, 67, 68, 69, 70, 71, 72, 73, 74, 75, 76, 77] (by decide +kernel) (by decide +kernel)
set_option maxRecDepth 20000 in
theorem gX5_isFeud_X5_fails : GoodIn wsX5_isFeud (wsV RX5 133 RX5 yX5_fails wsX5_fails) := goodIn_app (goodIn_of _ (by decide +kernel)) ggX5_isFeud_X5_fails
set_option maxRecDepth 20000 in
theorem ggX5_isFeud_X5_areUnlike : GoodIn wsX5_isFeud wsX5_areUnlike := goodIn_r _ [13, 14, 15, 16, 17, 6, 18, 19, 20, 21, 22, 23, 24, 25, 26, 27, 28, 29, 8, 30, 31, 32, 33, 34, 35, 36, 37, 3, 4, 5, 7, 9, 38, 39, 40, 41, 42, 43, 44, 45, 46, 47, 48, 49, 50, 51, 52, 53, 54, 55, 56, 57, 58, 59, 60, 61, 62, 63, 64, 65, 66, 67, 68, 69, 70, 71, 72, 73, 74, 75, 76, 77] (by decide +kernel) (by decide +kernel)
set_option maxRecDepth 20000 in
theorem gX5_isFeud_X5_areUnlike : GoodIn wsX5_isFeud (wsV RX5 155 RX5 yX5_areUnlike wsX5_areUnlike) := goodIn_app (goodIn_of _ (by decide +kernel)) ggX5_isFeud_X5_areUnlike
theorem dX5_isFeud_0 : decode cX5_isFeud 0 = .ok (.aload_n 0, 1) := by decide +kernel
theorem dX5_isFeud_1 : decode cX5_isFeud 1 = .ok (.getfield 152, 3) := by decide +kernel
theorem dX5_isFeud_4 : decode cX5_isFeud 4 = .ok (.bipush 6, 2) := by decide +kernel
theorem dX5_isFeud_6 : decode cX5_isFeud 6 = .ok (.if_icmp .ne 8, 3) := by decide +kernel
theorem dX5_isFeud_9 : decode cX5_isFeud 9 = .ok (.aload_n 0, 1) := by decide +kernel
theorem dX5_isFeud_10 : decode cX5_isFeud 10 = .ok (.invokevirtual 133, 3) := by decide +kernel
theorem dX5_isFeud_13 : decode cX5_isFeud 13 = .ok (.ireturn, 1) := by decide +kernel
theorem dX5_isFeud_14 : decode cX5_isFeud 14 = .ok (.aload_n 0, 1) := by decide +kernel
theorem dX5_isFeud_15 : decode cX5_isFeud 15 = .ok (.dup, 1) := by decide +kernel
theorem dX5_isFeud_16 : decode cX5_isFeud 16 = .ok (.getfield 152, 3) := by decide +kernel
theorem dX5_isFeud_19 : decode cX5_isFeud 19 = .ok (.iconst 1, 1) := by decide +kernel
theorem dX5_isFeud_20 : decode cX5_isFeud 20 = .ok (.iadd, 1) := by decide +kernel
theorem dX5_isFeud_21 : decode cX5_isFeud 21 = .ok (.putfield 152, 3) := by decide +kernel
theorem dX5_isFeud_24 : decode cX5_isFeud 24 = .ok (.aload_n 0, 1) := by decide +kernel
theorem dX5_isFeud_25 : decode cX5_isFeud 25 = .ok (.iload_n 1, 1) := by decide +kernel
theorem dX5_isFeud_26 : decode cX5_isFeud 26 = .ok (.aload_n 0, 1) := by decide +kernel
theorem dX5_isFeud_27 : decode cX5_isFeud 27 = .ok (.getfield 143, 3) := by decide +kernel
theorem dX5_isFeud_30 : decode cX5_isFeud 30 = .ok (.iconst 1, 1) := by decide +kernel
theorem dX5_isFeud_31 : decode cX5_isFeud 31 = .ok (.isub, 1) := by decide +kernel
theorem dX5_isFeud_32 : decode cX5_isFeud 32 = .ok (.invokevirtual 155, 3) := by decide +kernel
theorem dX5_isFeud_35 : decode cX5_isFeud 35 = .ok (.ireturn, 1) := by decide +kernel
set_option maxRecDepth 20000 in
theorem ggX5_isLine_X5_nextToken : GoodIn wsX5_isLine wsX5_nextToken := goodIn_r _ [24, 25, 26, 27, 28, 29, 30, 31, 1, 32, 33, 34, 35, 36, 37, 38, 23, 39, 70, 71, 72, 73, 74, 75, 76, 77, 78, 79, 80, 81, 82, 83, 84, 85, 86, 87, 88, 89, 90, 91, 92, 93, 94, 95, 96, 97, 98, 99, 100, 101, 102, 103, 104, 105, 106, 107, 108, 109] (by decide +kernel) (by decide +kernel)
set_option maxRecDepth 20000 in
theorem gX5_isLine_X5_nextToken : GoodIn wsX5_isLine (wsV RX5 130 RX5 yX5_nextToken wsX5_nextToken) := goodIn_app (goodIn_of _ (by decide +kernel)) ggX5_isLine_X5_nextToken
set_option maxRecDepth 20000 in
theorem ggX5_isLine_X5_isGreen : GoodIn wsX5_isLine wsX5_isGreen := goodIn_r _ [43, 15, 16, 17, 18, 44, 19, 45, 46, 47, 23, 48, 1, 35, 29, 30, 20, 21, 22, 24, 25, 26, 27, 28, 31, 32, 33, 34, 36, 37, 38, 39, 49, 50, 51, 52, 53, 70, 71, 72, 73, 74, 75, 76, 77, 78, 79, 80, 81, 82, 83, 84, 85, 86, 87, 88, 89, 90, 91, 92, 93, 94, 95, 96, 97, 98, 99, 100, 101, 102, 103, 104, 105, 106, 107, 108, 109] (by decide +kernel) (by decide +kernel)
set_option maxRecDepth 20000 in
theorem gX5_isLine_X5_isGreen : GoodIn wsX5_isLine (wsV RX5 185 RX5 yX5_isGreen wsX5_isGreen) := goodIn_app (goodIn_of _ (by decide +kernel)) ggX5_isLine_X5_isGreen
set_option maxRecDepth 20000 in
theorem ggX5_isLine_X5_isNumber : GoodIn wsX5_isLine wsX5_isNumber := goodIn_r _ [48, 1, 35, 29, 30, 15, 20, 21, 22, 23, 24, 25, 26, 27, 28, 31, 32, 33, 34, 36, 37, 38, 39, 49, 50, 51, 52, 53, 70, 71, 72, 73, 74, 75, 76, 77, 78, 79, 80, 81, 82, 83, 84, 85, 86, 87, 88, 89, 90, 91, 92, 93, 94, 95, 96, 97, 98, 99, 100, 101, 102, 103, 104, 105, 106, 107, 108, 109] (by decide +kernel) (by decide +kernel)
set_option maxRecDepth 20000 in
theorem gX5_isLine_X5_isNumber : GoodIn wsX5_isLine (wsV RX5 137 RX5 yX5_isNumber wsX5_isNumber) := goodIn_app (goodIn_of _ (by decide +kernel)) ggX5_isLine_X5_isNumber
set_option maxRecDepth 20000 in
theorem ggX5_isLine_X5_isHouseLine : GoodIn wsX5_isLine wsX5_isHouseLine := goodIn_r _ [57, 17, 16, 15, 18, 49, 50, 51, 23, 52, 28, 53, 45, 46, 47, 48, 1, 35, 29, 30, 20, 21, 22, 24, 25, 26, 27, 31, 32, 33, 34, 36, 37, 38, 39, 70, 71, 72, 73, 74, 75, 76, 77, 78, 79, 80, 81, 82, 83, 84, 85, 86, 87, 88, 89, 90, 91, 92, 93, 94, 95, 96, 97, 98, 99, 100, 101, 102, 103, 104, 105, 106, 107, 108, 109] (by decide +kernel) (by decide +kernel)
set_option maxRecDepth 20000 in
theorem gX5_isLine_X5_isHouseLine : GoodIn wsX5_isLine (wsV RX5 189 RX5 yX5_isHouseLine wsX5_isHouseLine) := goodIn_app (goodIn_of _ (by decide +kernel)) ggX5_isLine_X5_isHouseLine
set_option maxRecDepth 20000 in
theorem ggX5_isLine_X5_isPath : GoodIn wsX5_isLine wsX5_isPath := goodIn_r _ [61, 44, 16, 49, 50, 51, 23, 52, 28, 53, 62, 63, 64, 65, 15, 45, 46, 47, 48, 1, 35, 29, 30, 20, 21, 22, 24, 25, 26, 27, 31, 32, 33, 34, 36, 37, 38, 39, 70, 71, 72, 73, 74, 75, 76, 77, 78, 79, 80, 81, 82, 83, 84, 85, 86, 87, 88, 89, 90, 91, 92, 93, 94, 95, 96, 97, 98, 99, 100, 101, 102, 103, 104, 105, 106, 107, 108, 109] (by decide +kernel) (by decide +kernel)
set_option maxRecDepth 20000 in
theorem gX5_isLine_X5_isPath : GoodIn wsX5_isLine (wsV RX5 193 RX5 yX5_isPath wsX5_isPath) := goodIn_app (goodIn_of _ (by decide +kernel)) ggX5_isLine_X5_isPath
set_option maxRecDepth 20000 in
theorem ggX5_isLine_X5_isFeud : GoodIn wsX5_isLine wsX5_isFeud := goodIn_r _ [69, 19, 17, 49, 50, 51, 23, 52, 28, 53, 62, 63, 64, 65, 15, 45, 46, 47, 48, 1, 35, 29, 30, 20, 21, 22, 24, 25, 26, 27, 31, 32, 33, 34, 36, 37, 38, 39, 70, 71, 72, 73, 74, 75, 76, 77, 78, 79, 80, 81, 82, 83, 84, 85, 86, 87, 88, 89, 90, 91, 92, 93, 94, 95, 96, 97, 98, 99, 100, 101, 102, 103, 104, 105, 106, 107, 108, 109] (by decide +kernel) (by decide +kernel)
set_option maxRecDepth 20000 in
theorem gX5_isLine_X5_isFeud : GoodIn wsX5_isLine (wsV RX5 196 RX5 yX5_isFeud wsX5_isFeud) := goodIn_app (goodIn_of _ (by decide +kernel)) ggX5_isLine_X5_isFeud
set_option maxRecDepth 20000 in
theorem ggX5_isLine_X5_fails : GoodIn wsX5_isLine wsX5_fails := goodIn_r _ [52, 28, 53, 70, 71, 72, 73, 74, 75, 76, 77, 78, 79, 80, 81, 82, 83, 84, 85, 86, 87, 88, 89, 90, 91, 92, 93, 94, 95, 96, 97, 98, 99, 100, 101, 102, 103, 104, 105, 106, 107, 108, 109] (by decide +kernel) (by decide +kernel)
set_option maxRecDepth 20000 in
theorem gX5_isLine_X5_fails : GoodIn wsX5_isLine (wsV RX5 133 RX5 yX5_fails wsX5_fails) := goodIn_app (goodIn_of _ (by decide +kernel)) ggX5_isLine_X5_fails
theorem dX5_isLine_0 : decode cX5_isLine 0 = .ok (.aload_n 0, 1) := by decide +kernel
theorem dX5_isLine_1 : decode cX5_isLine 1 = .ok (.invokevirtual 130, 3) := by decide +kernel
theorem dX5_isLine_4 : decode cX5_isLine 4 = .ok (.aload_n 0, 1) := by decide +kernel
theorem dX5_isLine_5 : decode cX5_isLine 5 = .ok (.getfield 113, 3) := by decide +kernel
theorem dX5_isLine_8 : decode cX5_isLine 8 = .ok (.ldc2_w 159, 3) := by decide +kernel
theorem dX5_isLine_11 : decode cX5_isLine 11 = .ok (.lcmp, 1) := by decide +kernel
theorem dX5_isLine_12 : decode cX5_isLine 12 = .ok (.ifCond .ne 7, 3) := by decide +kernel
theorem dX5_isLine_15 : decode cX5_isLine 15 = .ok (.iconst 0, 1) := by decide +kernel
theorem dX5_isLine_16 : decode cX5_isLine 16 = .ok (.goto 95, 3) := by decide +kernel
theorem dX5_isLine_19 : decode cX5_isLine 19 = .ok (.aload_n 0, 1) := by decide +kernel
theorem dX5_isLine_20 : decode cX5_isLine 20 = .ok (.getfield 113, 3) := by decide +kernel
theorem dX5_isLine_23 : decode cX5_isLine 23 = .ok (.ldc2_w 161, 3) := by decide +kernel
theorem dX5_isLine_26 : decode cX5_isLine 26 = .ok (.lcmp, 1) := by decide +kernel
theorem dX5_isLine_27 : decode cX5_isLine 27 = .ok (.ifCond .ne 7, 3) := by decide +kernel
theorem dX5_isLine_30 : decode cX5_isLine 30 = .ok (.iconst 1, 1) := by decide +kernel
theorem dX5_isLine_31 : decode cX5_isLine 31 = .ok (.goto 80, 3) := by decide +kernel
theorem dX5_isLine_34 : decode cX5_isLine 34 = .ok (.aload_n 0, 1) := by decide +kernel
theorem dX5_isLine_35 : decode cX5_isLine 35 = .ok (.getfield 113, 3) := by decide +kernel
theorem dX5_isLine_38 : decode cX5_isLine 38 = .ok (.ldc2_w 163, 3) := by decide +kernel
theorem dX5_isLine_41 : decode cX5_isLine 41 = .ok (.lcmp, 1) := by decide +kernel
theorem dX5_isLine_42 : decode cX5_isLine 42 = .ok (.ifCond .ne 7, 3) := by decide +kernel
theorem dX5_isLine_45 : decode cX5_isLine 45 = .ok (.iconst 2, 1) := by decide +kernel
theorem dX5_isLine_46 : decode cX5_isLine 46 = .ok (.goto 65, 3) := by decide +kernel
theorem dX5_isLine_49 : decode cX5_isLine 49 = .ok (.aload_n 0, 1) := by decide +kernel
theorem dX5_isLine_50 : decode cX5_isLine 50 = .ok (.getfield 113, 3) := by decide +kernel
theorem dX5_isLine_53 : decode cX5_isLine 53 = .ok (.ldc2_w 165, 3) := by decide +kernel
theorem dX5_isLine_56 : decode cX5_isLine 56 = .ok (.lcmp, 1) := by decide +kernel
theorem dX5_isLine_57 : decode cX5_isLine 57 = .ok (.ifCond .ne 7, 3) := by decide +kernel
theorem dX5_isLine_60 : decode cX5_isLine 60 = .ok (.iconst 3, 1) := by decide +kernel
theorem dX5_isLine_61 : decode cX5_isLine 61 = .ok (.goto 50, 3) := by decide +kernel
theorem dX5_isLine_64 : decode cX5_isLine 64 = .ok (.aload_n 0, 1) := by decide +kernel
theorem dX5_isLine_65 : decode cX5_isLine 65 = .ok (.getfield 113, 3) := by decide +kernel
theorem dX5_isLine_68 : decode cX5_isLine 68 = .ok (.ldc2_w 167, 3) := by decide +kernel
theorem dX5_isLine_71 : decode cX5_isLine 71 = .ok (.lcmp, 1) := by decide +kernel
theorem dX5_isLine_72 : decode cX5_isLine 72 = .ok (.ifCond .ne 7, 3) := by decide +kernel
theorem dX5_isLine_75 : decode cX5_isLine 75 = .ok (.iconst 4, 1) := by decide +kernel
theorem dX5_isLine_76 : decode cX5_isLine 76 = .ok (.goto 35, 3) := by decide +kernel
theorem dX5_isLine_79 : decode cX5_isLine 79 = .ok (.aload_n 0, 1) := by decide +kernel
theorem dX5_isLine_80 : decode cX5_isLine 80 = .ok (.getfield 113, 3) := by decide +kernel
theorem dX5_isLine_83 : decode cX5_isLine 83 = .ok (.ldc2_w 169, 3) := by decide +kernel
theorem dX5_isLine_86 : decode cX5_isLine 86 = .ok (.lcmp, 1) := by decide +kernel
theorem dX5_isLine_87 : decode cX5_isLine 87 = .ok (.ifCond .ne 7, 3) := by decide +kernel
theorem dX5_isLine_90 : decode cX5_isLine 90 = .ok (.iconst 5, 1) := by decide +kernel
theorem dX5_isLine_91 : decode cX5_isLine 91 = .ok (.goto 20, 3) := by decide +kernel
theorem dX5_isLine_94 : decode cX5_isLine 94 = .ok (.aload_n 0, 1) := by decide +kernel
theorem dX5_isLine_95 : decode cX5_isLine 95 = .ok (.getfield 113, 3) := by decide +kernel
theorem dX5_isLine_98 : decode cX5_isLine 98 = .ok (.ldc2_w 171, 3) := by decide +kernel
theorem dX5_isLine_101 : decode cX5_isLine 101 = .ok (.lcmp, 1) := by decide +kernel
theorem dX5_isLine_102 : decode cX5_isLine 102 = .ok (.ifCond .ne 8, 3) := by decide +kernel
theorem dX5_isLine_105 : decode cX5_isLine 105 = .ok (.bipush 6, 2) := by decide +kernel
theorem dX5_isLine_107 : decode cX5_isLine 107 = .ok (.goto 4, 3) := by decide +kernel
theorem dX5_isLine_110 : decode cX5_isLine 110 = .ok (.iconst (-1), 1) := by decide +kernel
theorem dX5_isLine_111 : decode cX5_isLine 111 = .ok (.istore_n 2, 1) := by decide +kernel
theorem dX5_isLine_112 : decode cX5_isLine 112 = .ok (.aload_n 0, 1) := by decide +kernel
theorem dX5_isLine_113 : decode cX5_isLine 113 = .ok (.getfield 113, 3) := by decide +kernel
theorem dX5_isLine_116 : decode cX5_isLine 116 = .ok (.ldc2_w 173, 3) := by decide +kernel
theorem dX5_isLine_119 : decode cX5_isLine 119 = .ok (.lcmp, 1) := by decide +kernel
theorem dX5_isLine_120 : decode cX5_isLine 120 = .ok (.ifCond .ne 8, 3) := by decide +kernel
theorem dX5_isLine_123 : decode cX5_isLine 123 = .ok (.bipush 7, 2) := by decide +kernel
theorem dX5_isLine_125 : decode cX5_isLine 125 = .ok (.goto 84, 3) := by decide +kernel
theorem dX5_isLine_128 : decode cX5_isLine 128 = .ok (.aload_n 0, 1) := by decide +kernel
theorem dX5_isLine_129 : decode cX5_isLine 129 = .ok (.getfield 113, 3) := by decide +kernel
theorem dX5_isLine_132 : decode cX5_isLine 132 = .ok (.ldc2_w 175, 3) := by decide +kernel
theorem dX5_isLine_135 : decode cX5_isLine 135 = .ok (.lcmp, 1) := by decide +kernel
theorem dX5_isLine_136 : decode cX5_isLine 136 = .ok (.ifCond .ne 8, 3) := by decide +kernel
theorem dX5_isLine_139 : decode cX5_isLine 139 = .ok (.bipush 8, 2) := by decide +kernel
theorem dX5_isLine_141 : decode cX5_isLine 141 = .ok (.goto 68, 3) := by decide +kernel
theorem dX5_isLine_144 : decode cX5_isLine 144 = .ok (.aload_n 0, 1) := by decide +kernel
theorem dX5_isLine_145 : decode cX5_isLine 145 = .ok (.getfield 113, 3) := by decide +kernel
theorem dX5_isLine_148 : decode cX5_isLine 148 = .ok (.ldc2_w 177, 3) := by decide +kernel
theorem dX5_isLine_151 : decode cX5_isLine 151 = .ok (.lcmp, 1) := by decide +kernel
theorem dX5_isLine_152 : decode cX5_isLine 152 = .ok (.ifCond .ne 8, 3) := by decide +kernel
theorem dX5_isLine_155 : decode cX5_isLine 155 = .ok (.bipush 9, 2) := by decide +kernel
theorem dX5_isLine_157 : decode cX5_isLine 157 = .ok (.goto 52, 3) := by decide +kernel
theorem dX5_isLine_160 : decode cX5_isLine 160 = .ok (.aload_n 0, 1) := by decide +kernel
theorem dX5_isLine_161 : decode cX5_isLine 161 = .ok (.getfield 113, 3) := by decide +kernel
theorem dX5_isLine_164 : decode cX5_isLine 164 = .ok (.ldc2_w 179, 3) := by decide +kernel
theorem dX5_isLine_167 : decode cX5_isLine 167 = .ok (.lcmp, 1) := by decide +kernel
theorem dX5_isLine_168 : decode cX5_isLine 168 = .ok (.ifCond .ne 8, 3) := by decide +kernel
theorem dX5_isLine_171 : decode cX5_isLine 171 = .ok (.bipush 10, 2) := by decide +kernel
theorem dX5_isLine_173 : decode cX5_isLine 173 = .ok (.goto 36, 3) := by decide +kernel
theorem dX5_isLine_176 : decode cX5_isLine 176 = .ok (.aload_n 0, 1) := by decide +kernel
theorem dX5_isLine_177 : decode cX5_isLine 177 = .ok (.getfield 113, 3) := by decide +kernel
theorem dX5_isLine_180 : decode cX5_isLine 180 = .ok (.ldc2_w 181, 3) := by decide +kernel
theorem dX5_isLine_183 : decode cX5_isLine 183 = .ok (.lcmp, 1) := by decide +kernel
theorem dX5_isLine_184 : decode cX5_isLine 184 = .ok (.ifCond .ne 8, 3) := by decide +kernel
theorem dX5_isLine_187 : decode cX5_isLine 187 = .ok (.bipush 11, 2) := by decide +kernel
theorem dX5_isLine_189 : decode cX5_isLine 189 = .ok (.goto 20, 3) := by decide +kernel
theorem dX5_isLine_192 : decode cX5_isLine 192 = .ok (.aload_n 0, 1) := by decide +kernel
theorem dX5_isLine_193 : decode cX5_isLine 193 = .ok (.getfield 113, 3) := by decide +kernel
theorem dX5_isLine_196 : decode cX5_isLine 196 = .ok (.ldc2_w 183, 3) := by decide +kernel
theorem dX5_isLine_199 : decode cX5_isLine 199 = .ok (.lcmp, 1) := by decide +kernel
theorem dX5_isLine_200 : decode cX5_isLine 200 = .ok (.ifCond .ne 8, 3) := by decide +kernel
theorem dX5_isLine_203 : decode cX5_isLine 203 = .ok (.bipush 12, 2) := by decide +kernel
theorem dX5_isLine_205 : decode cX5_isLine 205 = .ok (.goto 4, 3) := by decide +kernel
theorem dX5_isLine_208 : decode cX5_isLine 208 = .ok (.iconst (-1), 1) := by decide +kernel
theorem dX5_isLine_209 : decode cX5_isLine 209 = .ok (.istore_n 3, 1) := by decide +kernel
theorem dX5_isLine_210 : decode cX5_isLine 210 = .ok (.aload_n 0, 1) := by decide +kernel
theorem dX5_isLine_211 : decode cX5_isLine 211 = .ok (.getfield 35, 3) := by decide +kernel
theorem dX5_isLine_214 : decode cX5_isLine 214 = .ok (.iload_n 1, 1) := by decide +kernel
theorem dX5_isLine_215 : decode cX5_isLine 215 = .ok (.iload_n 2, 1) := by decide +kernel
theorem dX5_isLine_216 : decode cX5_isLine 216 = .ok (.iconst (-1), 1) := by decide +kernel
theorem dX5_isLine_217 : decode cX5_isLine 217 = .ok (.if_icmp .ne 7, 3) := by decide +kernel
theorem dX5_isLine_220 : decode cX5_isLine 220 = .ok (.iload_n 3, 1) := by decide +kernel
theorem dX5_isLine_221 : decode cX5_isLine 221 = .ok (.goto 4, 3) := by decide +kernel
theorem dX5_isLine_224 : decode cX5_isLine 224 = .ok (.iload_n 2, 1) := by decide +kernel
theorem dX5_isLine_225 : decode cX5_isLine 225 = .ok (.iastore, 1) := by decide +kernel
theorem dX5_isLine_226 : decode cX5_isLine 226 = .ok (.aload_n 0, 1) := by decide +kernel
theorem dX5_isLine_227 : decode cX5_isLine 227 = .ok (.getfield 35, 3) := by decide +kernel
theorem dX5_isLine_230 : decode cX5_isLine 230 = .ok (.iload_n 1, 1) := by decide +kernel
theorem dX5_isLine_231 : decode cX5_isLine 231 = .ok (.iaload, 1) := by decide +kernel
theorem dX5_isLine_232 : decode cX5_isLine 232 = .ok (.tableswitch 174 0 12 #[68, 74, 110, 110, 110, 110, 131, 137, 143, 143, 143, 145, 157], 68) := by decide +kernel
theorem dX5_isLine_300 : decode cX5_isLine 300 = .ok (.aload_n 0, 1) := by decide +kernel
theorem dX5_isLine_301 : decode cX5_isLine 301 = .ok (.iload_n 1, 1) := by decide +kernel
theorem dX5_isLine_302 : decode cX5_isLine 302 = .ok (.invokevirtual 185, 3) := by decide +kernel
theorem dX5_isLine_305 : decode cX5_isLine 305 = .ok (.ireturn, 1) := by decide +kernel
theorem dX5_isLine_306 : decode cX5_isLine 306 = .ok (.aload_n 0, 1) := by decide +kernel
theorem dX5_isLine_307 : decode cX5_isLine 307 = .ok (.iload_n 1, 1) := by decide +kernel
theorem dX5_isLine_308 : decode cX5_isLine 308 = .ok (.iconst 1, 1) := by decide +kernel
theorem dX5_isLine_309 : decode cX5_isLine 309 = .ok (.iadd, 1) := by decide +kernel
theorem dX5_isLine_310 : decode cX5_isLine 310 = .ok (.iconst 0, 1) := by decide +kernel
theorem dX5_isLine_311 : decode cX5_isLine 311 = .ok (.aload_n 0, 1) := by decide +kernel
theorem dX5_isLine_312 : decode cX5_isLine 312 = .ok (.getfield 140, 3) := by decide +kernel
theorem dX5_isLine_315 : decode cX5_isLine 315 = .ok (.iconst 1, 1) := by decide +kernel
theorem dX5_isLine_316 : decode cX5_isLine 316 = .ok (.isub, 1) := by decide +kernel
theorem dX5_isLine_317 : decode cX5_isLine 317 = .ok (.invokevirtual 137, 3) := by decide +kernel
theorem dX5_isLine_320 : decode cX5_isLine 320 = .ok (.ifCond .eq 20, 3) := by decide +kernel
theorem dX5_isLine_323 : decode cX5_isLine 323 = .ok (.aload_n 0, 1) := by decide +kernel
theorem dX5_isLine_324 : decode cX5_isLine 324 = .ok (.iload_n 1, 1) := by decide +kernel
theorem dX5_isLine_325 : decode cX5_isLine 325 = .ok (.iconst 2, 1) := by decide +kernel
theorem dX5_isLine_326 : decode cX5_isLine 326 = .ok (.iadd, 1) := by decide +kernel
theorem dX5_isLine_327 : decode cX5_isLine 327 = .ok (.iconst 0, 1) := by decide +kernel
theorem dX5_isLine_328 : decode cX5_isLine 328 = .ok (.bipush 9, 2) := by decide +kernel
theorem dX5_isLine_330 : decode cX5_isLine 330 = .ok (.invokevirtual 137, 3) := by decide +kernel
theorem dX5_isLine_333 : decode cX5_isLine 333 = .ok (.ifCond .eq 7, 3) := by decide +kernel
theorem dX5_isLine_336 : decode cX5_isLine 336 = .ok (.iconst 1, 1) := by decide +kernel
theorem dX5_isLine_337 : decode cX5_isLine 337 = .ok (.goto 4, 3) := by decide +kernel
theorem dX5_isLine_340 : decode cX5_isLine 340 = .ok (.iconst 0, 1) := by decide +kernel
theorem dX5_isLine_341 : decode cX5_isLine 341 = .ok (.ireturn, 1) := by decide +kernel
theorem dX5_isLine_342 : decode cX5_isLine 342 = .ok (.aload_n 0, 1) := by decide +kernel
theorem dX5_isLine_343 : decode cX5_isLine 343 = .ok (.iload_n 1, 1) := by decide +kernel
theorem dX5_isLine_344 : decode cX5_isLine 344 = .ok (.aload_n 0, 1) := by decide +kernel
theorem dX5_isLine_345 : decode cX5_isLine 345 = .ok (.getfield 35, 3) := by decide +kernel
theorem dX5_isLine_348 : decode cX5_isLine 348 = .ok (.iload_n 1, 1) := by decide +kernel
theorem dX5_isLine_349 : decode cX5_isLine 349 = .ok (.iaload, 1) := by decide +kernel
theorem dX5_isLine_350 : decode cX5_isLine 350 = .ok (.iconst 5, 1) := by decide +kernel
theorem dX5_isLine_351 : decode cX5_isLine 351 = .ok (.if_icmp .ne 7, 3) := by decide +kernel
theorem dX5_isLine_354 : decode cX5_isLine 354 = .ok (.iconst 1, 1) := by decide +kernel
theorem dX5_isLine_355 : decode cX5_isLine 355 = .ok (.goto 4, 3) := by decide +kernel
theorem dX5_isLine_358 : decode cX5_isLine 358 = .ok (.iconst 0, 1) := by decide +kernel
theorem dX5_isLine_359 : decode cX5_isLine 359 = .ok (.invokevirtual 189, 3) := by decide +kernel
theorem dX5_isLine_362 : decode cX5_isLine 362 = .ok (.ireturn, 1) := by decide +kernel
theorem dX5_isLine_363 : decode cX5_isLine 363 = .ok (.aload_n 0, 1) := by decide +kernel
theorem dX5_isLine_364 : decode cX5_isLine 364 = .ok (.iload_n 1, 1) := by decide +kernel
theorem dX5_isLine_365 : decode cX5_isLine 365 = .ok (.invokevirtual 193, 3) := by decide +kernel
theorem dX5_isLine_368 : decode cX5_isLine 368 = .ok (.ireturn, 1) := by decide +kernel
theorem dX5_isLine_369 : decode cX5_isLine 369 = .ok (.aload_n 0, 1) := by decide +kernel
theorem dX5_isLine_370 : decode cX5_isLine 370 = .ok (.iload_n 1, 1) := by decide +kernel
theorem dX5_isLine_371 : decode cX5_isLine 371 = .ok (.invokevirtual 196, 3) := by decide +kernel
theorem dX5_isLine_374 : decode cX5_isLine 374 = .ok (.ireturn, 1) := by decide +kernel
theorem dX5_isLine_375 : decode cX5_isLine 375 = .ok (.iconst 1, 1) := by decide +kernel
theorem dX5_isLine_376 : decode cX5_isLine 376 = .ok (.ireturn, 1) := by decide +kernel
theorem dX5_isLine_377 : decode cX5_isLine 377 = .ok (.aload_n 0, 1) := by decide +kernel
theorem dX5_isLine_378 : decode cX5_isLine 378 = .ok (.iload_n 1, 1) := by decide +kernel
theorem dX5_isLine_379 : decode cX5_isLine 379 = .ok (.iconst 1, 1) := by decide +kernel
theorem dX5_isLine_380 : decode cX5_isLine 380 = .ok (.iadd, 1) := by decide +kernel
theorem dX5_isLine_381 : decode cX5_isLine 381 = .ok (.iconst 1, 1) := by decide +kernel
theorem dX5_isLine_382 : decode cX5_isLine 382 = .ok (.sipush 9999, 3) := by decide +kernel
theorem dX5_isLine_385 : decode cX5_isLine 385 = .ok (.invokevirtual 137, 3) := by decide +kernel
theorem dX5_isLine_388 : decode cX5_isLine 388 = .ok (.ireturn, 1) := by decide +kernel
theorem dX5_isLine_389 : decode cX5_isLine 389 = .ok (.aload_n 0, 1) := by decide +kernel
theorem dX5_isLine_390 : decode cX5_isLine 390 = .ok (.iconst 0, 1) := by decide +kernel
theorem dX5_isLine_391 : decode cX5_isLine 391 = .ok (.putfield 143, 3) := by decide +kernel
theorem dX5_isLine_394 : decode cX5_isLine 394 = .ok (.aload_n 0, 1) := by decide +kernel
theorem dX5_isLine_395 : decode cX5_isLine 395 = .ok (.iconst 0, 1) := by decide +kernel
theorem dX5_isLine_396 : decode cX5_isLine 396 = .ok (.putfield 146, 3) := by decide +kernel
theorem dX5_isLine_399 : decode cX5_isLine 399 = .ok (.aload_n 0, 1) := by decide +kernel
theorem dX5_isLine_400 : decode cX5_isLine 400 = .ok (.iconst 0, 1) := by decide +kernel
theorem dX5_isLine_401 : decode cX5_isLine 401 = .ok (.putfield 152, 3) := by decide +kernel
theorem dX5_isLine_404 : decode cX5_isLine 404 = .ok (.iconst 1, 1) := by decide +kernel
theorem dX5_isLine_405 : decode cX5_isLine 405 = .ok (.ireturn, 1) := by decide +kernel
theorem dX5_isLine_406 : decode cX5_isLine 406 = .ok (.aload_n 0, 1) := by decide +kernel
theorem dX5_isLine_407 : decode cX5_isLine 407 = .ok (.invokevirtual 133, 3) := by decide +kernel
theorem dX5_isLine_410 : decode cX5_isLine 410 = .ok (.ireturn, 1) := by decide +kernel
set_option maxRecDepth 20000 in
theorem ggX5_isRead_X5_isLine : GoodIn wsX5_isRead wsX5_isLine := goodIn_r _ [21, 14, 22, 23, 24, 25, 26, 27, 28, 29, 30, 31, 32, 33, 34, 35, 4, 6, 11, 10, 36, 37, 38, 20, 39, 1, 40, 41, 42, 43, 44, 16, 45, 46, 47, 48, 15, 49, 50, 51, 52, 53, 54, 55, 8, 56, 57, 58, 59, 60, 61, 62, 63, 64, 65, 66, 67, 68, 69, 70, 71, 72, 73, 74, 75, 76, 77, 78, 79, 80, 81, 82, 83, 84, 85, 86, 87, 88, 89, 90, 91, 92, 93, 94, 95, 96, 97, 98, 99, 100, 101, 102, 103, 104, 105, 106, 107, 108, 109, 110, 111, 112, 113, 114, 115, 116, 117, 118, 119, 120] (by decide +kernel) (by decide +kernel)
set_option maxRecDepth 20000 in
theorem gX5_isRead_X5_isLine : GoodIn wsX5_isRead (wsV RX5 202 RX5 yX5_isLine wsX5_isLine) := goodIn_app (goodIn_of _ (by decide +kernel)) ggX5_isRead_X5_isLine
set_option maxRecDepth 20000 in
theorem ggX5_isRead_X5_nextToken : GoodIn wsX5_isRead wsX5_nextToken := goodIn_r _ [39, 1, 40, 41, 42, 43, 44, 16, 14, 45, 46, 47, 48, 15, 49, 50, 20, 51, 81, 82, 83, 84, 85, 86, 87, 88, 89, 90, 91, 92, 93, 94, 95, 96, 97, 98, 99, 100, 101, 102, 103, 104, 105, 106, 107, 108, 109, 110, 111, 112, 113, 114, 115, 116, 117, 118, 119, 120] (by decide +kernel) (by decide +kernel)
set_option maxRecDepth 20000 in
theorem gX5_isRead_X5_nextToken : GoodIn wsX5_isRead (wsV RX5 130 RX5 yX5_nextToken wsX5_nextToken) := goodIn_app (goodIn_of _ (by decide +kernel)) ggX5_isRead_X5_nextToken
set_option maxRecDepth 20000 in
theorem ggX5_isRead_X5_fails : GoodIn wsX5_isRead wsX5_fails := goodIn_r _ [63, 42, 64, 81, 82, 83, 84, 85, 86, 87, 88, 89, 90, 91, 92, 93, 94, 95, 96, 97, 98, 99, 100, 101, 102, 103, 104, 105, 106, 107, 108, 109, 110, 111, 112, 113, 114, 115, 116, 117, 118, 119, 120] (by decide +kernel) (by decide +kernel)
set_option maxRecDepth 20000 in
theorem gX5_isRead_X5_fails : GoodIn wsX5_isRead (wsV RX5 133 RX5 yX5_fails wsX5_fails) := goodIn_app (goodIn_of _ (by decide +kernel)) ggX5_isRead_X5_fails
theorem dX5_isRead_0 : decode cX5_isRead 0 = .ok (.aload_n 0, 1) := by decide +kernel
theorem dX5_isRead_1 : decode cX5_isRead 1 = .ok (.iconst 0, 1) := by decide +kernel
theorem dX5_isRead_2 : decode cX5_isRead 2 = .ok (.putfield 99, 3) := by decide +kernel
theorem dX5_isRead_5 : decode cX5_isRead 5 = .ok (.aload_n 0, 1) := by decide +kernel
theorem dX5_isRead_6 : decode cX5_isRead 6 = .ok (.iconst 0, 1) := by decide +kernel
theorem dX5_isRead_7 : decode cX5_isRead 7 = .ok (.putfield 199, 3) := by decide +kernel
theorem dX5_isRead_10 : decode cX5_isRead 10 = .ok (.aload_n 0, 1) := by decide +kernel
theorem dX5_isRead_11 : decode cX5_isRead 11 = .ok (.aload_n 0, 1) := by decide +kernel
theorem dX5_isRead_12 : decode cX5_isRead 12 = .ok (.getfield 7, 3) := by decide +kernel
theorem dX5_isRead_15 : decode cX5_isRead 15 = .ok (.putfield 140, 3) := by decide +kernel
theorem dX5_isRead_18 : decode cX5_isRead 18 = .ok (.aload_n 0, 1) := by decide +kernel
theorem dX5_isRead_19 : decode cX5_isRead 19 = .ok (.aload_n 0, 1) := by decide +kernel
theorem dX5_isRead_20 : decode cX5_isRead 20 = .ok (.getfield 78, 3) := by decide +kernel
theorem dX5_isRead_23 : decode cX5_isRead 23 = .ok (.putfield 143, 3) := by decide +kernel
theorem dX5_isRead_26 : decode cX5_isRead 26 = .ok (.aload_n 0, 1) := by decide +kernel
theorem dX5_isRead_27 : decode cX5_isRead 27 = .ok (.aload_n 0, 1) := by decide +kernel
theorem dX5_isRead_28 : decode cX5_isRead 28 = .ok (.getfield 85, 3) := by decide +kernel
theorem dX5_isRead_31 : decode cX5_isRead 31 = .ok (.putfield 149, 3) := by decide +kernel
