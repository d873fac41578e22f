set_option maxRecDepth 100000 in
set_option maxHeartbeats 4000000 in
theorem ggX4_when_X4_firstMeeting : GoodIn wsX4_when wsX4_firstMeeting := goodIn_r _ [33, 1, 12, 34, 35, 36, 37, 17, 38, 39, 40, 41, 42, 43, 44, 45, 46, 47, 48, 19, 49, 50, 51, 52, 53, 54, 55, 56, 57, 58, 59, 60, 61, 62, 63, 64, 65, 66, 67, 68, 69, 70, 71, 72, 73, 74, 75, 76, 77, 78, 79, 27, 26, 80, 81, 82, 83, 84, 85, 86, 87, 88, 89, 29, 90, 91, 92, 93, 94, 95, 96, 97, 98, 25, 99, 100, 101, 102, 103, 104, 105, 106, 107, 108, 109, 110, 111, 112, 113, 24, 114, 115, 116, 117, 28, 118, 119, 120, 121, 122, 123, 124, 125, 126, 127, 128, 129, 130, 131, 132, 133, 134, 135, 136, 137, 138, 139, 140, 141, 142, 143, 144, 145, 146, 147, 148, 149, 150, 151, 152, 153, 154, 155, 156, 157, 158, 159, 160, 161, 162, 163] rfl (by decide +kernel)
set_option maxRecDepth 20000 in
theorem gX4_when_X4_firstMeeting : GoodIn wsX4_when (wsV RX4 162 RX4 yX4_firstMeeting wsX4_firstMeeting) := goodIn_app (goodIn_of _ (by decide +kernel)) ggX4_when_X4_firstMeeting
set_option maxRecDepth 100000 in
set_option maxHeartbeats 4000000 in
theorem ggX4_often_X4_refusePair : GoodIn wsX4_often wsX4_refusePair := goodIn_r _ [9, 10, 11, 12, 8, 13, 3, 14, 126, 127, 128, 129, 130, 131, 132, 133, 134, 135, 136, 137, 138, 139, 140, 141, 142, 143, 144, 145, 146, 147, 148, 149, 150, 151, 152, 153] rfl (by decide +kernel)
set_option maxRecDepth 20000 in
theorem gX4_often_X4_refusePair : GoodIn wsX4_often (wsV RX4 154 RX4 yX4_refusePair wsX4_refusePair) := goodIn_app (goodIn_of _ (by decide +kernel)) ggX4_often_X4_refusePair
set_option maxRecDepth 100000 in
set_option maxHeartbeats 4000000 in
theorem ggX4_often_X4_areDays : GoodIn wsX4_often wsX4_areDays := goodIn_r _ [17] rfl (by decide +kernel)
set_option maxRecDepth 20000 in
theorem gX4_often_X4_areDays : GoodIn wsX4_often (va_wsS RX4 166 yX4_areDays wsX4_areDays) := goodIn_app (goodIn_of _ (by decide +kernel)) ggX4_often_X4_areDays
set_option maxRecDepth 100000 in
set_option maxHeartbeats 4000000 in
theorem ggX4_often_X1_copyFrom : GoodIn wsX4_often wsX1_copyFrom := goodIn_r _ [22, 23, 24, 25, 26, 27, 28, 29, 30, 31, 32, 33, 154, 155, 156, 157, 158, 159, 160, 161, 162] rfl (by decide +kernel)
set_option maxRecDepth 20000 in
theorem gX4_often_X1_copyFrom : GoodIn wsX4_often (wsV RX4 144 RX1 yX1_copyFrom wsX1_copyFrom) := goodIn_app (goodIn_of _ (by decide +kernel)) ggX4_often_X1_copyFrom
set_option maxRecDepth 100000 in
set_option maxHeartbeats 4000000 in
theorem ggX4_often_X1_meets : GoodIn wsX4_often wsX1_meets := goodIn_r _ [37, 38, 39, 40, 21, 41, 42, 43, 44, 45, 46, 47, 23, 48, 49, 50, 51, 52, 53, 54, 55, 56, 57, 58, 59, 60, 61, 62, 63, 64, 65, 66, 67, 68, 69, 70, 71, 72, 73, 74, 154, 155, 156, 157, 158, 159, 160, 161, 162, 140, 141, 142, 143, 144, 145, 146, 147, 148, 149, 150, 151, 152, 153] rfl (by decide +kernel)
set_option maxRecDepth 20000 in
theorem gX4_often_X1_meets : GoodIn wsX4_often (wsV RX4 158 RX1 yX1_meets wsX1_meets) := goodIn_app (goodIn_of _ (by decide +kernel)) ggX4_often_X1_meets
set_option maxRecDepth 100000 in
set_option maxHeartbeats 4000000 in
theorem ggX4_often_X1_passNight : GoodIn wsX4_often wsX1_passNight := goodIn_r _ [78, 31, 30, 79, 80, 81, 21, 82, 42, 83, 84, 85, 86, 87, 88, 47, 33, 23, 89, 54, 55, 51, 56, 57, 90, 91, 92, 93, 94, 95, 96, 97, 29, 98, 99, 100, 101, 102, 103, 104, 105, 106, 107, 108, 109, 110, 111, 112, 28, 113, 114, 115, 116, 32, 117, 118, 119, 120, 121, 122, 123, 124, 125, 48, 49, 50, 52, 53, 154, 155, 156, 157, 158, 159, 160, 161, 162, 140, 141, 142, 143, 144, 145, 146, 147, 148, 149, 150, 151, 152, 153] rfl (by decide +kernel)
set_option maxRecDepth 20000 in
theorem gX4_often_X1_passNight : GoodIn wsX4_often (wsV RX4 133 RX1 yX1_passNight wsX1_passNight) := goodIn_app (goodIn_of _ (by decide +kernel)) ggX4_often_X1_passNight
set_option maxRecDepth 100000 in
set_option maxHeartbeats 4000000 in
theorem ggX4_brings_X4_isHouse : GoodIn wsX4_brings wsX4_isHouse := goodIn_r _ [9, 3, 10, 98, 99, 100, 101, 102, 103, 104, 105, 106, 107, 108, 109, 110, 111, 112, 113, 114, 115, 116, 117, 118, 119, 120, 121, 122, 123, 124, 125] rfl (by decide +kernel)
set_option maxRecDepth 20000 in
theorem gX4_brings_X4_isHouse : GoodIn wsX4_brings (wsV RX4 107 RX4 yX4_isHouse wsX4_isHouse) := goodIn_app (goodIn_of _ (by decide +kernel)) ggX4_brings_X4_isHouse
set_option maxRecDepth 100000 in
set_option maxHeartbeats 4000000 in
theorem ggX4_brings_X4_areDays : GoodIn wsX4_brings wsX4_areDays := goodIn_r _ [13] rfl (by decide +kernel)
set_option maxRecDepth 20000 in
theorem gX4_brings_X4_areDays : GoodIn wsX4_brings (va_wsS RX4 166 yX4_areDays wsX4_areDays) := goodIn_app (goodIn_of _ (by decide +kernel)) ggX4_brings_X4_areDays
set_option maxRecDepth 100000 in
set_option maxHeartbeats 4000000 in
theorem ggX4_brings_X1_copyFrom : GoodIn wsX4_brings wsX1_copyFrom := goodIn_r _ [18, 19, 20, 21, 22, 23, 24, 25, 26, 27, 28, 29, 126, 127, 128, 129, 130, 131, 132, 133, 134] rfl (by decide +kernel)
set_option maxRecDepth 20000 in
theorem gX4_brings_X1_copyFrom : GoodIn wsX4_brings (wsV RX4 144 RX1 yX1_copyFrom wsX1_copyFrom) := goodIn_app (goodIn_of _ (by decide +kernel)) ggX4_brings_X1_copyFrom
set_option maxRecDepth 100000 in
set_option maxHeartbeats 4000000 in
theorem ggX4_brings_X1_cropUnder : GoodIn wsX4_brings wsX1_cropUnder := goodIn_r _ [33, 34, 35, 19, 36, 37, 38, 39, 40, 41, 42, 126, 127, 128, 129, 130, 131, 132, 133, 134, 112, 113, 114, 115, 116, 117, 118, 119, 120, 121, 122, 123, 124, 125] rfl (by decide +kernel)
set_option maxRecDepth 20000 in
theorem gX4_brings_X1_cropUnder : GoodIn wsX4_brings (wsV RX4 169 RX1 yX1_cropUnder wsX1_cropUnder) := goodIn_app (goodIn_of _ (by decide +kernel)) ggX4_brings_X1_cropUnder
set_option maxRecDepth 100000 in
set_option maxHeartbeats 4000000 in
theorem ggX4_brings_X1_passNight : GoodIn wsX4_brings wsX1_passNight := goodIn_r _ [46, 27, 26, 47, 48, 49, 17, 50, 34, 51, 52, 53, 54, 55, 56, 36, 29, 19, 37, 38, 39, 40, 41, 42, 57, 58, 59, 60, 61, 62, 63, 64, 25, 65, 66, 67, 68, 69, 70, 71, 72, 73, 74, 75, 76, 77, 78, 79, 24, 80, 81, 82, 83, 28, 84, 85, 86, 87, 88, 89, 90, 91, 92, 93, 94, 95, 96, 97, 126, 127, 128, 129, 130, 131, 132, 133, 134, 112, 113, 114, 115, 116, 117, 118, 119, 120, 121, 122, 123, 124, 125] rfl (by decide +kernel)
set_option maxRecDepth 20000 in
theorem gX4_brings_X1_passNight : GoodIn wsX4_brings (wsV RX4 133 RX1 yX1_passNight wsX1_passNight) := goodIn_app (goodIn_of _ (by decide +kernel)) ggX4_brings_X1_passNight
set_option maxRecDepth 100000 in
set_option maxHeartbeats 4000000 in
theorem ggX4_feuding_X4_areDays : GoodIn wsX4_feuding wsX4_areDays := goodIn_r _ [8] rfl (by decide +kernel)
set_option maxRecDepth 20000 in
theorem gX4_feuding_X4_areDays : GoodIn wsX4_feuding (va_wsS RX4 166 yX4_areDays wsX4_areDays) := goodIn_app (goodIn_of _ (by decide +kernel)) ggX4_feuding_X4_areDays
set_option maxRecDepth 100000 in
set_option maxHeartbeats 4000000 in
theorem ggX4_feuding_X1_copyFrom : GoodIn wsX4_feuding wsX1_copyFrom := goodIn_r _ [13, 14, 15, 16, 17, 18, 19, 20, 21, 22, 23, 24, 139, 140, 141, 142, 143, 144, 145, 146, 147] rfl (by decide +kernel)
set_option maxRecDepth 20000 in
theorem gX4_feuding_X1_copyFrom : GoodIn wsX4_feuding (wsV RX4 144 RX1 yX1_copyFrom wsX1_copyFrom) := goodIn_app (goodIn_of _ (by decide +kernel)) ggX4_feuding_X1_copyFrom
set_option maxRecDepth 100000 in
set_option maxHeartbeats 4000000 in
theorem ggX4_feuding_X1_hasFeudBeside : GoodIn wsX4_feuding wsX1_hasFeudBeside := goodIn_r _ [28, 29, 30, 31, 32, 33, 34, 35, 12, 36, 37, 38, 39, 40, 41, 14, 42, 43, 44, 45, 46, 47, 48, 49, 50, 51, 52, 53, 54, 55, 56, 57, 58, 59, 139, 140, 141, 142, 143, 144, 145, 146, 147, 125, 126, 127, 128, 129, 130, 131, 132, 133, 134, 135, 136, 137, 138] rfl (by decide +kernel)
set_option maxRecDepth 20000 in
theorem gX4_feuding_X1_hasFeudBeside : GoodIn wsX4_feuding (wsV RX4 172 RX1 yX1_hasFeudBeside wsX1_hasFeudBeside) := goodIn_app (goodIn_of _ (by decide +kernel)) ggX4_feuding_X1_hasFeudBeside
set_option maxRecDepth 100000 in
set_option maxHeartbeats 4000000 in
theorem ggX4_feuding_X1_passNight : GoodIn wsX4_feuding wsX1_passNight := goodIn_r _ [63, 22, 21, 64, 65, 66, 12, 67, 29, 68, 69, 70, 71, 72, 73, 41, 24, 14, 74, 48, 49, 45, 50, 51, 75, 76, 77, 78, 79, 80, 81, 82, 20, 83, 84, 85, 86, 87, 88, 89, 90, 91, 92, 93, 94, 95, 96, 97, 19, 98, 99, 100, 101, 23, 102, 103, 104, 105, 106, 107, 108, 109, 110, 42, 43, 44, 46, 47, 139, 140, 141, 142, 143, 144, 145, 146, 147, 125, 126, 127, 128, 129, 130, 131, 132, 133, 134, 135, 136, 137, 138] rfl (by decide +kernel)
set_option maxRecDepth 20000 in
theorem gX4_feuding_X1_passNight : GoodIn wsX4_feuding (wsV RX4 133 RX1 yX1_passNight wsX1_passNight) := goodIn_app (goodIn_of _ (by decide +kernel)) ggX4_feuding_X1_passNight
set_option maxRecDepth 100000 in
set_option maxHeartbeats 4000000 in
theorem ggX4_nearest_X4_refusePair : GoodIn wsX4_nearest wsX4_refusePair := goodIn_r _ [9, 10, 11, 12, 8, 13, 14, 15, 123, 124, 125, 126, 127, 128, 129, 130, 131, 132, 133, 134, 135, 136, 143, 144, 145, 146, 147, 148, 149, 150, 151, 152, 153, 154, 155, 156] rfl (by decide +kernel)
set_option maxRecDepth 20000 in
theorem gX4_nearest_X4_refusePair : GoodIn wsX4_nearest (wsV RX4 154 RX4 yX4_refusePair wsX4_refusePair) := goodIn_app (goodIn_of _ (by decide +kernel)) ggX4_nearest_X4_refusePair
set_option maxRecDepth 100000 in
set_option maxHeartbeats 4000000 in
theorem ggX4_nearest_X1_areBeside : GoodIn wsX4_nearest wsX1_areBeside := goodIn_r _ [20, 21, 22, 23, 24, 19, 25, 26, 27, 28, 29, 30, 31, 32, 33, 34, 35, 36, 37, 38, 39, 40, 41, 42, 43, 44, 45, 157, 158, 159, 160, 161, 162, 163, 164, 165, 143, 144, 145, 146, 147, 148, 149, 150, 151, 152, 153, 154, 155, 156] rfl (by decide +kernel)
set_option maxRecDepth 20000 in
theorem gX4_nearest_X1_areBeside : GoodIn wsX4_nearest (wsV RX4 176 RX1 yX1_areBeside wsX1_areBeside) := goodIn_app (goodIn_of _ (by decide +kernel)) ggX4_nearest_X1_areBeside
set_option maxRecDepth 100000 in
set_option maxHeartbeats 4000000 in
theorem ggX4_nearest_X1_copyFrom : GoodIn wsX4_nearest wsX1_copyFrom := goodIn_r _ [49, 27, 50, 51, 52, 53, 54, 55, 56, 57, 58, 59, 157, 158, 159, 160, 161, 162, 163, 164, 165] rfl (by decide +kernel)
set_option maxRecDepth 20000 in
theorem gX4_nearest_X1_copyFrom : GoodIn wsX4_nearest (wsV RX4 144 RX1 yX1_copyFrom wsX1_copyFrom) := goodIn_app (goodIn_of _ (by decide +kernel)) ggX4_nearest_X1_copyFrom
set_option maxRecDepth 100000 in
set_option maxHeartbeats 4000000 in
theorem ggX4_nearest_X0_prepare : GoodIn wsX4_nearest wsX0_prepare := goodIn_r _ [64, 65, 66, 67, 68, 69, 70, 71, 72, 137, 138, 139, 140, 141, 142] rfl (by decide +kernel)
set_option maxRecDepth 20000 in
theorem gX4_nearest_X0_prepare : GoodIn wsX4_nearest (wsV RX4 179 RX0 yX0_prepare wsX0_prepare) := goodIn_app (goodIn_of _ (by decide +kernel)) ggX4_nearest_X0_prepare
set_option maxRecDepth 100000 in
set_option maxHeartbeats 4000000 in
theorem ggX4_nearest_X0_reaches : GoodIn wsX4_nearest wsX0_reaches := goodIn_r _ [74, 75, 76, 77, 68, 78, 79, 80, 81, 19, 82, 21, 83, 27, 84, 85, 86, 63, 87, 65, 66, 88, 89, 90, 91, 92, 67, 93, 94, 95, 96, 26, 59, 97, 34, 35, 31, 36, 37, 98, 99, 100, 101, 102, 103, 104, 105, 55, 106, 107, 108, 109, 110, 111, 112, 113, 114, 115, 116, 117, 118, 119, 120, 28, 29, 30, 32, 33, 121, 17, 18, 20, 22, 23, 24, 25, 38, 39, 40, 41, 42, 43, 44, 45, 122, 73, 137, 138, 139, 140, 141, 142, 157, 158, 159, 160, 161, 162, 163, 164, 165, 143, 144, 145, 146, 147, 148, 149, 150, 151, 152, 153, 154, 155, 156] rfl (by decide +kernel)
set_option maxRecDepth 20000 in
theorem gX4_nearest_X0_reaches_n183 : GoodIn wsX4_nearest (wsX0_reaches) := ggX4_nearest_X0_reaches
set_option maxRecDepth 100000 in
set_option maxHeartbeats 4000000 in
theorem ggX4_mends_X4_refusePair : GoodIn wsX4_mends wsX4_refusePair := goodIn_r _ [9, 10, 11, 12, 8, 13, 1, 14, 137, 138, 139, 140, 141, 142, 143, 144, 145, 146, 147, 148, 149, 150, 160, 161, 162, 163, 164, 165, 166, 167, 168, 169, 170, 171, 172, 173] rfl (by decide +kernel)
set_option maxRecDepth 20000 in
theorem gX4_mends_X4_refusePair : GoodIn wsX4_mends (wsV RX4 154 RX4 yX4_refusePair wsX4_refusePair) := goodIn_app (goodIn_of _ (by decide +kernel)) ggX4_mends_X4_refusePair
set_option maxRecDepth 100000 in
set_option maxHeartbeats 4000000 in
theorem ggX4_mends_X3_stuckOnes : GoodIn wsX4_mends wsX3_stuckOnes := goodIn_r _ [19, 20, 21, 160, 161, 162, 163, 164, 165, 166, 167, 168, 169, 170, 171, 172, 173] rfl (by decide +kernel)
set_option maxRecDepth 20000 in
theorem gX4_mends_X3_stuckOnes : GoodIn wsX4_mends (wsV RX4 190 RX3 yX3_stuckOnes wsX3_stuckOnes) := goodIn_app (goodIn_of _ (by decide +kernel)) ggX4_mends_X3_stuckOnes
set_option maxRecDepth 100000 in
set_option maxHeartbeats 4000000 in
theorem ggX4_mends_X4_costOf : GoodIn wsX4_mends wsX4_costOf := goodIn_r _ [24] rfl (by decide +kernel)
set_option maxRecDepth 20000 in
theorem gX4_mends_X4_costOf : GoodIn wsX4_mends (va_wsS RX4 194 yX4_costOf wsX4_costOf) := goodIn_app (goodIn_of _ (by decide +kernel)) ggX4_mends_X4_costOf
set_option maxRecDepth 100000 in
set_option maxHeartbeats 4000000 in
theorem ggX4_mends_X1_copyFrom : GoodIn wsX4_mends wsX1_copyFrom := goodIn_r _ [29, 30, 31, 32, 33, 34, 35, 36, 37, 38, 39, 40, 151, 152, 153, 154, 155, 156, 157, 158, 159] rfl (by decide +kernel)
set_option maxRecDepth 20000 in
theorem gX4_mends_X1_copyFrom : GoodIn wsX4_mends (wsV RX4 144 RX1 yX1_copyFrom wsX1_copyFrom) := goodIn_app (goodIn_of _ (by decide +kernel)) ggX4_mends_X1_copyFrom
set_option maxRecDepth 100000 in
set_option maxHeartbeats 4000000 in
theorem ggX4_mends_X4_firstMeeting : GoodIn wsX4_mends wsX4_firstMeeting := goodIn_r _ [44, 2, 1, 45, 46, 47, 48, 28, 49, 50, 51, 52, 53, 54, 55, 56, 57, 58, 59, 30, 60, 61, 62, 18, 63, 64, 65, 66, 67, 68, 69, 70, 71, 72, 73, 74, 75, 76, 77, 78, 79, 80, 81, 82, 83, 84, 85, 86, 87, 88, 89, 38, 37, 90, 91, 92, 93, 94, 95, 96, 97, 98, 99, 40, 100, 101, 102, 103, 104, 105, 106, 107, 108, 36, 109, 110, 111, 112, 113, 114, 115, 116, 117, 118, 119, 120, 121, 122, 123, 35, 124, 125, 126, 127, 39, 128, 129, 130, 131, 132, 133, 134, 135, 136, 137, 138, 139, 140, 141, 142, 143, 144, 145, 146, 147, 148, 149, 150, 160, 161, 162, 163, 164, 165, 166, 167, 168, 169, 170, 171, 172, 173, 151, 152, 153, 154, 155, 156, 157, 158, 159] rfl (by decide +kernel)
set_option maxRecDepth 20000 in
theorem gX4_mends_X4_firstMeeting : GoodIn wsX4_mends (wsV RX4 162 RX4 yX4_firstMeeting wsX4_firstMeeting) := goodIn_app (goodIn_of _ (by decide +kernel)) ggX4_mends_X4_firstMeeting
set_option maxRecDepth 100000 in
set_option maxHeartbeats 4000000 in
theorem ggX4_seen_X4_isHouse : GoodIn wsX4_seen wsX4_isHouse := goodIn_r _ [9, 10, 11, 17, 18, 19, 20, 21, 22, 23, 24, 25, 26, 27, 28, 29, 30, 31, 32, 33, 34, 35, 36, 37, 38, 39, 40, 41, 42, 43, 44] rfl (by decide +kernel)
set_option maxRecDepth 20000 in
theorem gX4_seen_X4_isHouse : GoodIn wsX4_seen (wsV RX4 107 RX4 yX4_isHouse wsX4_isHouse) := goodIn_app (goodIn_of _ (by decide +kernel)) ggX4_seen_X4_isHouse
set_option maxRecDepth 100000 in
set_option maxHeartbeats 4000000 in
theorem ggX4_seen_X4_isPlot : GoodIn wsX4_seen wsX4_isPlot := goodIn_r _ [15, 10, 16, 17, 18, 19, 20, 21, 22, 23, 24, 25, 26, 27, 28, 29, 30, 31, 32, 33, 34, 35, 36, 37, 38, 39, 40, 41, 42, 43, 44] rfl (by decide +kernel)
set_option maxRecDepth 20000 in
theorem gX4_seen_X4_isPlot : GoodIn wsX4_seen (wsV RX4 96 RX4 yX4_isPlot wsX4_isPlot) := goodIn_app (goodIn_of _ (by decide +kernel)) ggX4_seen_X4_isPlot
set_option maxRecDepth 100000 in
set_option maxHeartbeats 4000000 in
theorem ggX4_laws_X4_explainsAllSeen : GoodIn wsX4_laws wsX4_explainsAllSeen := goodIn_r _ [5, 6, 7, 8, 9, 10, 11, 12, 13, 14, 15, 16, 17, 18, 19, 20, 21, 22, 23, 24, 25, 26, 27, 28, 29, 30, 31, 32, 33, 4, 34, 35, 36, 37, 38, 39, 40, 41, 42, 43, 44, 45, 46, 47, 48, 49, 50, 51, 52, 53, 54, 55, 56, 57, 58, 59, 60, 61, 62, 63, 64, 65, 66, 67, 68, 69, 70, 71, 72, 73, 74, 75, 76, 77, 78, 79, 80, 81, 82, 83, 84, 85, 86, 87, 88, 89, 90, 91, 92, 93, 94, 95, 96, 97, 98, 99, 100, 101, 102, 103, 104, 105, 106, 107, 108, 109, 110, 111, 112, 113, 114, 115, 116, 117, 118, 119, 120, 121, 122, 123, 124, 125, 126, 127, 128, 129, 130, 131, 132, 133, 134, 135, 136, 137, 138] rfl (by decide +kernel)
set_option maxRecDepth 20000 in
theorem gX4_laws_X4_explainsAllSeen : GoodIn wsX4_laws (wsV RX4 200 RX4 yX4_explainsAllSeen wsX4_explainsAllSeen) := goodIn_app (goodIn_of _ (by decide +kernel)) ggX4_laws_X4_explainsAllSeen
set_option maxRecDepth 100000 in
set_option maxHeartbeats 4000000 in
theorem ggX4_count_X3_allPlots : GoodIn wsX4_count wsX3_allPlots := goodIn_r _ [19, 20, 35, 36, 37, 38, 39, 40, 41, 42, 43, 44, 45, 46, 47, 48] rfl (by decide +kernel)
set_option maxRecDepth 20000 in
theorem gX4_count_X3_allPlots : GoodIn wsX4_count (wsV RX4 221 RX3 yX3_allPlots wsX3_allPlots) := goodIn_app (goodIn_of _ (by decide +kernel)) ggX4_count_X3_allPlots
set_option maxRecDepth 100000 in
set_option maxHeartbeats 4000000 in
theorem ggX4_refusePair_X4_isHouse : GoodIn wsX4_refusePair wsX4_isHouse := goodIn_r _ [5, 6, 7, 8, 9, 10, 11, 12, 13, 14, 15, 16, 17, 18, 19, 20, 21, 22, 23, 24, 25, 26, 27, 28, 29, 30, 31, 32, 33, 34, 35] rfl (by decide +kernel)
set_option maxRecDepth 20000 in
theorem gX4_refusePair_X4_isHouse : GoodIn wsX4_refusePair (wsV RX4 107 RX4 yX4_isHouse wsX4_isHouse) := goodIn_app (goodIn_of _ (by decide +kernel)) ggX4_refusePair_X4_isHouse
set_option maxRecDepth 100000 in
set_option maxHeartbeats 4000000 in
theorem ggX4_firstMeeting_X1_meets : GoodIn wsX4_firstMeeting wsX1_meets := goodIn_r _ [8, 9, 10, 11, 7, 12, 13, 14, 15, 16, 17, 18, 19, 20, 21, 22, 23, 24, 25, 26, 27, 28, 29, 30, 31, 32, 33, 34, 35, 36, 37, 38, 39, 40, 41, 42, 43, 44, 45, 46, 132, 133, 134, 135, 136, 137, 138, 139, 140, 118, 119, 120, 121, 122, 123, 124, 125, 126, 127, 128, 129, 130, 131] rfl (by decide +kernel)
set_option maxRecDepth 20000 in
theorem gX4_firstMeeting_X1_meets : GoodIn wsX4_firstMeeting (wsV RX4 158 RX1 yX1_meets wsX1_meets) := goodIn_app (goodIn_of _ (by decide +kernel)) ggX4_firstMeeting_X1_meets
set_option maxRecDepth 100000 in
set_option maxHeartbeats 4000000 in
theorem ggX4_firstMeeting_X1_passNight : GoodIn wsX4_firstMeeting wsX1_passNight := goodIn_r _ [50, 51, 52, 53, 54, 55, 7, 56, 13, 57, 58, 59, 60, 61, 62, 18, 63, 19, 64, 26, 27, 23, 28, 29, 65, 66, 67, 68, 69, 70, 71, 72, 73, 74, 75, 76, 77, 78, 79, 80, 81, 82, 83, 84, 85, 86, 87, 88, 89, 90, 91, 92, 93, 94, 95, 96, 97, 98, 99, 100, 101, 102, 103, 20, 21, 22, 24, 25, 132, 133, 134, 135, 136, 137, 138, 139, 140, 118, 119, 120, 121, 122, 123, 124, 125, 126, 127, 128, 129, 130, 131] rfl (by decide +kernel)
set_option maxRecDepth 20000 in
theorem gX4_firstMeeting_X1_passNight : GoodIn wsX4_firstMeeting (wsV RX4 133 RX1 yX1_passNight wsX1_passNight) := goodIn_app (goodIn_of _ (by decide +kernel)) ggX4_firstMeeting_X1_passNight
set_option maxRecDepth 100000 in
set_option maxHeartbeats 4000000 in
theorem ggX4_explainsAllSeen_X1_startAsTold : GoodIn wsX4_explainsAllSeen wsX1_startAsTold := goodIn_r _ [6, 7, 8, 9, 10, 11, 12, 13, 14, 15, 16, 17, 18, 19, 20, 21, 22, 23, 24, 25, 112, 113, 114, 115, 116, 117, 118, 119, 120, 121, 122, 123, 124, 125, 126, 127, 128, 129, 130, 131, 132, 133, 134] rfl (by decide +kernel)
set_option maxRecDepth 20000 in
theorem gX4_explainsAllSeen_X1_startAsTold : GoodIn wsX4_explainsAllSeen (wsV RX4 87 RX1 yX1_startAsTold wsX1_startAsTold) := goodIn_app (goodIn_of _ (by decide +kernel)) ggX4_explainsAllSeen_X1_startAsTold
set_option maxRecDepth 100000 in
set_option maxHeartbeats 4000000 in
theorem ggX4_explainsAllSeen_X4_explainsNight : GoodIn wsX4_explainsAllSeen wsX4_explainsNight := goodIn_r _ [30, 31, 32, 1, 33, 34, 35, 98, 99, 100, 101, 102, 103, 104, 105, 106, 107, 108, 109, 110, 111, 112, 113, 114, 115, 116, 117, 118, 119, 120] rfl (by decide +kernel)
set_option maxRecDepth 20000 in
theorem gX4_explainsAllSeen_X4_explainsNight : GoodIn wsX4_explainsAllSeen (wsV RX4 227 RX4 yX4_explainsNight wsX4_explainsNight) := goodIn_app (goodIn_of _ (by decide +kernel)) ggX4_explainsAllSeen_X4_explainsNight
set_option maxRecDepth 100000 in
set_option maxHeartbeats 4000000 in
theorem ggX4_explainsAllSeen_X1_passNight : GoodIn wsX4_explainsAllSeen wsX1_passNight := goodIn_r _ [39, 18, 17, 40, 41, 42, 5, 43, 7, 44, 45, 46, 47, 48, 49, 50, 21, 9, 51, 52, 53, 54, 55, 56, 57, 58, 59, 60, 61, 62, 63, 64, 16, 65, 66, 67, 68, 69, 70, 71, 72, 73, 74, 75, 76, 77, 78, 79, 14, 80, 81, 82, 83, 20, 84, 85, 86, 87, 88, 89, 90, 91, 92, 93, 94, 95, 96, 97, 112, 113, 114, 115, 116, 117, 118, 119, 120, 121, 122, 123, 124, 125, 126, 127, 128, 129, 130, 131, 132, 133, 134] rfl (by decide +kernel)
set_option maxRecDepth 20000 in
theorem gX4_explainsAllSeen_X1_passNight : GoodIn wsX4_explainsAllSeen (wsV RX4 133 RX1 yX1_passNight wsX1_passNight) := goodIn_app (goodIn_of _ (by decide +kernel)) ggX4_explainsAllSeen_X1_passNight
