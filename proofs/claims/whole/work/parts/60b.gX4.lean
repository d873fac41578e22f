set_option maxRecDepth 100000 in
set_option maxHeartbeats 4000000 in
theorem ggX4_when_X4_firstMeeting : GoodIn wsX4_when wsX4_firstMeeting := goodIn_r _ [33, 1, 12, 34, 35, 36, 37, 17, 38, 39, 40, 41, 42, 43, 44, 45, 46, 47, 48, 19, 49, 50, 51, 52, 53, 54, 55, 56, 57, 58, 59, 60, 61, 62, 63, 64, 65, 66, 67, 68, 69, 70, 71, 72, 73, 74, 75, 76, 77, 78, 79, 26, 80, 81, 82, 83, 84, 85, 28, 86, 87, 88, 89, 90, 29, 91, 92, 93, 94, 95, 96, 97, 98, 99, 25, 100, 101, 102, 103, 104, 105, 106, 107, 108, 109, 110, 111, 112, 113, 114, 115, 116, 117, 118, 24, 27, 119, 120, 121, 122, 123, 124, 125, 126, 127, 128, 129, 130, 131, 132, 133, 134, 135, 136, 137, 138, 139, 140, 141, 142, 143, 144, 145, 146, 147, 148, 149, 150, 151, 152, 153, 154, 155, 156, 157, 158, 159, 160, 161, 162, 163, 164, 165, 166, 167, 168, 169, 170] rfl (by decide +kernel)
set_option maxRecDepth 20000 in
theorem gX4_when_X4_firstMeeting : GoodIn wsX4_when (wsV RX4 162 RX4 yX4_firstMeeting wsX4_firstMeeting) := goodIn_app (goodIn_of _ (by decide +kernel)) ggX4_when_X4_firstMeeting
set_option maxRecDepth 100000 in
set_option maxHeartbeats 4000000 in
theorem ggX4_often_X4_refusePair : GoodIn wsX4_often wsX4_refusePair := goodIn_r _ [9, 10, 11, 12, 8, 13, 3, 14, 134, 135, 136, 137, 138, 139, 140, 141, 142, 143, 144, 145, 146, 147, 148, 149, 150, 151, 152, 153, 154, 155, 156, 157, 158, 159, 160] rfl (by decide +kernel)
set_option maxRecDepth 20000 in
theorem gX4_often_X4_refusePair : GoodIn wsX4_often (wsV RX4 154 RX4 yX4_refusePair wsX4_refusePair) := goodIn_app (goodIn_of _ (by decide +kernel)) ggX4_often_X4_refusePair
set_option maxRecDepth 100000 in
set_option maxHeartbeats 4000000 in
theorem ggX4_often_X4_areDays : GoodIn wsX4_often wsX4_areDays := goodIn_r _ [17] rfl (by decide +kernel)
set_option maxRecDepth 20000 in
theorem gX4_often_X4_areDays : GoodIn wsX4_often (va_wsS RX4 166 yX4_areDays wsX4_areDays) := goodIn_app (goodIn_of _ (by decide +kernel)) ggX4_often_X4_areDays
set_option maxRecDepth 100000 in
set_option maxHeartbeats 4000000 in
theorem ggX4_often_X1_copyFrom : GoodIn wsX4_often wsX1_copyFrom := goodIn_r _ [22, 23, 24, 25, 26, 27, 28, 29, 30, 31, 32, 33, 161, 162, 163, 164, 165, 166, 167, 168, 169] rfl (by decide +kernel)
set_option maxRecDepth 20000 in
theorem gX4_often_X1_copyFrom : GoodIn wsX4_often (wsV RX4 144 RX1 yX1_copyFrom wsX1_copyFrom) := goodIn_app (goodIn_of _ (by decide +kernel)) ggX4_often_X1_copyFrom
set_option maxRecDepth 100000 in
set_option maxHeartbeats 4000000 in
theorem ggX4_often_X1_meets : GoodIn wsX4_often wsX1_meets := goodIn_r _ [37, 38, 39, 40, 21, 41, 42, 43, 44, 45, 46, 47, 23, 48, 49, 50, 51, 52, 53, 54, 55, 56, 57, 58, 59, 60, 61, 62, 63, 64, 65, 66, 67, 68, 69, 70, 71, 72, 73, 74, 161, 162, 163, 164, 165, 166, 167, 168, 169, 148, 149, 150, 151, 152, 153, 154, 155, 156, 157, 158, 159, 160] rfl (by decide +kernel)
set_option maxRecDepth 20000 in
theorem gX4_often_X1_meets : GoodIn wsX4_often (wsV RX4 158 RX1 yX1_meets wsX1_meets) := goodIn_app (goodIn_of _ (by decide +kernel)) ggX4_often_X1_meets
set_option maxRecDepth 100000 in
set_option maxHeartbeats 4000000 in
theorem ggX4_often_X1_passNight : GoodIn wsX4_often wsX1_passNight := goodIn_r _ [78, 30, 79, 80, 81, 82, 21, 83, 42, 84, 32, 85, 86, 87, 88, 89, 47, 33, 23, 90, 54, 55, 51, 56, 57, 91, 92, 93, 94, 95, 96, 97, 98, 29, 99, 100, 101, 102, 103, 104, 105, 106, 107, 108, 109, 110, 111, 112, 113, 114, 115, 116, 117, 28, 31, 118, 119, 120, 121, 43, 44, 45, 46, 48, 49, 50, 52, 53, 122, 123, 124, 125, 126, 127, 128, 129, 130, 131, 132, 133, 161, 162, 163, 164, 165, 166, 167, 168, 169, 148, 149, 150, 151, 152, 153, 154, 155, 156, 157, 158, 159, 160] rfl (by decide +kernel)
set_option maxRecDepth 20000 in
theorem gX4_often_X1_passNight : GoodIn wsX4_often (wsV RX4 133 RX1 yX1_passNight wsX1_passNight) := goodIn_app (goodIn_of _ (by decide +kernel)) ggX4_often_X1_passNight
set_option maxRecDepth 100000 in
set_option maxHeartbeats 4000000 in
theorem ggX4_brings_X4_isHouse : GoodIn wsX4_brings wsX4_isHouse := goodIn_r _ [9, 3, 10, 110, 111, 112, 113, 114, 115, 116, 117, 118, 119, 120, 121, 122, 123, 124, 125, 126, 127, 128, 129, 130, 131, 132, 133, 134, 135, 136] rfl (by decide +kernel)
set_option maxRecDepth 20000 in
theorem gX4_brings_X4_isHouse : GoodIn wsX4_brings (wsV RX4 107 RX4 yX4_isHouse wsX4_isHouse) := goodIn_app (goodIn_of _ (by decide +kernel)) ggX4_brings_X4_isHouse
set_option maxRecDepth 100000 in
set_option maxHeartbeats 4000000 in
theorem ggX4_brings_X4_areDays : GoodIn wsX4_brings wsX4_areDays := goodIn_r _ [13] rfl (by decide +kernel)
set_option maxRecDepth 20000 in
theorem gX4_brings_X4_areDays : GoodIn wsX4_brings (va_wsS RX4 166 yX4_areDays wsX4_areDays) := goodIn_app (goodIn_of _ (by decide +kernel)) ggX4_brings_X4_areDays
set_option maxRecDepth 100000 in
set_option maxHeartbeats 4000000 in
theorem ggX4_brings_X1_copyFrom : GoodIn wsX4_brings wsX1_copyFrom := goodIn_r _ [18, 19, 20, 21, 22, 23, 24, 25, 26, 27, 28, 29, 137, 138, 139, 140, 141, 142, 143, 144, 145] rfl (by decide +kernel)
set_option maxRecDepth 20000 in
theorem gX4_brings_X1_copyFrom : GoodIn wsX4_brings (wsV RX4 144 RX1 yX1_copyFrom wsX1_copyFrom) := goodIn_app (goodIn_of _ (by decide +kernel)) ggX4_brings_X1_copyFrom
set_option maxRecDepth 100000 in
set_option maxHeartbeats 4000000 in
theorem ggX4_brings_X1_cropUnder : GoodIn wsX4_brings wsX1_cropUnder := goodIn_r _ [33, 34, 35, 19, 36, 37, 38, 39, 40, 41, 42, 137, 138, 139, 140, 141, 142, 143, 144, 145, 124, 125, 126, 127, 128, 129, 130, 131, 132, 133, 134, 135, 136] rfl (by decide +kernel)
set_option maxRecDepth 20000 in
theorem gX4_brings_X1_cropUnder : GoodIn wsX4_brings (wsV RX4 169 RX1 yX1_cropUnder wsX1_cropUnder) := goodIn_app (goodIn_of _ (by decide +kernel)) ggX4_brings_X1_cropUnder
set_option maxRecDepth 100000 in
set_option maxHeartbeats 4000000 in
theorem ggX4_brings_X1_passNight : GoodIn wsX4_brings wsX1_passNight := goodIn_r _ [46, 26, 47, 48, 49, 50, 17, 51, 34, 52, 28, 53, 54, 55, 56, 57, 36, 29, 19, 37, 38, 39, 40, 41, 42, 58, 59, 60, 61, 62, 63, 64, 65, 25, 66, 67, 68, 69, 70, 71, 72, 73, 74, 75, 76, 77, 78, 79, 80, 81, 82, 83, 84, 24, 27, 85, 86, 87, 88, 89, 90, 91, 92, 93, 94, 95, 96, 97, 98, 99, 100, 101, 102, 103, 104, 105, 106, 107, 108, 109, 137, 138, 139, 140, 141, 142, 143, 144, 145, 124, 125, 126, 127, 128, 129, 130, 131, 132, 133, 134, 135, 136] rfl (by decide +kernel)
set_option maxRecDepth 20000 in
theorem gX4_brings_X1_passNight : GoodIn wsX4_brings (wsV RX4 133 RX1 yX1_passNight wsX1_passNight) := goodIn_app (goodIn_of _ (by decide +kernel)) ggX4_brings_X1_passNight
set_option maxRecDepth 100000 in
set_option maxHeartbeats 4000000 in
theorem ggX4_feuding_X4_areDays : GoodIn wsX4_feuding wsX4_areDays := goodIn_r _ [8] rfl (by decide +kernel)
set_option maxRecDepth 20000 in
theorem gX4_feuding_X4_areDays : GoodIn wsX4_feuding (va_wsS RX4 166 yX4_areDays wsX4_areDays) := goodIn_app (goodIn_of _ (by decide +kernel)) ggX4_feuding_X4_areDays
set_option maxRecDepth 100000 in
set_option maxHeartbeats 4000000 in
theorem ggX4_feuding_X1_copyFrom : GoodIn wsX4_feuding wsX1_copyFrom := goodIn_r _ [13, 14, 15, 16, 17, 18, 19, 20, 21, 22, 23, 24, 146, 147, 148, 149, 150, 151, 152, 153, 154] rfl (by decide +kernel)
set_option maxRecDepth 20000 in
theorem gX4_feuding_X1_copyFrom : GoodIn wsX4_feuding (wsV RX4 144 RX1 yX1_copyFrom wsX1_copyFrom) := goodIn_app (goodIn_of _ (by decide +kernel)) ggX4_feuding_X1_copyFrom
set_option maxRecDepth 100000 in
set_option maxHeartbeats 4000000 in
theorem ggX4_feuding_X1_hasFeudBeside : GoodIn wsX4_feuding wsX1_hasFeudBeside := goodIn_r _ [28, 29, 30, 31, 32, 33, 34, 35, 12, 36, 37, 38, 39, 40, 41, 14, 42, 43, 44, 45, 46, 47, 48, 49, 50, 51, 52, 53, 54, 55, 56, 57, 58, 59, 146, 147, 148, 149, 150, 151, 152, 153, 154, 133, 134, 135, 136, 137, 138, 139, 140, 141, 142, 143, 144, 145] rfl (by decide +kernel)
set_option maxRecDepth 20000 in
theorem gX4_feuding_X1_hasFeudBeside : GoodIn wsX4_feuding (wsV RX4 172 RX1 yX1_hasFeudBeside wsX1_hasFeudBeside) := goodIn_app (goodIn_of _ (by decide +kernel)) ggX4_feuding_X1_hasFeudBeside
set_option maxRecDepth 100000 in
set_option maxHeartbeats 4000000 in
theorem ggX4_feuding_X1_passNight : GoodIn wsX4_feuding wsX1_passNight := goodIn_r _ [63, 21, 64, 65, 66, 67, 12, 68, 29, 69, 23, 70, 71, 72, 73, 74, 41, 24, 14, 75, 48, 49, 45, 50, 51, 76, 77, 78, 79, 80, 81, 82, 83, 20, 84, 85, 86, 87, 88, 89, 90, 91, 92, 93, 94, 95, 96, 97, 98, 99, 100, 101, 102, 19, 22, 103, 104, 105, 106, 37, 38, 39, 40, 42, 43, 44, 46, 47, 107, 108, 109, 110, 111, 112, 113, 114, 115, 116, 117, 118, 146, 147, 148, 149, 150, 151, 152, 153, 154, 133, 134, 135, 136, 137, 138, 139, 140, 141, 142, 143, 144, 145] rfl (by decide +kernel)
set_option maxRecDepth 20000 in
theorem gX4_feuding_X1_passNight : GoodIn wsX4_feuding (wsV RX4 133 RX1 yX1_passNight wsX1_passNight) := goodIn_app (goodIn_of _ (by decide +kernel)) ggX4_feuding_X1_passNight
set_option maxRecDepth 100000 in
set_option maxHeartbeats 4000000 in
theorem ggX4_nearest_X4_refusePair : GoodIn wsX4_nearest wsX4_refusePair := goodIn_r _ [9, 10, 11, 12, 8, 13, 14, 15, 123, 124, 125, 126, 127, 128, 129, 130, 131, 132, 133, 134, 135, 136, 143, 144, 145, 146, 147, 148, 149, 150, 151, 152, 153, 154, 155] rfl (by decide +kernel)
set_option maxRecDepth 20000 in
theorem gX4_nearest_X4_refusePair : GoodIn wsX4_nearest (wsV RX4 154 RX4 yX4_refusePair wsX4_refusePair) := goodIn_app (goodIn_of _ (by decide +kernel)) ggX4_nearest_X4_refusePair
set_option maxRecDepth 100000 in
set_option maxHeartbeats 4000000 in
theorem ggX4_nearest_X1_areBeside : GoodIn wsX4_nearest wsX1_areBeside := goodIn_r _ [20, 21, 22, 23, 24, 19, 25, 26, 27, 28, 29, 30, 31, 32, 33, 34, 35, 36, 37, 38, 39, 40, 41, 42, 43, 44, 45, 156, 157, 158, 159, 160, 161, 162, 163, 164, 143, 144, 145, 146, 147, 148, 149, 150, 151, 152, 153, 154, 155] rfl (by decide +kernel)
set_option maxRecDepth 20000 in
theorem gX4_nearest_X1_areBeside : GoodIn wsX4_nearest (wsV RX4 176 RX1 yX1_areBeside wsX1_areBeside) := goodIn_app (goodIn_of _ (by decide +kernel)) ggX4_nearest_X1_areBeside
set_option maxRecDepth 100000 in
set_option maxHeartbeats 4000000 in
theorem ggX4_nearest_X1_copyFrom : GoodIn wsX4_nearest wsX1_copyFrom := goodIn_r _ [49, 27, 50, 51, 52, 53, 54, 55, 56, 57, 58, 59, 156, 157, 158, 159, 160, 161, 162, 163, 164] rfl (by decide +kernel)
set_option maxRecDepth 20000 in
theorem gX4_nearest_X1_copyFrom : GoodIn wsX4_nearest (wsV RX4 144 RX1 yX1_copyFrom wsX1_copyFrom) := goodIn_app (goodIn_of _ (by decide +kernel)) ggX4_nearest_X1_copyFrom
set_option maxRecDepth 100000 in
set_option maxHeartbeats 4000000 in
theorem ggX4_nearest_X0_prepare : GoodIn wsX4_nearest wsX0_prepare := goodIn_r _ [64, 65, 66, 67, 68, 69, 70, 71, 72, 137, 138, 139, 140, 141, 142] rfl (by decide +kernel)
set_option maxRecDepth 20000 in
theorem gX4_nearest_X0_prepare : GoodIn wsX4_nearest (wsV RX4 179 RX0 yX0_prepare wsX0_prepare) := goodIn_app (goodIn_of _ (by decide +kernel)) ggX4_nearest_X0_prepare
set_option maxRecDepth 100000 in
set_option maxHeartbeats 4000000 in
theorem ggX4_nearest_X0_reaches : GoodIn wsX4_nearest wsX0_reaches := goodIn_r _ [74, 75, 76, 77, 68, 78, 79, 80, 81, 19, 82, 21, 83, 27, 84, 85, 86, 63, 87, 65, 66, 88, 89, 90, 91, 92, 67, 93, 94, 95, 96, 26, 59, 97, 34, 35, 31, 36, 37, 98, 99, 100, 101, 102, 103, 104, 105, 55, 106, 107, 108, 109, 110, 111, 112, 113, 114, 115, 116, 117, 118, 119, 120, 22, 23, 24, 25, 28, 29, 30, 32, 33, 121, 17, 18, 20, 38, 39, 40, 41, 42, 43, 44, 45, 122, 73, 137, 138, 139, 140, 141, 142, 156, 157, 158, 159, 160, 161, 162, 163, 164, 143, 144, 145, 146, 147, 148, 149, 150, 151, 152, 153, 154, 155] rfl (by decide +kernel)
set_option maxRecDepth 20000 in
theorem gX4_nearest_X0_reaches_n183 : GoodIn wsX4_nearest (wsX0_reaches) := ggX4_nearest_X0_reaches
set_option maxRecDepth 100000 in
set_option maxHeartbeats 4000000 in
theorem ggX4_mends_X4_refusePair : GoodIn wsX4_mends wsX4_refusePair := goodIn_r _ [6, 7, 8, 9, 5, 10, 1, 11, 149, 150, 151, 152, 153, 154, 155, 156, 157, 158, 159, 160, 161, 162, 163, 164, 165, 166, 167, 168, 169, 170, 171, 172, 173, 174, 175] rfl (by decide +kernel)
set_option maxRecDepth 20000 in
theorem gX4_mends_X4_refusePair : GoodIn wsX4_mends (wsV RX4 154 RX4 yX4_refusePair wsX4_refusePair) := goodIn_app (goodIn_of _ (by decide +kernel)) ggX4_mends_X4_refusePair
set_option maxRecDepth 100000 in
set_option maxHeartbeats 4000000 in
theorem ggX4_mends_X3_stuckOnes : GoodIn wsX4_mends wsX3_stuckOnes := goodIn_r _ [16, 17, 18, 163, 164, 165, 166, 167, 168, 169, 170, 171, 172, 173, 174, 175] rfl (by decide +kernel)
set_option maxRecDepth 20000 in
theorem gX4_mends_X3_stuckOnes : GoodIn wsX4_mends (wsV RX4 190 RX3 yX3_stuckOnes wsX3_stuckOnes) := goodIn_app (goodIn_of _ (by decide +kernel)) ggX4_mends_X3_stuckOnes
set_option maxRecDepth 100000 in
set_option maxHeartbeats 4000000 in
theorem ggX4_mends_X4_costOf : GoodIn wsX4_mends wsX4_costOf := goodIn_r _ [21] rfl (by decide +kernel)
set_option maxRecDepth 20000 in
theorem gX4_mends_X4_costOf : GoodIn wsX4_mends (va_wsS RX4 194 yX4_costOf wsX4_costOf) := goodIn_app (goodIn_of _ (by decide +kernel)) ggX4_mends_X4_costOf
set_option maxRecDepth 100000 in
set_option maxHeartbeats 4000000 in
theorem ggX4_mends_X4_meetsMended : GoodIn wsX4_mends wsX4_meetsMended := goodIn_r _ [25, 26, 27, 28, 29, 30, 31, 32, 33, 34, 35, 36, 37, 38, 39, 40, 41, 42, 43, 44, 45, 46, 47, 5, 48, 1, 49, 50, 51, 52, 53, 54, 55, 56, 57, 58, 59, 60, 61, 62, 63, 64, 65, 66, 15, 67, 68, 69, 70, 71, 72, 73, 74, 75, 76, 77, 78, 79, 80, 81, 82, 83, 84, 85, 86, 87, 88, 89, 90, 91, 92, 93, 94, 95, 96, 97, 98, 99, 100, 101, 102, 103, 104, 105, 106, 107, 108, 109, 110, 111, 112, 113, 114, 115, 116, 117, 118, 119, 120, 121, 122, 123, 124, 125, 126, 127, 128, 129, 130, 131, 132, 133, 134, 135, 136, 137, 138, 139, 140, 141, 142, 143, 144, 145, 146, 147, 148, 149, 150, 151, 152, 153, 154, 155, 156, 157, 158, 159, 160, 161, 162, 176, 177, 178, 179, 180, 181, 182, 183, 184, 163, 164, 165, 166, 167, 168, 169, 170, 171, 172, 173, 174, 175] rfl (by decide +kernel)
set_option maxRecDepth 20000 in
theorem gX4_mends_X4_meetsMended : GoodIn wsX4_mends (wsV RX4 197 RX4 yX4_meetsMended wsX4_meetsMended) := goodIn_app (goodIn_of _ (by decide +kernel)) ggX4_mends_X4_meetsMended
set_option maxRecDepth 100000 in
set_option maxHeartbeats 4000000 in
theorem ggX4_seen_X4_isHouse : GoodIn wsX4_seen wsX4_isHouse := goodIn_r _ [9, 10, 11, 17, 18, 19, 20, 21, 22, 23, 24, 25, 26, 27, 28, 29, 30, 31, 32, 33, 34, 35, 36, 37, 38, 39, 40, 41, 42, 43] rfl (by decide +kernel)
set_option maxRecDepth 20000 in
theorem gX4_seen_X4_isHouse : GoodIn wsX4_seen (wsV RX4 107 RX4 yX4_isHouse wsX4_isHouse) := goodIn_app (goodIn_of _ (by decide +kernel)) ggX4_seen_X4_isHouse
set_option maxRecDepth 100000 in
set_option maxHeartbeats 4000000 in
theorem ggX4_seen_X4_isPlot : GoodIn wsX4_seen wsX4_isPlot := goodIn_r _ [15, 10, 16, 17, 18, 19, 20, 21, 22, 23, 24, 25, 26, 27, 28, 29, 30, 31, 32, 33, 34, 35, 36, 37, 38, 39, 40, 41, 42, 43] rfl (by decide +kernel)
set_option maxRecDepth 20000 in
theorem gX4_seen_X4_isPlot : GoodIn wsX4_seen (wsV RX4 96 RX4 yX4_isPlot wsX4_isPlot) := goodIn_app (goodIn_of _ (by decide +kernel)) ggX4_seen_X4_isPlot
set_option maxRecDepth 100000 in
set_option maxHeartbeats 4000000 in
theorem ggX4_laws_X4_explainsAllSeen : GoodIn wsX4_laws wsX4_explainsAllSeen := goodIn_r _ [5, 6, 7, 8, 9, 10, 11, 12, 13, 14, 15, 16, 17, 18, 19, 20, 21, 22, 23, 24, 25, 26, 27, 28, 29, 30, 31, 32, 33, 34, 35, 36, 37, 38, 39, 40, 41, 42, 43, 44, 45, 46, 47, 48, 49, 4, 50, 51, 52, 53, 54, 55, 56, 57, 58, 59, 60, 61, 62, 63, 64, 65, 66, 67, 68, 69, 70, 71, 72, 73, 74, 75, 76, 77, 78, 79, 80, 81, 82, 83, 84, 85, 86, 87, 88, 89, 90, 91, 92, 93, 94, 95, 96, 97, 98, 99, 100, 101, 102, 103, 104, 105, 106, 107, 108, 109, 110, 111, 112, 113, 114, 115, 116, 117, 118, 119, 120, 121, 122, 123, 124, 125, 126, 127, 128, 129, 130, 131, 132, 133, 134, 135, 136, 137, 138, 139, 140, 141, 142, 143, 144, 145, 146, 147, 148, 149, 150, 151, 152, 153, 154, 155, 156] rfl (by decide +kernel)
set_option maxRecDepth 20000 in
theorem gX4_laws_X4_explainsAllSeen : GoodIn wsX4_laws (wsV RX4 201 RX4 yX4_explainsAllSeen wsX4_explainsAllSeen) := goodIn_app (goodIn_of _ (by decide +kernel)) ggX4_laws_X4_explainsAllSeen
set_option maxRecDepth 100000 in
set_option maxHeartbeats 4000000 in
theorem ggX4_count_X3_allPlots : GoodIn wsX4_count wsX3_allPlots := goodIn_r _ [19, 20, 35, 36, 37, 38, 39, 40, 41, 42, 43, 44, 45, 46, 47] rfl (by decide +kernel)
set_option maxRecDepth 20000 in
theorem gX4_count_X3_allPlots : GoodIn wsX4_count (wsV RX4 222 RX3 yX3_allPlots wsX3_allPlots) := goodIn_app (goodIn_of _ (by decide +kernel)) ggX4_count_X3_allPlots
set_option maxRecDepth 100000 in
set_option maxHeartbeats 4000000 in
theorem ggX4_refusePair_X4_isHouse : GoodIn wsX4_refusePair wsX4_isHouse := goodIn_r _ [5, 6, 7, 8, 9, 10, 11, 12, 13, 14, 15, 16, 17, 18, 19, 20, 21, 22, 23, 24, 25, 26, 27, 28, 29, 30, 31, 32, 33, 34] rfl (by decide +kernel)
set_option maxRecDepth 20000 in
theorem gX4_refusePair_X4_isHouse : GoodIn wsX4_refusePair (wsV RX4 107 RX4 yX4_isHouse wsX4_isHouse) := goodIn_app (goodIn_of _ (by decide +kernel)) ggX4_refusePair_X4_isHouse
set_option maxRecDepth 100000 in
set_option maxHeartbeats 4000000 in
theorem ggX4_firstMeeting_X1_meets : GoodIn wsX4_firstMeeting wsX1_meets := goodIn_r _ [8, 9, 10, 11, 7, 12, 13, 14, 15, 16, 17, 18, 19, 20, 21, 22, 23, 24, 25, 26, 27, 28, 29, 30, 31, 32, 33, 34, 35, 36, 37, 38, 39, 40, 41, 42, 43, 44, 45, 46, 139, 140, 141, 142, 143, 144, 145, 146, 147, 126, 127, 128, 129, 130, 131, 132, 133, 134, 135, 136, 137, 138] rfl (by decide +kernel)
set_option maxRecDepth 20000 in
theorem gX4_firstMeeting_X1_meets : GoodIn wsX4_firstMeeting (wsV RX4 158 RX1 yX1_meets wsX1_meets) := goodIn_app (goodIn_of _ (by decide +kernel)) ggX4_firstMeeting_X1_meets
set_option maxRecDepth 100000 in
set_option maxHeartbeats 4000000 in
theorem ggX4_firstMeeting_X1_passNight : GoodIn wsX4_firstMeeting wsX1_passNight := goodIn_r _ [50, 51, 52, 53, 54, 55, 7, 56, 13, 57, 58, 59, 60, 61, 62, 63, 18, 64, 19, 65, 26, 27, 23, 28, 29, 66, 67, 68, 69, 70, 71, 72, 73, 74, 75, 76, 77, 78, 79, 80, 81, 82, 83, 84, 85, 86, 87, 88, 89, 90, 91, 92, 93, 94, 95, 96, 97, 98, 99, 14, 15, 16, 17, 20, 21, 22, 24, 25, 100, 101, 102, 103, 104, 105, 106, 107, 108, 109, 110, 111, 139, 140, 141, 142, 143, 144, 145, 146, 147, 126, 127, 128, 129, 130, 131, 132, 133, 134, 135, 136, 137, 138] rfl (by decide +kernel)
set_option maxRecDepth 20000 in
theorem gX4_firstMeeting_X1_passNight : GoodIn wsX4_firstMeeting (wsV RX4 133 RX1 yX1_passNight wsX1_passNight) := goodIn_app (goodIn_of _ (by decide +kernel)) ggX4_firstMeeting_X1_passNight
set_option maxRecDepth 100000 in
set_option maxHeartbeats 4000000 in
theorem ggX4_meetsMended_X1_copyFrom : GoodIn wsX4_meetsMended wsX1_copyFrom := goodIn_r _ [8, 9, 10, 11, 12, 13, 14, 15, 16, 17, 18, 19, 141, 142, 143, 144, 145, 146, 147, 148, 149] rfl (by decide +kernel)
set_option maxRecDepth 20000 in
theorem gX4_meetsMended_X1_copyFrom : GoodIn wsX4_meetsMended (wsV RX4 144 RX1 yX1_copyFrom wsX1_copyFrom) := goodIn_app (goodIn_of _ (by decide +kernel)) ggX4_meetsMended_X1_copyFrom
set_option maxRecDepth 100000 in
set_option maxHeartbeats 4000000 in
theorem ggX4_meetsMended_X4_firstMeeting : GoodIn wsX4_meetsMended wsX4_firstMeeting := goodIn_r _ [24, 1, 25, 26, 27, 28, 29, 7, 30, 31, 32, 33, 34, 35, 36, 37, 38, 39, 40, 9, 41, 42, 43, 44, 45, 46, 47, 48, 49, 50, 51, 52, 53, 54, 55, 56, 57, 58, 59, 60, 61, 62, 63, 64, 65, 66, 67, 68, 69, 70, 71, 16, 72, 73, 74, 75, 76, 77, 18, 78, 79, 80, 81, 82, 19, 83, 84, 85, 86, 87, 88, 89, 90, 91, 15, 92, 93, 94, 95, 96, 97, 98, 99, 100, 101, 102, 103, 104, 105, 106, 107, 108, 109, 110, 14, 17, 111, 112, 113, 114, 115, 116, 117, 118, 119, 120, 121, 122, 123, 124, 125, 126, 127, 128, 129, 130, 131, 132, 133, 134, 135, 136, 137, 138, 139, 140, 150, 151, 152, 153, 154, 155, 156, 157, 158, 159, 160, 161, 162, 141, 142, 143, 144, 145, 146, 147, 148, 149] rfl (by decide +kernel)
set_option maxRecDepth 20000 in
theorem gX4_meetsMended_X4_firstMeeting : GoodIn wsX4_meetsMended (wsV RX4 162 RX4 yX4_firstMeeting wsX4_firstMeeting) := goodIn_app (goodIn_of _ (by decide +kernel)) ggX4_meetsMended_X4_firstMeeting
set_option maxRecDepth 100000 in
set_option maxHeartbeats 4000000 in
theorem ggX4_explainsAllSeen_X1_startAsTold : GoodIn wsX4_explainsAllSeen wsX1_startAsTold := goodIn_r _ [6, 7, 8, 9, 10, 11, 12, 13, 14, 15, 16, 17, 18, 19, 20, 21, 22, 23, 24, 25, 26, 27, 28, 29, 30, 31, 32, 33, 34, 35, 36, 37, 38, 39, 40, 41, 131, 132, 133, 134, 135, 136, 137, 138, 139, 140, 141, 142, 143, 144, 145, 146, 147, 148, 149, 150, 151, 152] rfl (by decide +kernel)
set_option maxRecDepth 20000 in
theorem gX4_explainsAllSeen_X1_startAsTold : GoodIn wsX4_explainsAllSeen (wsV RX4 87 RX1 yX1_startAsTold wsX1_startAsTold) := goodIn_app (goodIn_of _ (by decide +kernel)) ggX4_explainsAllSeen_X1_startAsTold
set_option maxRecDepth 100000 in
set_option maxHeartbeats 4000000 in
theorem ggX4_explainsAllSeen_X4_explainsNight : GoodIn wsX4_explainsAllSeen wsX4_explainsNight := goodIn_r _ [46, 47, 48, 1, 49, 50, 51, 117, 118, 119, 120, 121, 122, 123, 124, 125, 126, 127, 128, 129, 130, 131, 132, 133, 134, 135, 136, 137, 138, 139] rfl (by decide +kernel)
set_option maxRecDepth 20000 in
theorem gX4_explainsAllSeen_X4_explainsNight : GoodIn wsX4_explainsAllSeen (wsV RX4 231 RX4 yX4_explainsNight wsX4_explainsNight) := goodIn_app (goodIn_of _ (by decide +kernel)) ggX4_explainsAllSeen_X4_explainsNight
set_option maxRecDepth 100000 in
set_option maxHeartbeats 4000000 in
theorem ggX4_explainsAllSeen_X1_passNight : GoodIn wsX4_explainsAllSeen wsX1_passNight := goodIn_r _ [55, 16, 56, 57, 58, 59, 5, 60, 7, 61, 19, 62, 63, 64, 65, 66, 67, 20, 9, 68, 38, 39, 28, 40, 41, 69, 70, 71, 72, 73, 74, 75, 76, 15, 77, 78, 79, 80, 81, 82, 83, 84, 85, 86, 87, 88, 89, 90, 91, 92, 93, 94, 95, 14, 17, 96, 97, 98, 99, 100, 101, 102, 103, 104, 34, 35, 36, 37, 105, 106, 107, 108, 109, 110, 111, 112, 113, 114, 115, 116, 131, 132, 133, 134, 135, 136, 137, 138, 139, 140, 141, 142, 143, 144, 145, 146, 147, 148, 149, 150, 151, 152] rfl (by decide +kernel)
set_option maxRecDepth 20000 in
theorem gX4_explainsAllSeen_X1_passNight : GoodIn wsX4_explainsAllSeen (wsV RX4 133 RX1 yX1_passNight wsX1_passNight) := goodIn_app (goodIn_of _ (by decide +kernel)) ggX4_explainsAllSeen_X1_passNight
