set_option maxRecDepth 100000 in
set_option maxHeartbeats 4000000 in
theorem ggX5_feuding_X5_areDays : GoodIn wsX5_feuding wsX5_areDays := goodIn_r _ [6, 7, 8, 5, 9] rfl (by decide +kernel)
set_option maxRecDepth 20000 in
theorem gX5_feuding_X5_areDays : GoodIn wsX5_feuding (va_wsS RX5 295 yX5_areDays wsX5_areDays) := goodIn_app (goodIn_of _ (by decide +kernel)) ggX5_feuding_X5_areDays
set_option maxRecDepth 100000 in
set_option maxHeartbeats 4000000 in
theorem ggX5_feuding_X5_putAside : GoodIn wsX5_feuding wsX5_putAside := goodIn_r _ [13, 14, 15, 16, 17, 18, 19, 5, 20, 76, 77, 78, 79, 80, 81, 82, 83, 84, 85, 86, 87, 88, 89, 90, 91, 92, 93, 94, 95, 96, 97, 98, 99, 100, 101, 102, 103, 104, 105, 106, 107, 108, 109, 110, 111, 112, 113, 114, 115] rfl (by decide +kernel)
set_option maxRecDepth 20000 in
theorem gX5_feuding_X5_putAside : GoodIn wsX5_feuding (wsV RX5 266 RX5 yX5_putAside wsX5_putAside) := goodIn_app (goodIn_of _ (by decide +kernel)) ggX5_feuding_X5_putAside
set_option maxRecDepth 100000 in
set_option maxHeartbeats 4000000 in
theorem ggX5_feuding_X5_areBeside : GoodIn wsX5_feuding wsX5_areBeside := goodIn_r _ [24, 25, 26, 27, 28, 5, 29, 14, 30, 31, 32, 33, 34, 76, 77, 78, 79, 80, 81, 82, 83, 84, 85, 86, 87, 88, 89, 90, 91, 92, 93, 94, 95, 96, 97, 98, 99, 100, 101, 102, 103, 104, 105, 106, 107, 108, 109, 110, 111, 112, 113, 114, 115] rfl (by decide +kernel)
set_option maxRecDepth 20000 in
theorem gX5_feuding_X5_areBeside : GoodIn wsX5_feuding (wsV RX5 285 RX5 yX5_areBeside wsX5_areBeside) := goodIn_app (goodIn_of _ (by decide +kernel)) ggX5_feuding_X5_areBeside
set_option maxRecDepth 100000 in
set_option maxHeartbeats 4000000 in
theorem ggX5_feuding_X5_goNight : GoodIn wsX5_feuding wsX5_goNight := goodIn_r _ [38, 17, 39, 14, 40, 41, 42, 43, 5, 44, 45, 46, 47, 48, 49, 50, 30, 51, 52, 53, 54, 55, 56, 31, 32, 33, 34, 25, 57, 58, 59, 60, 61, 62, 63, 64, 65, 66, 67, 68, 69, 70, 71, 76, 77, 78, 79, 80, 81, 82, 83, 84, 85, 86, 87, 88, 89, 90, 91, 92, 93, 94, 95, 96, 97, 98, 99, 100, 101, 102, 103, 104, 105, 106, 107, 108, 109, 110, 111, 112, 113, 114, 115] rfl (by decide +kernel)
set_option maxRecDepth 20000 in
theorem gX5_feuding_X5_goNight : GoodIn wsX5_feuding (wsV RX5 259 RX5 yX5_goNight wsX5_goNight) := goodIn_app (goodIn_of _ (by decide +kernel)) ggX5_feuding_X5_goNight
set_option maxRecDepth 100000 in
set_option maxHeartbeats 4000000 in
theorem ggX5_feuding_X5_putBack : GoodIn wsX5_feuding wsX5_putBack := goodIn_r _ [75, 15, 14, 18, 19, 5, 20, 76, 77, 78, 79, 80, 81, 82, 83, 84, 85, 86, 87, 88, 89, 90, 91, 92, 93, 94, 95, 96, 97, 98, 99, 100, 101, 102, 103, 104, 105, 106, 107, 108, 109, 110, 111, 112, 113, 114, 115] rfl (by decide +kernel)
set_option maxRecDepth 20000 in
theorem gX5_feuding_X5_putBack : GoodIn wsX5_feuding (wsV RX5 269 RX5 yX5_putBack wsX5_putBack) := goodIn_app (goodIn_of _ (by decide +kernel)) ggX5_feuding_X5_putBack
set_option maxRecDepth 100000 in
set_option maxHeartbeats 4000000 in
theorem ggX5_firstRow_X5_areBeside : GoodIn wsX5_firstRow wsX5_areBeside := goodIn_r _ [12, 13, 14, 15, 16, 11, 17, 7, 18, 19, 20, 21, 22, 49, 50, 51, 52, 53, 54, 55, 56, 57, 58, 59, 60, 61, 62, 63, 64, 65, 66, 67, 68, 69, 70, 71, 72, 73, 74, 75, 76, 77, 78, 79, 80, 81, 82, 83, 84, 85, 86, 87, 88] rfl (by decide +kernel)
set_option maxRecDepth 20000 in
theorem gX5_firstRow_X5_areBeside : GoodIn wsX5_firstRow (wsV RX5 285 RX5 yX5_areBeside wsX5_areBeside) := goodIn_app (goodIn_of _ (by decide +kernel)) ggX5_firstRow_X5_areBeside
set_option maxRecDepth 100000 in
set_option maxHeartbeats 4000000 in
theorem ggX5_firstRow_X5_enter : GoodIn wsX5_firstRow wsX5_enter := goodIn_r _ [26, 27, 7, 1, 3, 49, 50, 51, 52, 53, 54, 55, 56, 57, 58, 59, 60, 61, 62, 63, 64, 65, 66, 67, 68, 69, 70, 71, 72, 73, 74, 75, 76, 77, 78, 79, 80, 81, 82, 83, 84, 85, 86, 87, 88] rfl (by decide +kernel)
set_option maxRecDepth 20000 in
theorem gX5_firstRow_X5_enter : GoodIn wsX5_firstRow (wsV RX5 298 RX5 yX5_enter wsX5_enter) := goodIn_app (goodIn_of _ (by decide +kernel)) ggX5_firstRow_X5_enter
set_option maxRecDepth 100000 in
set_option maxHeartbeats 4000000 in
theorem ggX5_firstRow_X5_restore : GoodIn wsX5_firstRow wsX5_restore := goodIn_r _ [31, 7, 27, 49, 50, 51, 52, 53, 54, 55, 56, 57, 58, 59, 60, 61, 62, 63, 64, 65, 66, 67, 68, 69, 70, 71, 72, 73, 74, 75, 76, 77, 78, 79, 80, 81, 82, 83, 84, 85, 86, 87, 88] rfl (by decide +kernel)
set_option maxRecDepth 20000 in
theorem gX5_firstRow_X5_restore : GoodIn wsX5_firstRow (wsV RX5 301 RX5 yX5_restore wsX5_restore) := goodIn_app (goodIn_of _ (by decide +kernel)) ggX5_firstRow_X5_restore
set_option maxRecDepth 100000 in
set_option maxHeartbeats 4000000 in
theorem ggX5_firstRow_X5_layWays : GoodIn wsX5_firstRow wsX5_layWays := goodIn_r _ [35, 4, 18, 7, 36, 37, 38, 39, 40, 11, 41, 2, 19, 20, 21, 22, 13, 42, 43, 44, 45, 46, 47, 48, 5, 49, 50, 51, 52, 53, 54, 55, 56, 57, 58, 59, 60, 61, 62, 63, 64, 65, 66, 67, 68, 69, 70, 71, 72, 73, 74, 75, 76, 77, 78, 79, 80, 81, 82, 83, 84, 85, 86, 87, 88] rfl (by decide +kernel)
set_option maxRecDepth 20000 in
theorem gX5_firstRow_X5_layWays : GoodIn wsX5_firstRow (wsV RX5 242 RX5 yX5_layWays wsX5_layWays) := goodIn_app (goodIn_of _ (by decide +kernel)) ggX5_firstRow_X5_layWays
set_option maxRecDepth 100000 in
set_option maxHeartbeats 4000000 in
theorem ggX5_nearest_X5_in : GoodIn wsX5_nearest wsX5_in := goodIn_r _ [4] rfl (by decide +kernel)
set_option maxRecDepth 20000 in
theorem gX5_nearest_X5_in : GoodIn wsX5_nearest (va_wsS RX5 81 yX5_in wsX5_in) := goodIn_app (goodIn_of _ (by decide +kernel)) ggX5_nearest_X5_in
set_option maxRecDepth 100000 in
set_option maxHeartbeats 4000000 in
theorem ggX5_nearest_X5_whyNot : GoodIn wsX5_nearest wsX5_whyNot := goodIn_r _ [8, 9, 10, 11, 3, 12, 13, 1, 2, 4, 78, 79, 80, 81, 82, 83, 84, 85, 86, 87, 88, 89, 90, 91, 92, 93, 94, 95, 96, 97, 98, 99, 100, 101, 102, 103, 104, 105, 106, 107, 108, 109, 110, 111, 112, 113, 114, 115, 116, 117] rfl (by decide +kernel)
set_option maxRecDepth 20000 in
theorem gX5_nearest_X5_whyNot : GoodIn wsX5_nearest (wsV RX5 288 RX5 yX5_whyNot wsX5_whyNot) := goodIn_app (goodIn_of _ (by decide +kernel)) ggX5_nearest_X5_whyNot
set_option maxRecDepth 100000 in
set_option maxHeartbeats 4000000 in
theorem ggX5_nearest_X5_putAside : GoodIn wsX5_nearest wsX5_putAside := goodIn_r _ [17, 18, 19, 20, 21, 22, 23, 3, 24, 78, 79, 80, 81, 82, 83, 84, 85, 86, 87, 88, 89, 90, 91, 92, 93, 94, 95, 96, 97, 98, 99, 100, 101, 102, 103, 104, 105, 106, 107, 108, 109, 110, 111, 112, 113, 114, 115, 116, 117] rfl (by decide +kernel)
set_option maxRecDepth 20000 in
theorem gX5_nearest_X5_putAside : GoodIn wsX5_nearest (wsV RX5 266 RX5 yX5_putAside wsX5_putAside) := goodIn_app (goodIn_of _ (by decide +kernel)) ggX5_nearest_X5_putAside
set_option maxRecDepth 100000 in
set_option maxHeartbeats 4000000 in
theorem ggX5_nearest_X5_firstRow : GoodIn wsX5_nearest wsX5_firstRow := goodIn_r _ [28, 29, 13, 30, 31, 32, 33, 18, 34, 35, 36, 3, 37, 38, 39, 40, 41, 42, 43, 44, 45, 46, 47, 48, 49, 50, 51, 52, 53, 54, 55, 56, 57, 58, 59, 60, 61, 62, 63, 64, 65, 66, 67, 68, 69, 70, 71, 72, 73, 78, 79, 80, 81, 82, 83, 84, 85, 86, 87, 88, 89, 90, 91, 92, 93, 94, 95, 96, 97, 98, 99, 100, 101, 102, 103, 104, 105, 106, 107, 108, 109, 110, 111, 112, 113, 114, 115, 116, 117] rfl (by decide +kernel)
set_option maxRecDepth 20000 in
theorem gX5_nearest_X5_firstRow : GoodIn wsX5_nearest (wsV RX5 304 RX5 yX5_firstRow wsX5_firstRow) := goodIn_app (goodIn_of _ (by decide +kernel)) ggX5_nearest_X5_firstRow
set_option maxRecDepth 100000 in
set_option maxHeartbeats 4000000 in
theorem ggX5_nearest_X5_putBack : GoodIn wsX5_nearest wsX5_putBack := goodIn_r _ [77, 19, 18, 22, 23, 3, 24, 78, 79, 80, 81, 82, 83, 84, 85, 86, 87, 88, 89, 90, 91, 92, 93, 94, 95, 96, 97, 98, 99, 100, 101, 102, 103, 104, 105, 106, 107, 108, 109, 110, 111, 112, 113, 114, 115, 116, 117] rfl (by decide +kernel)
set_option maxRecDepth 20000 in
theorem gX5_nearest_X5_putBack : GoodIn wsX5_nearest (wsV RX5 269 RX5 yX5_putBack wsX5_putBack) := goodIn_app (goodIn_of _ (by decide +kernel)) ggX5_nearest_X5_putBack
set_option maxRecDepth 100000 in
set_option maxHeartbeats 4000000 in
theorem ggX5_doMeet_X5_putAside : GoodIn wsX5_doMeet wsX5_putAside := goodIn_r _ [5, 6, 7, 8, 9, 10, 11, 4, 12, 68, 69, 70, 71, 72, 73, 74, 75, 76, 77, 78, 79, 80, 81, 82, 83, 84, 85, 86, 87, 88, 89, 90, 91, 92, 93, 94, 95, 96, 97, 98, 99, 100, 101, 102, 103, 104, 105, 106, 107] rfl (by decide +kernel)
set_option maxRecDepth 20000 in
theorem gX5_doMeet_X5_putAside : GoodIn wsX5_doMeet (wsV RX5 266 RX5 yX5_putAside wsX5_putAside) := goodIn_app (goodIn_of _ (by decide +kernel)) ggX5_doMeet_X5_putAside
set_option maxRecDepth 100000 in
set_option maxHeartbeats 4000000 in
theorem ggX5_doMeet_X5_areBeside : GoodIn wsX5_doMeet wsX5_areBeside := goodIn_r _ [16, 17, 18, 19, 20, 4, 21, 6, 22, 23, 24, 25, 26, 68, 69, 70, 71, 72, 73, 74, 75, 76, 77, 78, 79, 80, 81, 82, 83, 84, 85, 86, 87, 88, 89, 90, 91, 92, 93, 94, 95, 96, 97, 98, 99, 100, 101, 102, 103, 104, 105, 106, 107] rfl (by decide +kernel)
set_option maxRecDepth 20000 in
theorem gX5_doMeet_X5_areBeside : GoodIn wsX5_doMeet (wsV RX5 285 RX5 yX5_areBeside wsX5_areBeside) := goodIn_app (goodIn_of _ (by decide +kernel)) ggX5_doMeet_X5_areBeside
set_option maxRecDepth 100000 in
set_option maxHeartbeats 4000000 in
theorem ggX5_doMeet_X5_goNight : GoodIn wsX5_doMeet wsX5_goNight := goodIn_r _ [30, 9, 31, 6, 32, 33, 34, 35, 4, 36, 37, 38, 39, 40, 41, 42, 22, 43, 44, 45, 46, 47, 48, 23, 24, 25, 26, 17, 49, 50, 51, 52, 53, 54, 55, 56, 57, 58, 59, 60, 61, 62, 63, 68, 69, 70, 71, 72, 73, 74, 75, 76, 77, 78, 79, 80, 81, 82, 83, 84, 85, 86, 87, 88, 89, 90, 91, 92, 93, 94, 95, 96, 97, 98, 99, 100, 101, 102, 103, 104, 105, 106, 107] rfl (by decide +kernel)
set_option maxRecDepth 20000 in
theorem gX5_doMeet_X5_goNight : GoodIn wsX5_doMeet (wsV RX5 259 RX5 yX5_goNight wsX5_goNight) := goodIn_app (goodIn_of _ (by decide +kernel)) ggX5_doMeet_X5_goNight
set_option maxRecDepth 100000 in
set_option maxHeartbeats 4000000 in
theorem ggX5_doMeet_X5_putBack : GoodIn wsX5_doMeet wsX5_putBack := goodIn_r _ [67, 7, 6, 10, 11, 4, 12, 68, 69, 70, 71, 72, 73, 74, 75, 76, 77, 78, 79, 80, 81, 82, 83, 84, 85, 86, 87, 88, 89, 90, 91, 92, 93, 94, 95, 96, 97, 98, 99, 100, 101, 102, 103, 104, 105, 106, 107] rfl (by decide +kernel)
set_option maxRecDepth 20000 in
theorem gX5_doMeet_X5_putBack : GoodIn wsX5_doMeet (wsV RX5 269 RX5 yX5_putBack wsX5_putBack) := goodIn_app (goodIn_of _ (by decide +kernel)) ggX5_doMeet_X5_putBack
set_option maxRecDepth 100000 in
set_option maxHeartbeats 4000000 in
theorem ggX5_mends_X5_in : GoodIn wsX5_mends wsX5_in := goodIn_r _ [6] rfl (by decide +kernel)
set_option maxRecDepth 20000 in
theorem gX5_mends_X5_in : GoodIn wsX5_mends (va_wsS RX5 81 yX5_in wsX5_in) := goodIn_app (goodIn_of _ (by decide +kernel)) ggX5_mends_X5_in
set_option maxRecDepth 100000 in
set_option maxHeartbeats 4000000 in
theorem ggX5_mends_X5_whyNot : GoodIn wsX5_mends wsX5_whyNot := goodIn_r _ [10, 11, 12, 13, 5, 14, 1, 3, 4, 6, 87, 88, 89, 90, 91, 92, 93, 94, 95, 96, 97, 98, 99, 100, 101, 102, 103, 104, 105, 106, 107, 108, 109, 110, 111, 112, 113, 114, 115, 116, 117, 118, 119, 120, 121, 122, 123, 124, 125, 126] rfl (by decide +kernel)
set_option maxRecDepth 20000 in
theorem gX5_mends_X5_whyNot : GoodIn wsX5_mends (wsV RX5 288 RX5 yX5_whyNot wsX5_whyNot) := goodIn_app (goodIn_of _ (by decide +kernel)) ggX5_mends_X5_whyNot
set_option maxRecDepth 100000 in
set_option maxHeartbeats 4000000 in
theorem ggX5_mends_X5_has : GoodIn wsX5_mends wsX5_has := goodIn_r _ [17] rfl (by decide +kernel)
set_option maxRecDepth 20000 in
theorem gX5_mends_X5_has : GoodIn wsX5_mends (va_wsS RX5 232 yX5_has wsX5_has) := goodIn_app (goodIn_of _ (by decide +kernel)) ggX5_mends_X5_has
set_option maxRecDepth 100000 in
set_option maxHeartbeats 4000000 in
theorem ggX5_mends_X5_mend : GoodIn wsX5_mends wsX5_mend := goodIn_r _ [21, 1, 2, 15, 16, 5, 17, 87, 88, 89, 90, 91, 92, 93, 94, 95, 96, 97, 98, 99, 100, 101, 102, 103, 104, 105, 106, 107, 108, 109, 110, 111, 112, 113, 114, 115, 116, 117, 118, 119, 120, 121, 122, 123, 124, 125, 126] rfl (by decide +kernel)
set_option maxRecDepth 20000 in
theorem gX5_mends_X5_mend : GoodIn wsX5_mends (wsV RX5 308 RX5 yX5_mend wsX5_mend) := goodIn_app (goodIn_of _ (by decide +kernel)) ggX5_mends_X5_mend
set_option maxRecDepth 100000 in
set_option maxHeartbeats 4000000 in
theorem ggX5_mends_X5_doMeet : GoodIn wsX5_mends wsX5_doMeet := goodIn_r _ [25, 26, 27, 28, 5, 29, 30, 31, 32, 33, 34, 35, 36, 37, 38, 39, 40, 41, 42, 43, 44, 45, 2, 46, 47, 48, 49, 50, 51, 52, 53, 54, 1, 55, 56, 57, 58, 59, 60, 61, 62, 63, 64, 65, 66, 67, 68, 69, 70, 15, 16, 17, 71, 72, 73, 74, 75, 76, 77, 78, 79, 80, 81, 82, 83, 84, 85, 86, 87, 88, 89, 90, 91, 92, 93, 94, 95, 96, 97, 98, 99, 100, 101, 102, 103, 104, 105, 106, 107, 108, 109, 110, 111, 112, 113, 114, 115, 116, 117, 118, 119, 120, 121, 122, 123, 124, 125, 126] rfl (by decide +kernel)
set_option maxRecDepth 20000 in
theorem gX5_mends_X5_doMeet : GoodIn wsX5_mends (wsV RX5 311 RX5 yX5_doMeet wsX5_doMeet) := goodIn_app (goodIn_of _ (by decide +kernel)) ggX5_mends_X5_doMeet
set_option maxRecDepth 100000 in
set_option maxHeartbeats 4000000 in
theorem ggX5_mend_X5_has : GoodIn wsX5_mend wsX5_has := goodIn_r _ [6] rfl (by decide +kernel)
set_option maxRecDepth 20000 in
theorem gX5_mend_X5_has : GoodIn wsX5_mend (va_wsS RX5 232 yX5_has wsX5_has) := goodIn_app (goodIn_of _ (by decide +kernel)) ggX5_mend_X5_has
set_option maxRecDepth 100000 in
set_option maxHeartbeats 4000000 in
theorem ggX5_seen_X5_isHouse : GoodIn wsX5_seen wsX5_isHouse := goodIn_r _ [7, 8, 9, 10, 6, 11, 17, 18, 19, 20, 21, 22, 23, 24, 25, 26, 27, 28, 29, 30, 31, 32, 33, 34, 35, 36, 37, 38, 39, 40, 41, 42, 43, 44, 45, 46, 47, 48, 49, 50, 51, 52, 53, 54, 55, 56] rfl (by decide +kernel)
set_option maxRecDepth 20000 in
theorem gX5_seen_X5_isHouse : GoodIn wsX5_seen (wsV RX5 239 RX5 yX5_isHouse wsX5_isHouse) := goodIn_app (goodIn_of _ (by decide +kernel)) ggX5_seen_X5_isHouse
set_option maxRecDepth 100000 in
set_option maxHeartbeats 4000000 in
theorem ggX5_seen_X5_isPlot : GoodIn wsX5_seen wsX5_isPlot := goodIn_r _ [15, 16, 9, 10, 6, 11, 17, 18, 19, 20, 21, 22, 23, 24, 25, 26, 27, 28, 29, 30, 31, 32, 33, 34, 35, 36, 37, 38, 39, 40, 41, 42, 43, 44, 45, 46, 47, 48, 49, 50, 51, 52, 53, 54, 55, 56] rfl (by decide +kernel)
set_option maxRecDepth 20000 in
theorem gX5_seen_X5_isPlot : GoodIn wsX5_seen (wsV RX5 219 RX5 yX5_isPlot wsX5_isPlot) := goodIn_app (goodIn_of _ (by decide +kernel)) ggX5_seen_X5_isPlot
set_option maxRecDepth 100000 in
set_option maxHeartbeats 4000000 in
theorem ggX5_seen_X5_in : GoodIn wsX5_seen wsX5_in := goodIn_r _ [11] rfl (by decide +kernel)
set_option maxRecDepth 20000 in
theorem gX5_seen_X5_in : GoodIn wsX5_seen (va_wsS RX5 81 yX5_in wsX5_in) := goodIn_app (goodIn_of _ (by decide +kernel)) ggX5_seen_X5_in
set_option maxRecDepth 100000 in
set_option maxHeartbeats 4000000 in
theorem ggX5_laws_X5_putAside : GoodIn wsX5_laws wsX5_putAside := goodIn_r _ [9, 4, 10, 11, 1, 12, 13, 8, 14, 68, 69, 70, 71, 72, 73, 74, 75, 76, 77, 78, 79, 80, 81, 82, 83, 84, 85, 86, 87, 88, 89, 90, 91, 92, 93, 94, 95, 96, 97, 98, 99, 100, 101, 102, 103, 104, 105, 106, 107] rfl (by decide +kernel)
set_option maxRecDepth 20000 in
theorem gX5_laws_X5_putAside : GoodIn wsX5_laws (wsV RX5 266 RX5 yX5_putAside wsX5_putAside) := goodIn_app (goodIn_of _ (by decide +kernel)) ggX5_laws_X5_putAside
set_option maxRecDepth 100000 in
set_option maxHeartbeats 4000000 in
theorem ggX5_laws_X5_begin : GoodIn wsX5_laws wsX5_begin := goodIn_r _ [18, 4, 19, 20, 68, 69, 70, 71, 72, 73, 74, 75, 76, 77, 78, 79, 80, 81, 82, 83, 84, 85, 86, 87, 88, 89, 90, 91, 92, 93, 94, 95, 96, 97, 98, 99, 100, 101, 102, 103, 104, 105, 106, 107] rfl (by decide +kernel)
set_option maxRecDepth 20000 in
theorem gX5_laws_X5_begin : GoodIn wsX5_laws (wsV RX5 75 RX5 yX5_begin wsX5_begin) := goodIn_app (goodIn_of _ (by decide +kernel)) ggX5_laws_X5_begin
set_option maxRecDepth 100000 in
set_option maxHeartbeats 4000000 in
theorem ggX5_laws_X5_goNight : GoodIn wsX5_laws wsX5_goNight := goodIn_r _ [24, 1, 25, 4, 26, 27, 28, 29, 8, 30, 31, 32, 33, 34, 35, 36, 37, 38, 39, 40, 41, 42, 43, 44, 45, 46, 47, 48, 49, 50, 51, 52, 53, 54, 55, 56, 57, 58, 59, 60, 61, 62, 63, 68, 69, 70, 71, 72, 73, 74, 75, 76, 77, 78, 79, 80, 81, 82, 83, 84, 85, 86, 87, 88, 89, 90, 91, 92, 93, 94, 95, 96, 97, 98, 99, 100, 101, 102, 103, 104, 105, 106, 107] rfl (by decide +kernel)
set_option maxRecDepth 20000 in
theorem gX5_laws_X5_goNight : GoodIn wsX5_laws (wsV RX5 259 RX5 yX5_goNight wsX5_goNight) := goodIn_app (goodIn_of _ (by decide +kernel)) ggX5_laws_X5_goNight
set_option maxRecDepth 100000 in
set_option maxHeartbeats 4000000 in
theorem ggX5_laws_X5_putBack : GoodIn wsX5_laws wsX5_putBack := goodIn_r _ [67, 10, 4, 12, 13, 8, 14, 68, 69, 70, 71, 72, 73, 74, 75, 76, 77, 78, 79, 80, 81, 82, 83, 84, 85, 86, 87, 88, 89, 90, 91, 92, 93, 94, 95, 96, 97, 98, 99, 100, 101, 102, 103, 104, 105, 106, 107] rfl (by decide +kernel)
set_option maxRecDepth 20000 in
theorem gX5_laws_X5_putBack : GoodIn wsX5_laws (wsV RX5 269 RX5 yX5_putBack wsX5_putBack) := goodIn_app (goodIn_of _ (by decide +kernel)) ggX5_laws_X5_putBack
set_option maxRecDepth 100000 in
set_option maxHeartbeats 4000000 in
theorem ggX5_count_X5_full : GoodIn wsX5_count wsX5_full := goodIn_r _ [13, 2, 6, 14, 15, 16, 17, 12, 18, 1, 19, 20, 21, 22, 23, 24, 25, 26, 27, 28, 29, 30, 31, 32, 33, 34, 35, 36, 37, 38, 39, 40, 41, 42, 43, 44, 45, 46, 47, 48, 49, 50, 51, 52, 53, 54, 55, 56, 57, 58] rfl (by decide +kernel)
set_option maxRecDepth 20000 in
theorem gX5_count_X5_full : GoodIn wsX5_count (wsV RX5 228 RX5 yX5_full wsX5_full) := goodIn_app (goodIn_of _ (by decide +kernel)) ggX5_count_X5_full
