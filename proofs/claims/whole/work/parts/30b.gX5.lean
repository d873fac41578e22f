set_option maxRecDepth 100000 in
set_option maxHeartbeats 4000000 in
theorem ggX5_plot_X5_in : GoodIn wsX5_plot wsX5_in := goodIn_r _ [11] rfl (by decide +kernel)
set_option maxRecDepth 20000 in
theorem gX5_plot_X5_in : GoodIn wsX5_plot (va_wsS RX5 81 yX5_in wsX5_in) := goodIn_app (goodIn_of _ (by decide +kernel)) ggX5_plot_X5_in
set_option maxRecDepth 100000 in
set_option maxHeartbeats 4000000 in
theorem ggX5_plot_X5_standsOn : GoodIn wsX5_plot wsX5_standsOn := goodIn_r _ [15, 16, 17, 18, 19, 20, 6, 21, 8, 22, 23, 24, 25, 26, 27, 28, 29, 30, 31, 32, 33, 34, 35, 36, 37, 38, 39, 40, 41, 42, 43, 44, 45, 46, 47, 48, 49, 50, 51, 52, 53, 54, 55, 56, 57, 58, 59, 60, 61] rfl (by decide +kernel)
set_option maxRecDepth 20000 in
theorem gX5_plot_X5_standsOn : GoodIn wsX5_plot (wsV RX5 222 RX5 yX5_standsOn wsX5_standsOn) := goodIn_app (goodIn_of _ (by decide +kernel)) ggX5_plot_X5_standsOn
set_option maxRecDepth 100000 in
set_option maxHeartbeats 4000000 in
theorem ggX5_layWays_X5_full : GoodIn wsX5_layWays wsX5_full := goodIn_r _ [10, 11, 3, 2, 12, 13, 14, 9, 15, 16, 25, 26, 27, 28, 29, 30, 31, 32, 33, 34, 35, 36, 37, 38, 39, 40, 41, 42, 43, 44, 45, 46, 47, 48, 49, 50, 51, 52, 53, 54, 55, 56, 57, 58, 59, 60, 61, 62, 63, 64] rfl (by decide +kernel)
set_option maxRecDepth 20000 in
theorem gX5_layWays_X5_full : GoodIn wsX5_layWays (wsV RX5 228 RX5 yX5_full wsX5_full) := goodIn_app (goodIn_of _ (by decide +kernel)) ggX5_layWays_X5_full
set_option maxRecDepth 100000 in
set_option maxHeartbeats 4000000 in
theorem ggX5_layWays_X5_next : GoodIn wsX5_layWays wsX5_next := goodIn_r _ [15, 16, 25, 26, 27, 28, 29, 30, 31, 32, 33, 34, 35, 36, 37, 38, 39, 40, 41, 42, 43, 44, 45, 46, 47, 48, 49, 50, 51, 52, 53, 54, 55, 56, 57, 58, 59, 60, 61, 62, 63, 64] rfl (by decide +kernel)
set_option maxRecDepth 20000 in
theorem gX5_layWays_X5_next : GoodIn wsX5_layWays (wsV RX5 215 RX5 yX5_next wsX5_next) := goodIn_app (goodIn_of _ (by decide +kernel)) ggX5_layWays_X5_next
set_option maxRecDepth 100000 in
set_option maxHeartbeats 4000000 in
theorem ggX5_layWays_X5_has : GoodIn wsX5_layWays wsX5_has := goodIn_r _ [19] rfl (by decide +kernel)
set_option maxRecDepth 20000 in
theorem gX5_layWays_X5_has : GoodIn wsX5_layWays (va_wsS RX5 232 yX5_has wsX5_has) := goodIn_app (goodIn_of _ (by decide +kernel)) ggX5_layWays_X5_has
set_option maxRecDepth 100000 in
set_option maxHeartbeats 4000000 in
theorem ggX5_layWays_X5_addWay : GoodIn wsX5_layWays wsX5_addWay := goodIn_r _ [23, 24, 1, 25, 26, 27, 28, 29, 30, 31, 32, 33, 34, 35, 36, 37, 38, 39, 40, 41, 42, 43, 44, 45, 46, 47, 48, 49, 50, 51, 52, 53, 54, 55, 56, 57, 58, 59, 60, 61, 62, 63, 64] rfl (by decide +kernel)
set_option maxRecDepth 20000 in
theorem gX5_layWays_X5_addWay : GoodIn wsX5_layWays (wsV RX5 235 RX5 yX5_addWay wsX5_addWay) := goodIn_app (goodIn_of _ (by decide +kernel)) ggX5_layWays_X5_addWay
set_option maxRecDepth 100000 in
set_option maxHeartbeats 4000000 in
theorem ggX5_house_X5_isHouse : GoodIn wsX5_house wsX5_isHouse := goodIn_r _ [7, 8, 9, 10, 6, 11, 12, 13, 14, 15, 16, 17, 18, 19, 20, 21, 22, 23, 24, 25, 26, 27, 28, 29, 30, 31, 32, 33, 34, 35, 36, 37, 38, 39, 40, 41, 42, 43, 44, 45, 46, 47, 48, 49, 50, 51] rfl (by decide +kernel)
set_option maxRecDepth 20000 in
theorem gX5_house_X5_isHouse : GoodIn wsX5_house (wsV RX5 239 RX5 yX5_isHouse wsX5_isHouse) := goodIn_app (goodIn_of _ (by decide +kernel)) ggX5_house_X5_isHouse
set_option maxRecDepth 100000 in
set_option maxHeartbeats 4000000 in
theorem ggX5_as_X5_isHouse : GoodIn wsX5_as wsX5_isHouse := goodIn_r _ [7, 8, 9, 10, 6, 11, 36, 37, 38, 39, 40, 41, 42, 43, 44, 45, 46, 47, 48, 49, 50, 51, 52, 53, 54, 55, 56, 57, 58, 59, 60, 61, 62, 63, 64, 65, 66, 67, 68, 69, 70, 71, 72, 73, 74, 75] rfl (by decide +kernel)
set_option maxRecDepth 20000 in
theorem gX5_as_X5_isHouse : GoodIn wsX5_as (wsV RX5 239 RX5 yX5_isHouse wsX5_isHouse) := goodIn_app (goodIn_of _ (by decide +kernel)) ggX5_as_X5_isHouse
set_option maxRecDepth 100000 in
set_option maxHeartbeats 4000000 in
theorem ggX5_as_X5_in : GoodIn wsX5_as wsX5_in := goodIn_r _ [11] rfl (by decide +kernel)
set_option maxRecDepth 20000 in
theorem gX5_as_X5_in : GoodIn wsX5_as (va_wsS RX5 81 yX5_in wsX5_in) := goodIn_app (goodIn_of _ (by decide +kernel)) ggX5_as_X5_in
set_option maxRecDepth 100000 in
set_option maxHeartbeats 4000000 in
theorem ggX5_as_X5_layWays : GoodIn wsX5_as wsX5_layWays := goodIn_r _ [15, 2, 1, 16, 17, 18, 19, 20, 21, 6, 22, 8, 23, 24, 25, 26, 27, 28, 29, 30, 31, 32, 33, 34, 35, 36, 37, 38, 39, 40, 41, 42, 43, 44, 45, 46, 47, 48, 49, 50, 51, 52, 53, 54, 55, 56, 57, 58, 59, 60, 61, 62, 63, 64, 65, 66, 67, 68, 69, 70, 71, 72, 73, 74, 75] rfl (by decide +kernel)
set_option maxRecDepth 20000 in
theorem gX5_as_X5_layWays : GoodIn wsX5_as (wsV RX5 242 RX5 yX5_layWays wsX5_layWays) := goodIn_app (goodIn_of _ (by decide +kernel)) ggX5_as_X5_layWays
set_option maxRecDepth 100000 in
set_option maxHeartbeats 4000000 in
theorem ggX5_can_X5_isHouse : GoodIn wsX5_can wsX5_isHouse := goodIn_r _ [7, 8, 9, 10, 6, 11, 36, 37, 38, 39, 40, 41, 42, 43, 44, 45, 46, 47, 48, 49, 50, 51, 52, 53, 54, 55, 56, 57, 58, 59, 60, 61, 62, 63, 64, 65, 66, 67, 68, 69, 70, 71, 72, 73, 74, 75] rfl (by decide +kernel)
set_option maxRecDepth 20000 in
theorem gX5_can_X5_isHouse : GoodIn wsX5_can (wsV RX5 239 RX5 yX5_isHouse wsX5_isHouse) := goodIn_app (goodIn_of _ (by decide +kernel)) ggX5_can_X5_isHouse
set_option maxRecDepth 100000 in
set_option maxHeartbeats 4000000 in
theorem ggX5_can_X5_layWays : GoodIn wsX5_can wsX5_layWays := goodIn_r _ [15, 1, 16, 17, 18, 19, 20, 21, 22, 6, 23, 8, 24, 25, 26, 27, 28, 29, 30, 31, 32, 33, 34, 35, 2, 36, 37, 38, 39, 40, 41, 42, 43, 44, 45, 46, 47, 48, 49, 50, 51, 52, 53, 54, 55, 56, 57, 58, 59, 60, 61, 62, 63, 64, 65, 66, 67, 68, 69, 70, 71, 72, 73, 74, 75] rfl (by decide +kernel)
set_option maxRecDepth 20000 in
theorem gX5_can_X5_layWays : GoodIn wsX5_can (wsV RX5 242 RX5 yX5_layWays wsX5_layWays) := goodIn_app (goodIn_of _ (by decide +kernel)) ggX5_can_X5_layWays
set_option maxRecDepth 100000 in
set_option maxHeartbeats 4000000 in
theorem ggX5_rolls_X5_layWays : GoodIn wsX5_rolls wsX5_layWays := goodIn_r _ [9, 4, 10, 3, 11, 12, 13, 14, 15, 8, 16, 1, 17, 18, 19, 20, 21, 22, 23, 24, 25, 26, 27, 28, 29, 30, 31, 32, 33, 34, 35, 36, 37, 38, 39, 40, 41, 42, 43, 44, 45, 46, 47, 48, 49, 50, 51, 52, 53, 54, 55, 56, 57, 58, 59, 60, 61, 62, 63, 64, 65, 66, 67, 68, 69] rfl (by decide +kernel)
set_option maxRecDepth 20000 in
theorem gX5_rolls_X5_layWays : GoodIn wsX5_rolls (wsV RX5 242 RX5 yX5_layWays wsX5_layWays) := goodIn_app (goodIn_of _ (by decide +kernel)) ggX5_rolls_X5_layWays
set_option maxRecDepth 100000 in
set_option maxHeartbeats 4000000 in
theorem ggX5_goLot_X5_layWays : GoodIn wsX5_goLot wsX5_layWays := goodIn_r _ [10, 2, 11, 3, 12, 13, 14, 15, 16, 9, 17, 1, 18, 19, 20, 21, 22, 23, 24, 25, 26, 27, 28, 29, 5, 34, 35, 36, 37, 38, 39, 40, 41, 42, 43, 44, 45, 46, 47, 48, 49, 50, 51, 52, 53, 54, 55, 56, 57, 58, 59, 60, 61, 62, 63, 64, 65, 66, 67, 68, 69, 70, 71, 72, 73] rfl (by decide +kernel)
set_option maxRecDepth 20000 in
theorem gX5_goLot_X5_layWays : GoodIn wsX5_goLot (wsV RX5 242 RX5 yX5_layWays wsX5_layWays) := goodIn_app (goodIn_of _ (by decide +kernel)) ggX5_goLot_X5_layWays
set_option maxRecDepth 100000 in
set_option maxHeartbeats 4000000 in
theorem ggX5_goLot_X5_rollTo : GoodIn wsX5_goLot wsX5_rollTo := goodIn_r _ [33, 3, 34, 35, 36, 37, 38, 39, 40, 41, 42, 43, 44, 45, 46, 47, 48, 49, 50, 51, 52, 53, 54, 55, 56, 57, 58, 59, 60, 61, 62, 63, 64, 65, 66, 67, 68, 69, 70, 71, 72, 73] rfl (by decide +kernel)
set_option maxRecDepth 20000 in
theorem gX5_goLot_X5_rollTo : GoodIn wsX5_goLot (wsV RX5 249 RX5 yX5_rollTo wsX5_rollTo) := goodIn_app (goodIn_of _ (by decide +kernel)) ggX5_goLot_X5_rollTo
set_option maxRecDepth 100000 in
set_option maxHeartbeats 4000000 in
theorem ggX5_goNight_X5_goLot : GoodIn wsX5_goNight wsX5_goLot := goodIn_r _ [9, 4, 10, 3, 11, 2, 12, 13, 14, 8, 15, 16, 17, 18, 19, 20, 21, 22, 23, 24, 25, 26, 27, 28, 29, 30, 31, 32, 33, 34, 35, 36, 37, 38, 43, 44, 45, 46, 47, 48, 49, 50, 51, 52, 53, 54, 55, 56, 57, 58, 59, 60, 61, 62, 63, 64, 65, 66, 67, 68, 69, 70, 71, 72, 73, 74, 75, 76, 77, 78, 79, 80, 81, 82] rfl (by decide +kernel)
set_option maxRecDepth 20000 in
theorem gX5_goNight_X5_goLot : GoodIn wsX5_goNight (wsV RX5 253 RX5 yX5_goLot wsX5_goLot) := goodIn_app (goodIn_of _ (by decide +kernel)) ggX5_goNight_X5_goLot
set_option maxRecDepth 100000 in
set_option maxHeartbeats 4000000 in
theorem ggX5_goNight_X5_rolls : GoodIn wsX5_goNight wsX5_rolls := goodIn_r _ [42, 4, 1, 3, 10, 12, 13, 14, 8, 15, 16, 17, 18, 19, 20, 21, 22, 23, 24, 25, 26, 27, 28, 29, 30, 31, 32, 33, 34, 2, 43, 44, 45, 46, 47, 48, 49, 50, 51, 52, 53, 54, 55, 56, 57, 58, 59, 60, 61, 62, 63, 64, 65, 66, 67, 68, 69, 70, 71, 72, 73, 74, 75, 76, 77, 78, 79, 80, 81, 82] rfl (by decide +kernel)
set_option maxRecDepth 20000 in
theorem gX5_goNight_X5_rolls : GoodIn wsX5_goNight (wsV RX5 256 RX5 yX5_rolls wsX5_rolls) := goodIn_app (goodIn_of _ (by decide +kernel)) ggX5_goNight_X5_rolls
set_option maxRecDepth 100000 in
set_option maxHeartbeats 4000000 in
theorem ggX5_goNight_X5_layWays : GoodIn wsX5_goNight wsX5_layWays := goodIn_r _ [15, 10, 16, 3, 17, 18, 19, 20, 21, 8, 22, 4, 23, 24, 25, 26, 27, 28, 29, 30, 31, 32, 33, 34, 2, 43, 44, 45, 46, 47, 48, 49, 50, 51, 52, 53, 54, 55, 56, 57, 58, 59, 60, 61, 62, 63, 64, 65, 66, 67, 68, 69, 70, 71, 72, 73, 74, 75, 76, 77, 78, 79, 80, 81, 82] rfl (by decide +kernel)
set_option maxRecDepth 20000 in
theorem gX5_goNight_X5_layWays : GoodIn wsX5_goNight (wsV RX5 242 RX5 yX5_layWays wsX5_layWays) := goodIn_app (goodIn_of _ (by decide +kernel)) ggX5_goNight_X5_layWays
set_option maxRecDepth 100000 in
set_option maxHeartbeats 4000000 in
theorem ggX5_goNight_X5_rollTo : GoodIn wsX5_goNight wsX5_rollTo := goodIn_r _ [38, 3, 43, 44, 45, 46, 47, 48, 49, 50, 51, 52, 53, 54, 55, 56, 57, 58, 59, 60, 61, 62, 63, 64, 65, 66, 67, 68, 69, 70, 71, 72, 73, 74, 75, 76, 77, 78, 79, 80, 81, 82] rfl (by decide +kernel)
set_option maxRecDepth 20000 in
theorem gX5_goNight_X5_rollTo : GoodIn wsX5_goNight (wsV RX5 249 RX5 yX5_rollTo wsX5_rollTo) := goodIn_app (goodIn_of _ (by decide +kernel)) ggX5_goNight_X5_rollTo
set_option maxRecDepth 100000 in
set_option maxHeartbeats 4000000 in
theorem ggX5_go_X5_in : GoodIn wsX5_go wsX5_in := goodIn_r _ [7] rfl (by decide +kernel)
set_option maxRecDepth 20000 in
theorem gX5_go_X5_in : GoodIn wsX5_go (va_wsS RX5 81 yX5_in wsX5_in) := goodIn_app (goodIn_of _ (by decide +kernel)) ggX5_go_X5_in
set_option maxRecDepth 100000 in
set_option maxHeartbeats 4000000 in
theorem ggX5_go_X5_goNight : GoodIn wsX5_go wsX5_goNight := goodIn_r _ [11, 3, 12, 1, 13, 14, 15, 16, 6, 17, 18, 19, 20, 21, 22, 23, 24, 25, 26, 27, 28, 29, 30, 31, 32, 33, 34, 35, 36, 37, 38, 39, 40, 41, 42, 43, 44, 45, 46, 47, 48, 49, 50, 51, 52, 53, 54, 55, 56, 57, 58, 59, 60, 61, 62, 63, 64, 65, 66, 67, 68, 69, 70, 71, 72, 73, 74, 75, 76, 77, 78, 79, 80, 81, 82, 83, 84, 85, 86, 87, 88, 89, 90] rfl (by decide +kernel)
set_option maxRecDepth 20000 in
theorem gX5_go_X5_goNight : GoodIn wsX5_go (wsV RX5 259 RX5 yX5_goNight wsX5_goNight) := goodIn_app (goodIn_of _ (by decide +kernel)) ggX5_go_X5_goNight
set_option maxRecDepth 100000 in
set_option maxHeartbeats 4000000 in
theorem ggX5_roll_X5_isHouse : GoodIn wsX5_roll wsX5_isHouse := goodIn_r _ [10, 5, 11, 12, 9, 13, 45, 46, 47, 48, 49, 50, 51, 52, 53, 54, 55, 56, 57, 58, 59, 60, 61, 62, 63, 64, 65, 66, 67, 68, 69, 70, 71, 72, 73, 74, 75, 76, 77, 78, 79, 80, 81, 82, 83, 84] rfl (by decide +kernel)
set_option maxRecDepth 20000 in
theorem gX5_roll_X5_isHouse : GoodIn wsX5_roll (wsV RX5 239 RX5 yX5_isHouse wsX5_isHouse) := goodIn_app (goodIn_of _ (by decide +kernel)) ggX5_roll_X5_isHouse
set_option maxRecDepth 100000 in
set_option maxHeartbeats 4000000 in
theorem ggX5_roll_X5_isPlot : GoodIn wsX5_roll wsX5_isPlot := goodIn_r _ [17, 18, 11, 12, 9, 13, 45, 46, 47, 48, 49, 50, 51, 52, 53, 54, 55, 56, 57, 58, 59, 60, 61, 62, 63, 64, 65, 66, 67, 68, 69, 70, 71, 72, 73, 74, 75, 76, 77, 78, 79, 80, 81, 82, 83, 84] rfl (by decide +kernel)
set_option maxRecDepth 20000 in
theorem gX5_roll_X5_isPlot : GoodIn wsX5_roll (wsV RX5 219 RX5 yX5_isPlot wsX5_isPlot) := goodIn_app (goodIn_of _ (by decide +kernel)) ggX5_roll_X5_isPlot
set_option maxRecDepth 100000 in
set_option maxHeartbeats 4000000 in
theorem ggX5_roll_X5_layWays : GoodIn wsX5_roll wsX5_layWays := goodIn_r _ [22, 1, 23, 3, 24, 25, 26, 27, 28, 9, 29, 5, 30, 31, 32, 33, 18, 34, 35, 36, 37, 38, 39, 40, 2, 45, 46, 47, 48, 49, 50, 51, 52, 53, 54, 55, 56, 57, 58, 59, 60, 61, 62, 63, 64, 65, 66, 67, 68, 69, 70, 71, 72, 73, 74, 75, 76, 77, 78, 79, 80, 81, 82, 83, 84] rfl (by decide +kernel)
set_option maxRecDepth 20000 in
theorem gX5_roll_X5_layWays : GoodIn wsX5_roll (wsV RX5 242 RX5 yX5_layWays wsX5_layWays) := goodIn_app (goodIn_of _ (by decide +kernel)) ggX5_roll_X5_layWays
set_option maxRecDepth 100000 in
set_option maxHeartbeats 4000000 in
theorem ggX5_roll_X5_rollTo : GoodIn wsX5_roll wsX5_rollTo := goodIn_r _ [44, 3, 45, 46, 47, 48, 49, 50, 51, 52, 53, 54, 55, 56, 57, 58, 59, 60, 61, 62, 63, 64, 65, 66, 67, 68, 69, 70, 71, 72, 73, 74, 75, 76, 77, 78, 79, 80, 81, 82, 83, 84] rfl (by decide +kernel)
set_option maxRecDepth 20000 in
theorem gX5_roll_X5_rollTo : GoodIn wsX5_roll (wsV RX5 249 RX5 yX5_rollTo wsX5_rollTo) := goodIn_app (goodIn_of _ (by decide +kernel)) ggX5_roll_X5_rollTo
set_option maxRecDepth 100000 in
set_option maxHeartbeats 4000000 in
theorem ggX5_keep_X5_in : GoodIn wsX5_keep wsX5_in := goodIn_r _ [7] rfl (by decide +kernel)
set_option maxRecDepth 20000 in
theorem gX5_keep_X5_in : GoodIn wsX5_keep (va_wsS RX5 81 yX5_in wsX5_in) := goodIn_app (goodIn_of _ (by decide +kernel)) ggX5_keep_X5_in
set_option maxRecDepth 100000 in
set_option maxHeartbeats 4000000 in
theorem ggX5_keep_X5_copy : GoodIn wsX5_keep wsX5_copy := goodIn_r _ [10] rfl (by decide +kernel)
set_option maxRecDepth 20000 in
theorem gX5_keep_X5_copy : GoodIn wsX5_keep (va_wsS RX5 262 yX5_copy wsX5_copy) := goodIn_app (goodIn_of _ (by decide +kernel)) ggX5_keep_X5_copy
set_option maxRecDepth 100000 in
set_option maxHeartbeats 4000000 in
theorem ggX5_back_X5_in : GoodIn wsX5_back wsX5_in := goodIn_r _ [7] rfl (by decide +kernel)
set_option maxRecDepth 20000 in
theorem gX5_back_X5_in : GoodIn wsX5_back (va_wsS RX5 81 yX5_in wsX5_in) := goodIn_app (goodIn_of _ (by decide +kernel)) ggX5_back_X5_in
set_option maxRecDepth 100000 in
set_option maxHeartbeats 4000000 in
theorem ggX5_back_X5_copy : GoodIn wsX5_back wsX5_copy := goodIn_r _ [10] rfl (by decide +kernel)
set_option maxRecDepth 20000 in
theorem gX5_back_X5_copy : GoodIn wsX5_back (va_wsS RX5 262 yX5_copy wsX5_copy) := goodIn_app (goodIn_of _ (by decide +kernel)) ggX5_back_X5_copy
set_option maxRecDepth 100000 in
set_option maxHeartbeats 4000000 in
theorem ggX5_putAside_X5_copy : GoodIn wsX5_putAside wsX5_copy := goodIn_r _ [8] rfl (by decide +kernel)
set_option maxRecDepth 20000 in
theorem gX5_putAside_X5_copy : GoodIn wsX5_putAside (va_wsS RX5 262 yX5_copy wsX5_copy) := goodIn_app (goodIn_of _ (by decide +kernel)) ggX5_putAside_X5_copy
set_option maxRecDepth 100000 in
set_option maxHeartbeats 4000000 in
theorem ggX5_putBack_X5_copy : GoodIn wsX5_putBack wsX5_copy := goodIn_r _ [6] rfl (by decide +kernel)
set_option maxRecDepth 20000 in
theorem gX5_putBack_X5_copy : GoodIn wsX5_putBack (va_wsS RX5 262 yX5_copy wsX5_copy) := goodIn_app (goodIn_of _ (by decide +kernel)) ggX5_putBack_X5_copy
set_option maxRecDepth 100000 in
set_option maxHeartbeats 4000000 in
theorem ggX5_later_X5_isHouse : GoodIn wsX5_later wsX5_isHouse := goodIn_r _ [6, 7, 8, 9, 5, 10, 67, 68, 69, 70, 71, 72, 73, 74, 75, 76, 77, 78, 79, 80, 81, 82, 83, 84, 85, 86, 87, 88, 89, 90, 91, 92, 93, 94, 95, 96, 97, 98, 99, 100, 101, 102, 103, 104, 105, 106] rfl (by decide +kernel)
set_option maxRecDepth 20000 in
theorem gX5_later_X5_isHouse : GoodIn wsX5_later (wsV RX5 239 RX5 yX5_isHouse wsX5_isHouse) := goodIn_app (goodIn_of _ (by decide +kernel)) ggX5_later_X5_isHouse
set_option maxRecDepth 100000 in
set_option maxHeartbeats 4000000 in
theorem ggX5_later_X5_in : GoodIn wsX5_later wsX5_in := goodIn_r _ [10] rfl (by decide +kernel)
set_option maxRecDepth 20000 in
theorem gX5_later_X5_in : GoodIn wsX5_later (va_wsS RX5 81 yX5_in wsX5_in) := goodIn_app (goodIn_of _ (by decide +kernel)) ggX5_later_X5_in
set_option maxRecDepth 100000 in
set_option maxHeartbeats 4000000 in
theorem ggX5_later_X5_putAside : GoodIn wsX5_later wsX5_putAside := goodIn_r _ [14, 1, 15, 16, 17, 18, 19, 5, 20, 67, 68, 69, 70, 71, 72, 73, 74, 75, 76, 77, 78, 79, 80, 81, 82, 83, 84, 85, 86, 87, 88, 89, 90, 91, 92, 93, 94, 95, 96, 97, 98, 99, 100, 101, 102, 103, 104, 105, 106] rfl (by decide +kernel)
set_option maxRecDepth 20000 in
theorem gX5_later_X5_putAside : GoodIn wsX5_later (wsV RX5 266 RX5 yX5_putAside wsX5_putAside) := goodIn_app (goodIn_of _ (by decide +kernel)) ggX5_later_X5_putAside
set_option maxRecDepth 100000 in
set_option maxHeartbeats 4000000 in
theorem ggX5_later_X5_goNight : GoodIn wsX5_later wsX5_goNight := goodIn_r _ [24, 17, 25, 1, 7, 26, 27, 28, 5, 29, 30, 31, 32, 33, 34, 35, 36, 37, 38, 39, 40, 41, 42, 43, 44, 45, 46, 47, 48, 49, 50, 51, 52, 53, 54, 55, 56, 57, 58, 59, 60, 61, 62, 67, 68, 69, 70, 71, 72, 73, 74, 75, 76, 77, 78, 79, 80, 81, 82, 83, 84, 85, 86, 87, 88, 89, 90, 91, 92, 93, 94, 95, 96, 97, 98, 99, 100, 101, 102, 103, 104, 105, 106] rfl (by decide +kernel)
set_option maxRecDepth 20000 in
theorem gX5_later_X5_goNight : GoodIn wsX5_later (wsV RX5 259 RX5 yX5_goNight wsX5_goNight) := goodIn_app (goodIn_of _ (by decide +kernel)) ggX5_later_X5_goNight
set_option maxRecDepth 100000 in
set_option maxHeartbeats 4000000 in
theorem ggX5_later_X5_putBack : GoodIn wsX5_later wsX5_putBack := goodIn_r _ [66, 15, 1, 18, 19, 5, 20, 67, 68, 69, 70, 71, 72, 73, 74, 75, 76, 77, 78, 79, 80, 81, 82, 83, 84, 85, 86, 87, 88, 89, 90, 91, 92, 93, 94, 95, 96, 97, 98, 99, 100, 101, 102, 103, 104, 105, 106] rfl (by decide +kernel)
set_option maxRecDepth 20000 in
theorem gX5_later_X5_putBack : GoodIn wsX5_later (wsV RX5 269 RX5 yX5_putBack wsX5_putBack) := goodIn_app (goodIn_of _ (by decide +kernel)) ggX5_later_X5_putBack
