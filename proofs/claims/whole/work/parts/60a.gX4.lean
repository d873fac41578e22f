set_option maxRecDepth 100000 in
set_option maxHeartbeats 4000000 in
theorem ggX4_init_X3_init : GoodIn wsX4_init wsX3_init := goodIn_r _ [34, 35, 2, 3, 25, 36, 37, 38, 39, 40, 41, 42, 43, 44, 45, 6, 46, 47, 48, 49, 50, 51, 52, 53, 54, 55, 56, 57, 58, 59, 60, 61, 99, 100, 101, 102, 103, 104, 105, 106, 107, 108, 109, 110, 111, 112] rfl (by decide +kernel)
set_option maxRecDepth 20000 in
theorem gX4_init_X3_init : GoodIn wsX4_init (wsX3_init) := ggX4_init_X3_init
set_option maxRecDepth 100000 in
set_option maxHeartbeats 4000000 in
theorem ggX4_init_X2_init : GoodIn wsX4_init wsX2_init := goodIn_r _ [63, 64, 2, 3, 25, 65, 127, 128, 129, 130, 131] rfl (by decide +kernel)
set_option maxRecDepth 20000 in
theorem gX4_init_X2_init_n21 : GoodIn wsX4_init (wsX2_init) := ggX4_init_X2_init
set_option maxRecDepth 100000 in
set_option maxHeartbeats 4000000 in
theorem ggX4_init_X1_init : GoodIn wsX4_init wsX1_init := goodIn_r _ [68, 69, 2, 3, 25, 70, 71, 72, 73, 74, 75, 76, 15, 77, 78, 79, 80, 81, 82, 83, 84, 85, 86, 87, 88, 89, 90, 52, 53, 54, 132, 133, 134, 135, 136, 137, 138, 139, 140, 99, 100, 101, 102, 103, 104, 105, 106, 107, 108, 109, 110, 111, 112] rfl (by decide +kernel)
set_option maxRecDepth 20000 in
theorem gX4_init_X1_init : GoodIn wsX4_init (wsX1_init) := ggX4_init_X1_init
set_option maxRecDepth 100000 in
set_option maxHeartbeats 4000000 in
theorem ggX4_init_X0_init : GoodIn wsX4_init wsX0_init := goodIn_r _ [93, 94, 2, 3, 95, 25, 96, 27, 97, 98, 141, 142, 143, 144, 145, 146] rfl (by decide +kernel)
set_option maxRecDepth 20000 in
theorem gX4_init_X0_init : GoodIn wsX4_init (wsX0_init) := ggX4_init_X0_init
set_option maxRecDepth 100000 in
set_option maxHeartbeats 4000000 in
theorem ggX4_write_X2_append : GoodIn wsX4_write wsX2_append := goodIn_r _ [7, 8, 9, 10, 25, 26, 27, 28, 29] rfl (by decide +kernel)
set_option maxRecDepth 20000 in
theorem gX4_write_X2_append : GoodIn wsX4_write (wsV RX4 72 RX2 yX2_append wsX2_append) := goodIn_app (goodIn_of _ (by decide +kernel)) ggX4_write_X2_append
set_option maxRecDepth 100000 in
set_option maxHeartbeats 4000000 in
theorem ggX4_fault_X3_copyFrom : GoodIn wsX4_fault wsX3_copyFrom := goodIn_r _ [8, 9, 10, 11, 12, 13, 14, 15, 16, 17, 18, 19, 20, 21, 22, 23, 24, 25, 26, 199, 200, 201, 202, 203, 204, 205, 206, 207, 208, 209, 210, 211, 212] rfl (by decide +kernel)
set_option maxRecDepth 20000 in
theorem gX4_fault_X3_copyFrom : GoodIn wsX4_fault (wsV RX4 80 RX3 yX3_copyFrom wsX3_copyFrom) := goodIn_app (goodIn_of _ (by decide +kernel)) ggX4_fault_X3_copyFrom
set_option maxRecDepth 100000 in
set_option maxHeartbeats 4000000 in
theorem ggX4_fault_X2_readInto : GoodIn wsX4_fault wsX2_readInto := goodIn_r _ [31, 32, 33, 34, 35, 36, 37, 38, 39, 30, 40, 41, 42, 43, 44, 45, 46, 47, 48, 49, 50, 51, 52, 53, 54, 55, 56, 57, 58, 59, 60, 61, 62, 63, 64, 65, 66, 67, 68, 69, 70, 71, 72, 73, 74, 75, 76, 77, 78, 79, 80, 81, 82, 83, 84, 85, 86, 87, 88, 89, 90, 91, 92, 93, 94, 95, 96, 97, 98, 99, 100, 101, 102, 103, 104, 105, 106, 107, 108, 109, 110, 111, 7, 112, 9, 11, 13, 14, 16, 113, 114, 115, 116, 117, 118, 119, 120, 10, 12, 15, 121, 122, 123, 124, 125, 126, 127, 128, 129, 130, 131, 132, 133, 134, 135, 136, 137, 138, 139, 21, 22, 140, 141, 142, 143, 144, 145, 146, 147, 148, 149, 150, 151, 152, 153, 154, 155, 156, 157, 158, 159, 160, 23, 24, 161, 162, 163, 164, 165, 166, 167, 168, 169, 25, 26, 170, 171, 172, 173, 174, 175, 176, 177, 178, 179, 180, 181, 182, 183, 184, 213, 214, 215, 216, 217, 199, 200, 201, 202, 203, 204, 205, 206, 207, 208, 209, 210, 211, 212] rfl (by decide +kernel)
set_option maxRecDepth 20000 in
theorem gX4_fault_X2_readInto : GoodIn wsX4_fault (wsV RX4 83 RX2 yX2_readInto wsX2_readInto) := goodIn_app (goodIn_of _ (by decide +kernel)) ggX4_fault_X2_readInto
set_option maxRecDepth 100000 in
set_option maxHeartbeats 4000000 in
theorem ggX4_green_X3_copyFrom : GoodIn wsX4_green wsX3_copyFrom := goodIn_r _ [13, 14, 15, 16, 17, 18, 19, 20, 21, 22, 23, 24, 25, 26, 27, 28, 29, 30, 31, 227, 228, 229, 230, 231, 232, 233, 234, 235, 236, 237, 238, 239, 240] rfl (by decide +kernel)
set_option maxRecDepth 20000 in
theorem gX4_green_X3_copyFrom : GoodIn wsX4_green (wsV RX4 80 RX3 yX3_copyFrom wsX3_copyFrom) := goodIn_app (goodIn_of _ (by decide +kernel)) ggX4_green_X3_copyFrom
set_option maxRecDepth 100000 in
set_option maxHeartbeats 4000000 in
theorem ggX4_green_X2_readInto : GoodIn wsX4_green wsX2_readInto := goodIn_r _ [36, 37, 38, 39, 40, 41, 42, 43, 44, 35, 45, 46, 47, 48, 49, 50, 51, 52, 53, 54, 55, 56, 57, 58, 59, 60, 61, 62, 63, 64, 65, 66, 67, 68, 69, 70, 71, 72, 73, 74, 75, 76, 77, 78, 79, 80, 81, 82, 83, 84, 85, 86, 87, 88, 89, 90, 91, 92, 93, 94, 95, 96, 97, 98, 99, 100, 101, 102, 103, 104, 105, 106, 107, 108, 109, 110, 111, 112, 113, 114, 115, 116, 12, 117, 14, 16, 18, 19, 21, 118, 119, 120, 121, 122, 123, 124, 125, 15, 17, 20, 126, 127, 128, 129, 130, 131, 132, 133, 134, 135, 136, 137, 138, 139, 140, 141, 142, 143, 144, 26, 27, 145, 146, 147, 148, 149, 150, 151, 152, 153, 154, 155, 156, 157, 158, 159, 160, 161, 162, 163, 164, 165, 28, 29, 166, 167, 168, 169, 170, 171, 172, 173, 174, 30, 31, 175, 176, 177, 178, 179, 180, 181, 182, 183, 184, 185, 186, 187, 188, 189, 222, 223, 224, 225, 226, 227, 228, 229, 230, 231, 232, 233, 234, 235, 236, 237, 238, 239, 240] rfl (by decide +kernel)
set_option maxRecDepth 20000 in
theorem gX4_green_X2_readInto : GoodIn wsX4_green (wsV RX4 83 RX2 yX2_readInto wsX2_readInto) := goodIn_app (goodIn_of _ (by decide +kernel)) ggX4_green_X2_readInto
set_option maxRecDepth 100000 in
set_option maxHeartbeats 4000000 in
theorem ggX4_green_X1_startAsTold : GoodIn wsX4_green wsX1_startAsTold := goodIn_r _ [194, 195, 196, 197, 198, 23, 24, 25, 199, 200, 201, 202, 203, 204, 205, 206, 207, 119, 120, 121, 241, 242, 243, 244, 245, 246, 247, 248, 249, 227, 228, 229, 230, 231, 232, 233, 234, 235, 236, 237, 238, 239, 240] rfl (by decide +kernel)
set_option maxRecDepth 20000 in
theorem gX4_green_X1_startAsTold : GoodIn wsX4_green (wsV RX4 87 RX1 yX1_startAsTold wsX1_startAsTold) := goodIn_app (goodIn_of _ (by decide +kernel)) ggX4_green_X1_startAsTold
set_option maxRecDepth 100000 in
set_option maxHeartbeats 4000000 in
theorem ggX4_plot_X4_isPlot : GoodIn wsX4_plot wsX4_isPlot := goodIn_r _ [8, 2, 9, 33, 34, 35, 36, 37, 38, 39, 40, 41, 42, 43, 44, 45, 46, 47, 48, 49, 50, 51, 52, 53, 54, 55, 56, 57, 58, 59, 60] rfl (by decide +kernel)
set_option maxRecDepth 20000 in
theorem gX4_plot_X4_isPlot : GoodIn wsX4_plot (wsV RX4 96 RX4 yX4_isPlot wsX4_isPlot) := goodIn_app (goodIn_of _ (by decide +kernel)) ggX4_plot_X4_isPlot
set_option maxRecDepth 100000 in
set_option maxHeartbeats 4000000 in
theorem ggX4_plot_X1_houseOn : GoodIn wsX4_plot wsX1_houseOn := goodIn_r _ [14, 15, 16, 17, 18, 19, 13, 20, 21, 22, 23, 24, 25, 26, 27, 28, 29, 30, 31, 32, 61, 62, 63, 64, 65, 66, 67, 68, 69, 47, 48, 49, 50, 51, 52, 53, 54, 55, 56, 57, 58, 59, 60] rfl (by decide +kernel)
set_option maxRecDepth 20000 in
theorem gX4_plot_X1_houseOn : GoodIn wsX4_plot (wsV RX4 100 RX1 yX1_houseOn wsX1_houseOn) := goodIn_app (goodIn_of _ (by decide +kernel)) ggX4_plot_X1_houseOn
set_option maxRecDepth 100000 in
set_option maxHeartbeats 4000000 in
theorem ggX4_house_X4_isHouse : GoodIn wsX4_house wsX4_isHouse := goodIn_r _ [11, 1, 12, 13, 14, 15, 16, 17, 18, 19, 20, 21, 22, 23, 24, 25, 26, 27, 28, 29, 30, 31, 32, 33, 34, 35, 36, 37, 38, 39, 40] rfl (by decide +kernel)
set_option maxRecDepth 20000 in
theorem gX4_house_X4_isHouse : GoodIn wsX4_house (wsV RX4 107 RX4 yX4_isHouse wsX4_isHouse) := goodIn_app (goodIn_of _ (by decide +kernel)) ggX4_house_X4_isHouse
set_option maxRecDepth 100000 in
set_option maxHeartbeats 4000000 in
theorem ggX4_as_X4_isHouse : GoodIn wsX4_as wsX4_isHouse := goodIn_r _ [9, 1, 10, 49, 50, 51, 52, 53, 54, 55, 56, 57, 58, 59, 60, 61, 62, 63, 64, 65, 66, 67, 68, 69, 70, 71, 72, 73, 74, 75, 76] rfl (by decide +kernel)
set_option maxRecDepth 20000 in
theorem gX4_as_X4_isHouse : GoodIn wsX4_as (wsV RX4 107 RX4 yX4_isHouse wsX4_isHouse) := goodIn_app (goodIn_of _ (by decide +kernel)) ggX4_as_X4_isHouse
set_option maxRecDepth 100000 in
set_option maxHeartbeats 4000000 in
theorem ggX4_as_X4_isSuch : GoodIn wsX4_as wsX4_isSuch := goodIn_r _ [13] rfl (by decide +kernel)
set_option maxRecDepth 20000 in
theorem gX4_as_X4_isSuch : GoodIn wsX4_as (va_wsS RX4 122 yX4_isSuch wsX4_isSuch) := goodIn_app (goodIn_of _ (by decide +kernel)) ggX4_as_X4_isSuch
set_option maxRecDepth 100000 in
set_option maxHeartbeats 4000000 in
theorem ggX4_as_X1_findWays : GoodIn wsX4_as wsX1_findWays := goodIn_r _ [18, 19, 20, 21, 22, 23, 24, 25, 26, 27, 28, 29, 30, 31, 32, 33, 34, 35, 17, 36, 37, 38, 39, 40, 41, 42, 43, 44, 45, 46, 47, 48, 77, 78, 79, 80, 81, 82, 83, 84, 85, 63, 64, 65, 66, 67, 68, 69, 70, 71, 72, 73, 74, 75, 76] rfl (by decide +kernel)
set_option maxRecDepth 20000 in
theorem gX4_as_X1_findWays : GoodIn wsX4_as (wsV RX4 126 RX1 yX1_findWays wsX1_findWays) := goodIn_app (goodIn_of _ (by decide +kernel)) ggX4_as_X1_findWays
set_option maxRecDepth 100000 in
set_option maxHeartbeats 4000000 in
theorem ggX4_can_X4_isHouse : GoodIn wsX4_can wsX4_isHouse := goodIn_r _ [7, 8, 9, 45, 46, 47, 48, 49, 50, 51, 52, 53, 54, 55, 56, 57, 58, 59, 60, 61, 62, 63, 64, 65, 66, 67, 68, 69, 70, 71, 72] rfl (by decide +kernel)
set_option maxRecDepth 20000 in
theorem gX4_can_X4_isHouse : GoodIn wsX4_can (wsV RX4 107 RX4 yX4_isHouse wsX4_isHouse) := goodIn_app (goodIn_of _ (by decide +kernel)) ggX4_can_X4_isHouse
set_option maxRecDepth 100000 in
set_option maxHeartbeats 4000000 in
theorem ggX4_can_X1_findWays : GoodIn wsX4_can wsX1_findWays := goodIn_r _ [14, 15, 16, 17, 18, 19, 20, 21, 22, 23, 24, 25, 26, 27, 28, 29, 30, 31, 13, 32, 33, 34, 35, 36, 37, 38, 39, 40, 41, 42, 43, 44, 73, 74, 75, 76, 77, 78, 79, 80, 81, 59, 60, 61, 62, 63, 64, 65, 66, 67, 68, 69, 70, 71, 72] rfl (by decide +kernel)
set_option maxRecDepth 20000 in
theorem gX4_can_X1_findWays : GoodIn wsX4_can (wsV RX4 126 RX1 yX1_findWays wsX1_findWays) := goodIn_app (goodIn_of _ (by decide +kernel)) ggX4_can_X1_findWays
set_option maxRecDepth 100000 in
set_option maxHeartbeats 4000000 in
theorem ggX4_go_X1_passNight : GoodIn wsX4_go wsX1_passNight := goodIn_r _ [9, 10, 11, 12, 13, 14, 8, 15, 16, 17, 18, 19, 20, 21, 22, 23, 24, 25, 26, 27, 28, 29, 30, 31, 32, 33, 34, 35, 36, 37, 38, 39, 40, 41, 42, 43, 44, 45, 46, 47, 48, 49, 50, 51, 52, 53, 54, 55, 56, 57, 58, 59, 60, 61, 62, 63, 64, 65, 66, 67, 68, 69, 70, 71, 72, 73, 74, 75, 90, 91, 92, 93, 94, 95, 96, 97, 98, 99, 100, 101, 102, 103, 104, 105, 106, 107, 108, 109, 110, 111, 112] rfl (by decide +kernel)
set_option maxRecDepth 20000 in
theorem gX4_go_X1_passNight : GoodIn wsX4_go (wsV RX4 133 RX1 yX1_passNight wsX1_passNight) := goodIn_app (goodIn_of _ (by decide +kernel)) ggX4_go_X1_passNight
set_option maxRecDepth 100000 in
set_option maxHeartbeats 4000000 in
theorem ggX4_roll_X4_isHouse : GoodIn wsX4_roll wsX4_isHouse := goodIn_r _ [9, 3, 10, 73, 74, 75, 76, 77, 78, 79, 80, 81, 82, 83, 84, 85, 86, 96, 97, 98, 99, 100, 101, 102, 103, 104, 105, 106, 107, 108, 109] rfl (by decide +kernel)
set_option maxRecDepth 20000 in
theorem gX4_roll_X4_isHouse : GoodIn wsX4_roll (wsV RX4 107 RX4 yX4_isHouse wsX4_isHouse) := goodIn_app (goodIn_of _ (by decide +kernel)) ggX4_roll_X4_isHouse
set_option maxRecDepth 100000 in
set_option maxHeartbeats 4000000 in
theorem ggX4_roll_X4_isPlot : GoodIn wsX4_roll wsX4_isPlot := goodIn_r _ [14, 3, 15, 73, 74, 75, 76, 77, 78, 79, 80, 81, 82, 83, 84, 85, 86, 96, 97, 98, 99, 100, 101, 102, 103, 104, 105, 106, 107, 108, 109] rfl (by decide +kernel)
set_option maxRecDepth 20000 in
theorem gX4_roll_X4_isPlot : GoodIn wsX4_roll (wsV RX4 96 RX4 yX4_isPlot wsX4_isPlot) := goodIn_app (goodIn_of _ (by decide +kernel)) ggX4_roll_X4_isPlot
set_option maxRecDepth 100000 in
set_option maxHeartbeats 4000000 in
theorem ggX4_roll_X1_hasWayTo : GoodIn wsX4_roll wsX1_hasWayTo := goodIn_r _ [20, 21, 22, 23, 24, 19, 25, 26, 27, 28, 29, 30, 31, 32, 33, 34, 35, 36, 37, 38, 39, 40, 41, 42, 43, 44, 45, 46, 47, 48, 49, 50, 51, 52, 53, 54, 55, 87, 88, 89, 90, 91, 92, 93, 94, 95, 96, 97, 98, 99, 100, 101, 102, 103, 104, 105, 106, 107, 108, 109] rfl (by decide +kernel)
set_option maxRecDepth 20000 in
theorem gX4_roll_X1_hasWayTo : GoodIn wsX4_roll (wsV RX4 137 RX1 yX1_hasWayTo wsX1_hasWayTo) := goodIn_app (goodIn_of _ (by decide +kernel)) ggX4_roll_X1_hasWayTo
set_option maxRecDepth 100000 in
set_option maxHeartbeats 4000000 in
theorem ggX4_roll_X1_passNightOf : GoodIn wsX4_roll wsX1_passNightOf := goodIn_r _ [59, 60, 61, 26, 62, 63, 64, 65, 66, 19, 67, 44, 27, 29, 68, 69, 70, 33, 71, 72, 31, 32, 34, 35, 87, 88, 89, 90, 91, 92, 93, 94, 95, 96, 97, 98, 99, 100, 101, 102, 103, 104, 105, 106, 107, 108, 109] rfl (by decide +kernel)
set_option maxRecDepth 20000 in
theorem gX4_roll_X1_passNightOf : GoodIn wsX4_roll (wsV RX4 140 RX1 yX1_passNightOf wsX1_passNightOf) := goodIn_app (goodIn_of _ (by decide +kernel)) ggX4_roll_X1_passNightOf
set_option maxRecDepth 100000 in
set_option maxHeartbeats 4000000 in
theorem ggX4_keep_X1_copyFrom : GoodIn wsX4_keep wsX1_copyFrom := goodIn_r _ [9, 10, 11, 12, 13, 14, 15, 16, 17, 18, 19, 20, 35, 36, 37, 38, 39, 40, 41, 42, 43] rfl (by decide +kernel)
set_option maxRecDepth 20000 in
theorem gX4_keep_X1_copyFrom : GoodIn wsX4_keep (wsV RX4 144 RX1 yX1_copyFrom wsX1_copyFrom) := goodIn_app (goodIn_of _ (by decide +kernel)) ggX4_keep_X1_copyFrom
set_option maxRecDepth 100000 in
set_option maxHeartbeats 4000000 in
theorem ggX4_back_X1_copyFrom : GoodIn wsX4_back wsX1_copyFrom := goodIn_r _ [9, 10, 11, 12, 13, 14, 15, 16, 17, 18, 19, 20, 35, 36, 37, 38, 39, 40, 41, 42, 43] rfl (by decide +kernel)
set_option maxRecDepth 20000 in
theorem gX4_back_X1_copyFrom : GoodIn wsX4_back (wsV RX4 144 RX1 yX1_copyFrom wsX1_copyFrom) := goodIn_app (goodIn_of _ (by decide +kernel)) ggX4_back_X1_copyFrom
set_option maxRecDepth 100000 in
set_option maxHeartbeats 4000000 in
theorem ggX4_later_X4_isHouse : GoodIn wsX4_later wsX4_isHouse := goodIn_r _ [10, 3, 11, 91, 92, 93, 94, 95, 96, 97, 98, 99, 100, 101, 102, 103, 104, 105, 106, 107, 108, 109, 110, 111, 112, 113, 114, 115, 116, 117, 118] rfl (by decide +kernel)
set_option maxRecDepth 20000 in
theorem gX4_later_X4_isHouse : GoodIn wsX4_later (wsV RX4 107 RX4 yX4_isHouse wsX4_isHouse) := goodIn_app (goodIn_of _ (by decide +kernel)) ggX4_later_X4_isHouse
set_option maxRecDepth 100000 in
set_option maxHeartbeats 4000000 in
theorem ggX4_later_X1_copyFrom : GoodIn wsX4_later wsX1_copyFrom := goodIn_r _ [16, 17, 18, 19, 20, 21, 22, 23, 24, 25, 26, 27, 119, 120, 121, 122, 123, 124, 125, 126, 127] rfl (by decide +kernel)
set_option maxRecDepth 20000 in
theorem gX4_later_X1_copyFrom : GoodIn wsX4_later (wsV RX4 144 RX1 yX1_copyFrom wsX1_copyFrom) := goodIn_app (goodIn_of _ (by decide +kernel)) ggX4_later_X1_copyFrom
set_option maxRecDepth 100000 in
set_option maxHeartbeats 4000000 in
theorem ggX4_later_X1_passNight : GoodIn wsX4_later wsX1_passNight := goodIn_r _ [31, 25, 24, 32, 33, 34, 15, 35, 36, 37, 38, 39, 40, 41, 42, 43, 27, 17, 44, 45, 46, 47, 48, 49, 50, 51, 52, 53, 54, 55, 56, 57, 23, 58, 59, 60, 61, 62, 63, 64, 65, 66, 67, 68, 69, 70, 71, 72, 22, 73, 74, 75, 76, 26, 77, 78, 79, 80, 81, 82, 83, 84, 85, 86, 87, 88, 89, 90, 119, 120, 121, 122, 123, 124, 125, 126, 127, 105, 106, 107, 108, 109, 110, 111, 112, 113, 114, 115, 116, 117, 118] rfl (by decide +kernel)
set_option maxRecDepth 20000 in
theorem gX4_later_X1_passNight : GoodIn wsX4_later (wsV RX4 133 RX1 yX1_passNight wsX1_passNight) := goodIn_app (goodIn_of _ (by decide +kernel)) ggX4_later_X1_passNight
set_option maxRecDepth 100000 in
set_option maxHeartbeats 4000000 in
theorem ggX4_round_X1_copyFrom : GoodIn wsX4_round wsX1_copyFrom := goodIn_r _ [10, 11, 12, 13, 14, 15, 16, 17, 18, 19, 20, 21, 134, 135, 136, 137, 138, 139, 140, 141, 142] rfl (by decide +kernel)
set_option maxRecDepth 20000 in
theorem gX4_round_X1_copyFrom : GoodIn wsX4_round (wsV RX4 144 RX1 yX1_copyFrom wsX1_copyFrom) := goodIn_app (goodIn_of _ (by decide +kernel)) ggX4_round_X1_copyFrom
set_option maxRecDepth 100000 in
set_option maxHeartbeats 4000000 in
theorem ggX4_round_X1_stateKey : GoodIn wsX4_round wsX1_stateKey := goodIn_r _ [25, 19, 20, 26, 27, 28, 9, 29, 30, 31, 11, 32, 33, 34, 35, 36, 37, 38, 39, 16, 134, 135, 136, 137, 138, 139, 140, 141, 142, 120, 121, 122, 123, 124, 125, 126, 127, 128, 129, 130, 131, 132, 133] rfl (by decide +kernel)
set_option maxRecDepth 20000 in
theorem gX4_round_X1_stateKey : GoodIn wsX4_round (wsV RX4 146 RX1 yX1_stateKey wsX1_stateKey) := goodIn_app (goodIn_of _ (by decide +kernel)) ggX4_round_X1_stateKey
set_option maxRecDepth 100000 in
set_option maxHeartbeats 4000000 in
theorem ggX4_round_X4_firstNightWith : GoodIn wsX4_round wsX4_firstNightWith := goodIn_r _ [44, 5, 106, 107, 108, 109, 110, 111, 112, 113, 114, 115, 116, 117, 118, 119] rfl (by decide +kernel)
set_option maxRecDepth 20000 in
theorem gX4_round_X4_firstNightWith : GoodIn wsX4_round (wsV RX4 150 RX4 yX4_firstNightWith wsX4_firstNightWith) := goodIn_app (goodIn_of _ (by decide +kernel)) ggX4_round_X4_firstNightWith
set_option maxRecDepth 100000 in
set_option maxHeartbeats 4000000 in
theorem ggX4_round_X1_passNight : GoodIn wsX4_round wsX1_passNight := goodIn_r _ [48, 19, 18, 49, 50, 51, 9, 52, 30, 31, 53, 54, 55, 56, 57, 58, 21, 11, 59, 60, 61, 62, 63, 64, 65, 66, 67, 68, 69, 70, 71, 72, 17, 73, 74, 75, 76, 77, 78, 79, 80, 81, 82, 83, 84, 85, 86, 87, 16, 88, 89, 90, 91, 20, 92, 93, 94, 95, 96, 97, 98, 99, 100, 101, 102, 103, 104, 105, 134, 135, 136, 137, 138, 139, 140, 141, 142, 120, 121, 122, 123, 124, 125, 126, 127, 128, 129, 130, 131, 132, 133] rfl (by decide +kernel)
set_option maxRecDepth 20000 in
theorem gX4_round_X1_passNight : GoodIn wsX4_round (wsV RX4 133 RX1 yX1_passNight wsX1_passNight) := goodIn_app (goodIn_of _ (by decide +kernel)) ggX4_round_X1_passNight
set_option maxRecDepth 100000 in
set_option maxHeartbeats 4000000 in
theorem ggX4_touch_X4_refusePair : GoodIn wsX4_touch wsX4_refusePair := goodIn_r _ [6, 7, 8, 9, 5, 10, 11, 12, 56, 57, 58, 59, 60, 61, 62, 63, 64, 65, 66, 67, 68, 69, 70, 71, 72, 73, 74, 75, 76, 77, 78, 79, 80, 81, 82, 83] rfl (by decide +kernel)
set_option maxRecDepth 20000 in
theorem gX4_touch_X4_refusePair : GoodIn wsX4_touch (wsV RX4 154 RX4 yX4_refusePair wsX4_refusePair) := goodIn_app (goodIn_of _ (by decide +kernel)) ggX4_touch_X4_refusePair
set_option maxRecDepth 100000 in
set_option maxHeartbeats 4000000 in
theorem ggX4_touch_X1_meets : GoodIn wsX4_touch wsX1_meets := goodIn_r _ [17, 18, 19, 20, 16, 21, 22, 23, 24, 25, 26, 27, 28, 29, 30, 31, 32, 33, 34, 35, 36, 37, 38, 39, 40, 41, 42, 43, 44, 45, 46, 47, 48, 49, 50, 51, 52, 53, 54, 55, 84, 85, 86, 87, 88, 89, 90, 91, 92, 70, 71, 72, 73, 74, 75, 76, 77, 78, 79, 80, 81, 82, 83] rfl (by decide +kernel)
set_option maxRecDepth 20000 in
theorem gX4_touch_X1_meets : GoodIn wsX4_touch (wsV RX4 158 RX1 yX1_meets wsX1_meets) := goodIn_app (goodIn_of _ (by decide +kernel)) ggX4_touch_X1_meets
set_option maxRecDepth 100000 in
set_option maxHeartbeats 4000000 in
theorem ggX4_when_X4_refusePair : GoodIn wsX4_when wsX4_refusePair := goodIn_r _ [7, 8, 9, 10, 6, 11, 12, 13, 127, 128, 129, 130, 131, 132, 133, 134, 135, 136, 137, 138, 139, 140, 141, 142, 143, 144, 145, 146, 147, 148, 149, 150, 151, 152, 153, 154] rfl (by decide +kernel)
set_option maxRecDepth 20000 in
theorem gX4_when_X4_refusePair : GoodIn wsX4_when (wsV RX4 154 RX4 yX4_refusePair wsX4_refusePair) := goodIn_app (goodIn_of _ (by decide +kernel)) ggX4_when_X4_refusePair
set_option maxRecDepth 100000 in
set_option maxHeartbeats 4000000 in
theorem ggX4_when_X1_copyFrom : GoodIn wsX4_when wsX1_copyFrom := goodIn_r _ [18, 19, 20, 21, 22, 23, 24, 25, 26, 27, 28, 29, 155, 156, 157, 158, 159, 160, 161, 162, 163] rfl (by decide +kernel)
set_option maxRecDepth 20000 in
theorem gX4_when_X1_copyFrom : GoodIn wsX4_when (wsV RX4 144 RX1 yX1_copyFrom wsX1_copyFrom) := goodIn_app (goodIn_of _ (by decide +kernel)) ggX4_when_X1_copyFrom
