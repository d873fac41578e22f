set_option maxRecDepth 100000 in
set_option maxHeartbeats 4000000 in
theorem ggX5_init_X5_plain : GoodIn wsX5_init wsX5_plain := goodIn_r _ [30, 6, 31, 32, 33, 34, 11, 39, 40, 41, 42, 43, 44, 45, 46, 47, 48, 49, 50, 51, 52, 53, 54, 55, 56, 57, 58, 59, 60, 61, 62, 63, 64, 65, 66, 67, 68, 69, 70, 71, 72, 73, 74, 75, 76, 77, 78] rfl (by decide +kernel)
set_option maxRecDepth 20000 in
theorem gX5_init_X5_plain : GoodIn wsX5_init (wsV RX5 72 RX5 yX5_plain wsX5_plain) := goodIn_app (goodIn_of _ (by decide +kernel)) ggX5_init_X5_plain
set_option maxRecDepth 100000 in
set_option maxHeartbeats 4000000 in
theorem ggX5_init_X5_begin : GoodIn wsX5_init wsX5_begin := goodIn_r _ [38, 14, 8, 11, 39, 40, 41, 42, 43, 44, 45, 46, 47, 48, 49, 50, 51, 52, 53, 54, 55, 56, 57, 58, 59, 60, 61, 62, 63, 64, 65, 66, 67, 68, 69, 70, 71, 72, 73, 74, 75, 76, 77, 78] rfl (by decide +kernel)
set_option maxRecDepth 20000 in
theorem gX5_init_X5_begin : GoodIn wsX5_init (wsV RX5 75 RX5 yX5_begin wsX5_begin) := goodIn_app (goodIn_of _ (by decide +kernel)) ggX5_init_X5_begin
set_option maxRecDepth 100000 in
set_option maxHeartbeats 4000000 in
theorem ggX5_isHouse_X5_in : GoodIn wsX5_isHouse wsX5_in := goodIn_r _ [5] rfl (by decide +kernel)
set_option maxRecDepth 20000 in
theorem gX5_isHouse_X5_in : GoodIn wsX5_isHouse (va_wsS RX5 81 yX5_in wsX5_in) := goodIn_app (goodIn_of _ (by decide +kernel)) ggX5_isHouse_X5_in
set_option maxRecDepth 100000 in
set_option maxHeartbeats 4000000 in
theorem ggX5_isPlot_X5_in : GoodIn wsX5_isPlot wsX5_in := goodIn_r _ [5] rfl (by decide +kernel)
set_option maxRecDepth 20000 in
theorem gX5_isPlot_X5_in : GoodIn wsX5_isPlot (va_wsS RX5 81 yX5_in wsX5_in) := goodIn_app (goodIn_of _ (by decide +kernel)) ggX5_isPlot_X5_in
set_option maxRecDepth 100000 in
set_option maxHeartbeats 4000000 in
theorem ggX5_write_X5_in : GoodIn wsX5_write wsX5_in := goodIn_r _ [7] rfl (by decide +kernel)
set_option maxRecDepth 20000 in
theorem gX5_write_X5_in : GoodIn wsX5_write (va_wsS RX5 81 yX5_in wsX5_in) := goodIn_app (goodIn_of _ (by decide +kernel)) ggX5_write_X5_in
set_option maxRecDepth 100000 in
set_option maxHeartbeats 4000000 in
theorem ggX5_nextToken_X5_in : GoodIn wsX5_nextToken wsX5_in := goodIn_r _ [17] rfl (by decide +kernel)
set_option maxRecDepth 20000 in
theorem gX5_nextToken_X5_in : GoodIn wsX5_nextToken (va_wsS RX5 81 yX5_in wsX5_in) := goodIn_app (goodIn_of _ (by decide +kernel)) ggX5_nextToken_X5_in
set_option maxRecDepth 100000 in
set_option maxHeartbeats 4000000 in
theorem ggX5_isNumber_X5_nextToken : GoodIn wsX5_isNumber wsX5_nextToken := goodIn_r _ [10, 11, 12, 13, 14, 3, 4, 15, 1, 16, 17, 18, 2, 19, 20, 21, 9, 22, 28, 29, 30, 31, 32, 33, 34, 35, 36, 37, 38, 39, 40, 41, 42, 43, 44, 45, 46, 47, 48, 49, 50, 51, 52, 53, 54, 55, 56, 57, 58, 59, 60, 61, 62, 63, 64, 65, 66, 67] rfl (by decide +kernel)
set_option maxRecDepth 20000 in
theorem gX5_isNumber_X5_nextToken : GoodIn wsX5_isNumber (wsV RX5 130 RX5 yX5_nextToken wsX5_nextToken) := goodIn_app (goodIn_of _ (by decide +kernel)) ggX5_isNumber_X5_nextToken
set_option maxRecDepth 100000 in
set_option maxHeartbeats 4000000 in
theorem ggX5_isNumber_X5_in : GoodIn wsX5_isNumber wsX5_in := goodIn_r _ [22] rfl (by decide +kernel)
set_option maxRecDepth 20000 in
theorem gX5_isNumber_X5_in : GoodIn wsX5_isNumber (va_wsS RX5 81 yX5_in wsX5_in) := goodIn_app (goodIn_of _ (by decide +kernel)) ggX5_isNumber_X5_in
set_option maxRecDepth 100000 in
set_option maxHeartbeats 4000000 in
theorem ggX5_isNumber_X5_fails : GoodIn wsX5_isNumber wsX5_fails := goodIn_r _ [26, 14, 27, 28, 29, 30, 31, 32, 33, 34, 35, 36, 37, 38, 39, 40, 41, 42, 43, 44, 45, 46, 47, 48, 49, 50, 51, 52, 53, 54, 55, 56, 57, 58, 59, 60, 61, 62, 63, 64, 65, 66, 67] rfl (by decide +kernel)
set_option maxRecDepth 20000 in
theorem gX5_isNumber_X5_fails : GoodIn wsX5_isNumber (wsV RX5 133 RX5 yX5_fails wsX5_fails) := goodIn_app (goodIn_of _ (by decide +kernel)) ggX5_isNumber_X5_fails
set_option maxRecDepth 100000 in
set_option maxHeartbeats 4000000 in
theorem ggX5_isGreen_X5_isNumber : GoodIn wsX5_isGreen wsX5_isNumber := goodIn_r _ [11, 12, 13, 14, 15, 1, 16, 17, 18, 10, 19, 20, 21, 22, 23, 24, 25, 26, 27, 28, 29, 30, 31, 32, 33, 34, 35, 36, 37, 38, 39, 40, 41, 42, 43, 44, 45, 46, 47, 48, 49, 50, 51, 52, 53, 54, 55, 56, 57, 58, 59, 60, 61, 62, 63, 64, 65, 66, 67, 68, 69, 70, 71, 72, 73, 74, 75, 76] rfl (by decide +kernel)
set_option maxRecDepth 20000 in
theorem gX5_isGreen_X5_isNumber : GoodIn wsX5_isGreen (wsV RX5 137 RX5 yX5_isNumber wsX5_isNumber) := goodIn_app (goodIn_of _ (by decide +kernel)) ggX5_isGreen_X5_isNumber
set_option maxRecDepth 100000 in
set_option maxHeartbeats 4000000 in
theorem ggX5_isHouseLine_X5_fails : GoodIn wsX5_isHouseLine wsX5_fails := goodIn_r _ [9, 10, 11, 35, 36, 37, 38, 39, 40, 41, 42, 43, 44, 45, 46, 47, 48, 49, 50, 51, 52, 53, 54, 55, 56, 57, 58, 59, 60, 61, 62, 63, 64, 65, 66, 67, 68, 69, 70, 71, 72, 73, 74] rfl (by decide +kernel)
set_option maxRecDepth 20000 in
theorem gX5_isHouseLine_X5_fails : GoodIn wsX5_isHouseLine (wsV RX5 133 RX5 yX5_fails wsX5_fails) := goodIn_app (goodIn_of _ (by decide +kernel)) ggX5_isHouseLine_X5_fails
set_option maxRecDepth 100000 in
set_option maxHeartbeats 4000000 in
theorem ggX5_isHouseLine_X5_isNumber : GoodIn wsX5_isHouseLine wsX5_isNumber := goodIn_r _ [15, 16, 17, 18, 19, 3, 20, 21, 22, 8, 23, 24, 25, 26, 10, 27, 28, 29, 30, 31, 32, 33, 34, 5, 6, 7, 9, 11, 35, 36, 37, 38, 39, 40, 41, 42, 43, 44, 45, 46, 47, 48, 49, 50, 51, 52, 53, 54, 55, 56, 57, 58, 59, 60, 61, 62, 63, 64, 65, 66, 67, 68, 69, 70, 71, 72, 73, 74] rfl (by decide +kernel)
set_option maxRecDepth 20000 in
theorem gX5_isHouseLine_X5_isNumber : GoodIn wsX5_isHouseLine (wsV RX5 137 RX5 yX5_isNumber wsX5_isNumber) := goodIn_app (goodIn_of _ (by decide +kernel)) ggX5_isHouseLine_X5_isNumber
set_option maxRecDepth 100000 in
set_option maxHeartbeats 4000000 in
theorem ggX5_areUnlike_X5_isNumber : GoodIn wsX5_areUnlike wsX5_isNumber := goodIn_r _ [6, 7, 8, 9, 10, 1, 11, 12, 13, 5, 14, 15, 16, 17, 18, 19, 20, 21, 22, 23, 24, 25, 26, 27, 28, 29, 30, 31, 32, 33, 34, 35, 36, 37, 38, 39, 40, 41, 42, 43, 44, 45, 46, 47, 48, 49, 50, 51, 52, 53, 54, 55, 56, 57, 58, 59, 60, 61, 62, 63, 64, 65, 66, 67, 68, 69, 70, 71] rfl (by decide +kernel)
set_option maxRecDepth 20000 in
theorem gX5_areUnlike_X5_isNumber : GoodIn wsX5_areUnlike (wsV RX5 137 RX5 yX5_isNumber wsX5_isNumber) := goodIn_app (goodIn_of _ (by decide +kernel)) ggX5_areUnlike_X5_isNumber
set_option maxRecDepth 100000 in
set_option maxHeartbeats 4000000 in
theorem ggX5_areUnlike_X5_fails : GoodIn wsX5_areUnlike wsX5_fails := goodIn_r _ [30, 18, 31, 32, 33, 34, 35, 36, 37, 38, 39, 40, 41, 42, 43, 44, 45, 46, 47, 48, 49, 50, 51, 52, 53, 54, 55, 56, 57, 58, 59, 60, 61, 62, 63, 64, 65, 66, 67, 68, 69, 70, 71] rfl (by decide +kernel)
set_option maxRecDepth 20000 in
theorem gX5_areUnlike_X5_fails : GoodIn wsX5_areUnlike (wsV RX5 133 RX5 yX5_fails wsX5_fails) := goodIn_app (goodIn_of _ (by decide +kernel)) ggX5_areUnlike_X5_fails
set_option maxRecDepth 100000 in
set_option maxHeartbeats 4000000 in
theorem ggX5_isPath_X5_fails : GoodIn wsX5_isPath wsX5_fails := goodIn_r _ [7, 8, 9, 38, 39, 40, 41, 42, 43, 44, 45, 46, 47, 48, 49, 50, 51, 52, 53, 54, 55, 56, 57, 58, 59, 60, 61, 62, 63, 64, 65, 66, 67, 68, 69, 70, 71, 72, 73, 74, 75, 76, 77] rfl (by decide +kernel)
set_option maxRecDepth 20000 in
theorem gX5_isPath_X5_fails : GoodIn wsX5_isPath (wsV RX5 133 RX5 yX5_fails wsX5_fails) := goodIn_app (goodIn_of _ (by decide +kernel)) ggX5_isPath_X5_fails
set_option maxRecDepth 100000 in
set_option maxHeartbeats 4000000 in
theorem ggX5_isPath_X5_areUnlike : GoodIn wsX5_isPath wsX5_areUnlike := goodIn_r _ [13, 14, 15, 16, 17, 6, 18, 19, 20, 21, 22, 23, 24, 25, 26, 27, 28, 29, 8, 30, 31, 32, 33, 34, 35, 36, 37, 3, 4, 5, 7, 9, 38, 39, 40, 41, 42, 43, 44, 45, 46, 47, 48, 49, 50, 51, 52, 53, 54, 55, 56, 57, 58, 59, 60, 61, 62, 63, 64, 65, 66, 67, 68, 69, 70, 71, 72, 73, 74, 75, 76, 77] rfl (by decide +kernel)
set_option maxRecDepth 20000 in
theorem gX5_isPath_X5_areUnlike : GoodIn wsX5_isPath (wsV RX5 155 RX5 yX5_areUnlike wsX5_areUnlike) := goodIn_app (goodIn_of _ (by decide +kernel)) ggX5_isPath_X5_areUnlike
set_option maxRecDepth 100000 in
set_option maxHeartbeats 4000000 in
theorem ggX5_isFeud_X5_fails : GoodIn wsX5_isFeud wsX5_fails := goodIn_r _ [7, 8, 9, 38, 39, 40, 41, 42, 43, 44, 45, 46, 47, 48, 49, 50, 51, 52, 53, 54, 55, 56, 57, 58, 59, 60, 61, 62, 63, 64, 65, 66, 67, 68, 69, 70, 71, 72, 73, 74, 75, 76, 77] rfl (by decide +kernel)
set_option maxRecDepth 20000 in
theorem gX5_isFeud_X5_fails : GoodIn wsX5_isFeud (wsV RX5 133 RX5 yX5_fails wsX5_fails) := goodIn_app (goodIn_of _ (by decide +kernel)) ggX5_isFeud_X5_fails
set_option maxRecDepth 100000 in
set_option maxHeartbeats 4000000 in
theorem ggX5_isFeud_X5_areUnlike : GoodIn wsX5_isFeud wsX5_areUnlike := goodIn_r _ [13, 14, 15, 16, 17, 6, 18, 19, 20, 21, 22, 23, 24, 25, 26, 27, 28, 29, 8, 30, 31, 32, 33, 34, 35, 36, 37, 3, 4, 5, 7, 9, 38, 39, 40, 41, 42, 43, 44, 45, 46, 47, 48, 49, 50, 51, 52, 53, 54, 55, 56, 57, 58, 59, 60, 61, 62, 63, 64, 65, 66, 67, 68, 69, 70, 71, 72, 73, 74, 75, 76, 77] rfl (by decide +kernel)
set_option maxRecDepth 20000 in
theorem gX5_isFeud_X5_areUnlike : GoodIn wsX5_isFeud (wsV RX5 155 RX5 yX5_areUnlike wsX5_areUnlike) := goodIn_app (goodIn_of _ (by decide +kernel)) ggX5_isFeud_X5_areUnlike
set_option maxRecDepth 100000 in
set_option maxHeartbeats 4000000 in
theorem ggX5_isLine_X5_nextToken : GoodIn wsX5_isLine wsX5_nextToken := goodIn_r _ [24, 25, 26, 27, 28, 29, 30, 31, 1, 32, 33, 34, 35, 36, 37, 38, 23, 39, 70, 71, 72, 73, 74, 75, 76, 77, 78, 79, 80, 81, 82, 83, 84, 85, 86, 87, 88, 89, 90, 91, 92, 93, 94, 95, 96, 97, 98, 99, 100, 101, 102, 103, 104, 105, 106, 107, 108, 109] rfl (by decide +kernel)
set_option maxRecDepth 20000 in
theorem gX5_isLine_X5_nextToken : GoodIn wsX5_isLine (wsV RX5 130 RX5 yX5_nextToken wsX5_nextToken) := goodIn_app (goodIn_of _ (by decide +kernel)) ggX5_isLine_X5_nextToken
set_option maxRecDepth 100000 in
set_option maxHeartbeats 4000000 in
theorem ggX5_isLine_X5_isGreen : GoodIn wsX5_isLine wsX5_isGreen := goodIn_r _ [43, 15, 16, 17, 18, 44, 19, 45, 46, 47, 23, 48, 1, 35, 29, 30, 20, 21, 22, 24, 25, 26, 27, 28, 31, 32, 33, 34, 36, 37, 38, 39, 49, 50, 51, 52, 53, 70, 71, 72, 73, 74, 75, 76, 77, 78, 79, 80, 81, 82, 83, 84, 85, 86, 87, 88, 89, 90, 91, 92, 93, 94, 95, 96, 97, 98, 99, 100, 101, 102, 103, 104, 105, 106, 107, 108, 109] rfl (by decide +kernel)
set_option maxRecDepth 20000 in
theorem gX5_isLine_X5_isGreen : GoodIn wsX5_isLine (wsV RX5 185 RX5 yX5_isGreen wsX5_isGreen) := goodIn_app (goodIn_of _ (by decide +kernel)) ggX5_isLine_X5_isGreen
set_option maxRecDepth 100000 in
set_option maxHeartbeats 4000000 in
theorem ggX5_isLine_X5_isNumber : GoodIn wsX5_isLine wsX5_isNumber := goodIn_r _ [48, 1, 35, 29, 30, 15, 20, 21, 22, 23, 24, 25, 26, 27, 28, 31, 32, 33, 34, 36, 37, 38, 39, 49, 50, 51, 52, 53, 70, 71, 72, 73, 74, 75, 76, 77, 78, 79, 80, 81, 82, 83, 84, 85, 86, 87, 88, 89, 90, 91, 92, 93, 94, 95, 96, 97, 98, 99, 100, 101, 102, 103, 104, 105, 106, 107, 108, 109] rfl (by decide +kernel)
set_option maxRecDepth 20000 in
theorem gX5_isLine_X5_isNumber : GoodIn wsX5_isLine (wsV RX5 137 RX5 yX5_isNumber wsX5_isNumber) := goodIn_app (goodIn_of _ (by decide +kernel)) ggX5_isLine_X5_isNumber
set_option maxRecDepth 100000 in
set_option maxHeartbeats 4000000 in
theorem ggX5_isLine_X5_isHouseLine : GoodIn wsX5_isLine wsX5_isHouseLine := goodIn_r _ [57, 17, 16, 15, 18, 49, 50, 51, 23, 52, 28, 53, 45, 46, 47, 48, 1, 35, 29, 30, 20, 21, 22, 24, 25, 26, 27, 31, 32, 33, 34, 36, 37, 38, 39, 70, 71, 72, 73, 74, 75, 76, 77, 78, 79, 80, 81, 82, 83, 84, 85, 86, 87, 88, 89, 90, 91, 92, 93, 94, 95, 96, 97, 98, 99, 100, 101, 102, 103, 104, 105, 106, 107, 108, 109] rfl (by decide +kernel)
set_option maxRecDepth 20000 in
theorem gX5_isLine_X5_isHouseLine : GoodIn wsX5_isLine (wsV RX5 189 RX5 yX5_isHouseLine wsX5_isHouseLine) := goodIn_app (goodIn_of _ (by decide +kernel)) ggX5_isLine_X5_isHouseLine
set_option maxRecDepth 100000 in
set_option maxHeartbeats 4000000 in
theorem ggX5_isLine_X5_isPath : GoodIn wsX5_isLine wsX5_isPath := goodIn_r _ [61, 44, 16, 49, 50, 51, 23, 52, 28, 53, 62, 63, 64, 65, 15, 45, 46, 47, 48, 1, 35, 29, 30, 20, 21, 22, 24, 25, 26, 27, 31, 32, 33, 34, 36, 37, 38, 39, 70, 71, 72, 73, 74, 75, 76, 77, 78, 79, 80, 81, 82, 83, 84, 85, 86, 87, 88, 89, 90, 91, 92, 93, 94, 95, 96, 97, 98, 99, 100, 101, 102, 103, 104, 105, 106, 107, 108, 109] rfl (by decide +kernel)
set_option maxRecDepth 20000 in
theorem gX5_isLine_X5_isPath : GoodIn wsX5_isLine (wsV RX5 193 RX5 yX5_isPath wsX5_isPath) := goodIn_app (goodIn_of _ (by decide +kernel)) ggX5_isLine_X5_isPath
set_option maxRecDepth 100000 in
set_option maxHeartbeats 4000000 in
theorem ggX5_isLine_X5_isFeud : GoodIn wsX5_isLine wsX5_isFeud := goodIn_r _ [69, 19, 17, 49, 50, 51, 23, 52, 28, 53, 62, 63, 64, 65, 15, 45, 46, 47, 48, 1, 35, 29, 30, 20, 21, 22, 24, 25, 26, 27, 31, 32, 33, 34, 36, 37, 38, 39, 70, 71, 72, 73, 74, 75, 76, 77, 78, 79, 80, 81, 82, 83, 84, 85, 86, 87, 88, 89, 90, 91, 92, 93, 94, 95, 96, 97, 98, 99, 100, 101, 102, 103, 104, 105, 106, 107, 108, 109] rfl (by decide +kernel)
set_option maxRecDepth 20000 in
theorem gX5_isLine_X5_isFeud : GoodIn wsX5_isLine (wsV RX5 196 RX5 yX5_isFeud wsX5_isFeud) := goodIn_app (goodIn_of _ (by decide +kernel)) ggX5_isLine_X5_isFeud
set_option maxRecDepth 100000 in
set_option maxHeartbeats 4000000 in
theorem ggX5_isLine_X5_fails : GoodIn wsX5_isLine wsX5_fails := goodIn_r _ [52, 28, 53, 70, 71, 72, 73, 74, 75, 76, 77, 78, 79, 80, 81, 82, 83, 84, 85, 86, 87, 88, 89, 90, 91, 92, 93, 94, 95, 96, 97, 98, 99, 100, 101, 102, 103, 104, 105, 106, 107, 108, 109] rfl (by decide +kernel)
set_option maxRecDepth 20000 in
theorem gX5_isLine_X5_fails : GoodIn wsX5_isLine (wsV RX5 133 RX5 yX5_fails wsX5_fails) := goodIn_app (goodIn_of _ (by decide +kernel)) ggX5_isLine_X5_fails
set_option maxRecDepth 100000 in
set_option maxHeartbeats 4000000 in
theorem ggX5_isRead_X5_isLine : GoodIn wsX5_isRead wsX5_isLine := goodIn_r _ [21, 14, 22, 23, 24, 25, 26, 27, 28, 29, 30, 31, 32, 33, 34, 35, 4, 6, 11, 10, 36, 37, 38, 20, 39, 1, 40, 41, 42, 43, 44, 16, 45, 46, 47, 48, 15, 49, 50, 51, 52, 53, 54, 55, 8, 56, 57, 58, 59, 60, 61, 62, 63, 64, 65, 66, 67, 68, 69, 70, 71, 72, 73, 74, 75, 76, 77, 78, 79, 80, 81, 82, 83, 84, 85, 86, 87, 88, 89, 90, 91, 92, 93, 94, 95, 96, 97, 98, 99, 100, 101, 102, 103, 104, 105, 106, 107, 108, 109, 110, 111, 112, 113, 114, 115, 116, 117, 118, 119, 120] rfl (by decide +kernel)
set_option maxRecDepth 20000 in
theorem gX5_isRead_X5_isLine : GoodIn wsX5_isRead (wsV RX5 202 RX5 yX5_isLine wsX5_isLine) := goodIn_app (goodIn_of _ (by decide +kernel)) ggX5_isRead_X5_isLine
set_option maxRecDepth 100000 in
set_option maxHeartbeats 4000000 in
theorem ggX5_isRead_X5_nextToken : GoodIn wsX5_isRead wsX5_nextToken := goodIn_r _ [39, 1, 40, 41, 42, 43, 44, 16, 14, 45, 46, 47, 48, 15, 49, 50, 20, 51, 81, 82, 83, 84, 85, 86, 87, 88, 89, 90, 91, 92, 93, 94, 95, 96, 97, 98, 99, 100, 101, 102, 103, 104, 105, 106, 107, 108, 109, 110, 111, 112, 113, 114, 115, 116, 117, 118, 119, 120] rfl (by decide +kernel)
set_option maxRecDepth 20000 in
theorem gX5_isRead_X5_nextToken : GoodIn wsX5_isRead (wsV RX5 130 RX5 yX5_nextToken wsX5_nextToken) := goodIn_app (goodIn_of _ (by decide +kernel)) ggX5_isRead_X5_nextToken
set_option maxRecDepth 100000 in
set_option maxHeartbeats 4000000 in
theorem ggX5_isRead_X5_fails : GoodIn wsX5_isRead wsX5_fails := goodIn_r _ [63, 42, 64, 81, 82, 83, 84, 85, 86, 87, 88, 89, 90, 91, 92, 93, 94, 95, 96, 97, 98, 99, 100, 101, 102, 103, 104, 105, 106, 107, 108, 109, 110, 111, 112, 113, 114, 115, 116, 117, 118, 119, 120] rfl (by decide +kernel)
set_option maxRecDepth 20000 in
theorem gX5_isRead_X5_fails : GoodIn wsX5_isRead (wsV RX5 133 RX5 yX5_fails wsX5_fails) := goodIn_app (goodIn_of _ (by decide +kernel)) ggX5_isRead_X5_fails
set_option maxRecDepth 100000 in
set_option maxHeartbeats 4000000 in
theorem ggX5_fault_X5_isRead : GoodIn wsX5_fault wsX5_isRead := goodIn_r _ [6, 7, 8, 9, 10, 11, 12, 13, 14, 15, 16, 17, 18, 19, 20, 21, 22, 23, 24, 25, 5, 26, 27, 28, 29, 30, 31, 32, 33, 34, 35, 36, 37, 38, 39, 40, 41, 42, 43, 44, 45, 46, 47, 48, 49, 50, 51, 52, 53, 54, 55, 56, 57, 58, 59, 60, 61, 62, 63, 64, 65, 66, 67, 68, 1, 69, 70, 71, 72, 73, 74, 75, 76, 77, 78, 79, 80, 81, 82, 83, 84, 85, 86, 87, 88, 89, 90, 91, 92, 93, 94, 95, 96, 97, 98, 99, 100, 101, 102, 103, 104, 105, 106, 107, 108, 109, 110, 111, 112, 113, 114, 115, 116, 117, 118, 119, 120, 121, 122, 123, 124] rfl (by decide +kernel)
set_option maxRecDepth 20000 in
theorem gX5_fault_X5_isRead : GoodIn wsX5_fault (wsV RX5 205 RX5 yX5_isRead wsX5_isRead) := goodIn_app (goodIn_of _ (by decide +kernel)) ggX5_fault_X5_isRead
set_option maxRecDepth 100000 in
set_option maxHeartbeats 4000000 in
theorem ggX5_doLine_X5_plain : GoodIn wsX5_doLine wsX5_plain := goodIn_r _ [17, 3, 5, 8, 10, 11, 12, 18, 19, 20, 21, 22, 23, 24, 25, 26, 27, 28, 29, 30, 31, 32, 33, 34, 35, 36, 37, 38, 39, 40, 41, 42, 43, 44, 45, 46, 47, 48, 49, 50, 51, 52, 53, 54, 55, 56, 57] rfl (by decide +kernel)
set_option maxRecDepth 20000 in
theorem gX5_doLine_X5_plain : GoodIn wsX5_doLine (wsV RX5 72 RX5 yX5_plain wsX5_plain) := goodIn_app (goodIn_of _ (by decide +kernel)) ggX5_doLine_X5_plain
set_option maxRecDepth 100000 in
set_option maxHeartbeats 4000000 in
theorem ggX5_green_X5_isRead : GoodIn wsX5_green wsX5_isRead := goodIn_r _ [9, 10, 1, 11, 12, 13, 14, 15, 16, 17, 18, 19, 20, 21, 22, 23, 24, 25, 26, 27, 8, 28, 29, 30, 31, 32, 33, 34, 35, 36, 37, 38, 39, 40, 41, 42, 43, 44, 45, 46, 2, 47, 48, 49, 50, 51, 52, 53, 54, 55, 56, 57, 58, 59, 60, 61, 62, 63, 64, 65, 66, 67, 68, 69, 70, 71, 72, 73, 74, 75, 76, 77, 78, 79, 80, 81, 82, 83, 84, 85, 86, 105, 106, 107, 108, 109, 110, 111, 112, 113, 114, 115, 116, 117, 118, 119, 120, 121, 122, 123, 124, 125, 126, 127, 128, 129, 130, 131, 132, 133, 134, 135, 136, 137, 138, 139, 140, 141, 142, 143, 144] rfl (by decide +kernel)
set_option maxRecDepth 20000 in
theorem gX5_green_X5_isRead : GoodIn wsX5_green (wsV RX5 205 RX5 yX5_isRead wsX5_isRead) := goodIn_app (goodIn_of _ (by decide +kernel)) ggX5_green_X5_isRead
set_option maxRecDepth 100000 in
set_option maxHeartbeats 4000000 in
theorem ggX5_green_X5_doLine : GoodIn wsX5_green wsX5_doLine := goodIn_r _ [90, 42, 11, 91, 21, 13, 20, 92, 15, 93, 17, 94, 95, 96, 97, 98, 8, 99, 105, 106, 107, 108, 109, 110, 111, 112, 113, 114, 115, 116, 117, 118, 119, 120, 121, 122, 123, 124, 125, 126, 127, 128, 129, 130, 131, 132, 133, 134, 135, 136, 137, 138, 139, 140, 141, 142, 143, 144] rfl (by decide +kernel)
set_option maxRecDepth 20000 in
theorem gX5_green_X5_doLine : GoodIn wsX5_green (wsV RX5 208 RX5 yX5_doLine wsX5_doLine) := goodIn_app (goodIn_of _ (by decide +kernel)) ggX5_green_X5_doLine
set_option maxRecDepth 100000 in
set_option maxHeartbeats 4000000 in
theorem ggX5_green_X5_begin : GoodIn wsX5_green wsX5_begin := goodIn_r _ [103, 104, 20, 95, 105, 106, 107, 108, 109, 110, 111, 112, 113, 114, 115, 116, 117, 118, 119, 120, 121, 122, 123, 124, 125, 126, 127, 128, 129, 130, 131, 132, 133, 134, 135, 136, 137, 138, 139, 140, 141, 142, 143, 144] rfl (by decide +kernel)
set_option maxRecDepth 20000 in
theorem gX5_green_X5_begin : GoodIn wsX5_green (wsV RX5 75 RX5 yX5_begin wsX5_begin) := goodIn_app (goodIn_of _ (by decide +kernel)) ggX5_green_X5_begin
set_option maxRecDepth 100000 in
set_option maxHeartbeats 4000000 in
theorem ggX5_full_X5_next : GoodIn wsX5_full wsX5_next := goodIn_r _ [8, 9, 10, 11, 12, 13, 14, 15, 16, 17, 18, 19, 20, 21, 22, 23, 24, 25, 26, 27, 28, 29, 30, 31, 32, 33, 34, 35, 36, 37, 38, 39, 40, 41, 42, 43, 44, 45, 46, 47, 48, 49] rfl (by decide +kernel)
set_option maxRecDepth 20000 in
theorem gX5_full_X5_next : GoodIn wsX5_full (wsV RX5 215 RX5 yX5_next wsX5_next) := goodIn_app (goodIn_of _ (by decide +kernel)) ggX5_full_X5_next
set_option maxRecDepth 100000 in
set_option maxHeartbeats 4000000 in
theorem ggX5_standsOn_X5_next : GoodIn wsX5_standsOn wsX5_next := goodIn_r _ [7, 8, 9, 10, 11, 12, 13, 14, 15, 16, 17, 18, 19, 20, 21, 22, 23, 24, 25, 26, 27, 28, 29, 30, 31, 32, 33, 34, 35, 36, 37, 38, 39, 40, 41, 42, 43, 44, 45, 46, 47, 48] rfl (by decide +kernel)
set_option maxRecDepth 20000 in
theorem gX5_standsOn_X5_next : GoodIn wsX5_standsOn (wsV RX5 215 RX5 yX5_next wsX5_next) := goodIn_app (goodIn_of _ (by decide +kernel)) ggX5_standsOn_X5_next
set_option maxRecDepth 100000 in
set_option maxHeartbeats 4000000 in
theorem ggX5_plot_X5_isPlot : GoodIn wsX5_plot wsX5_isPlot := goodIn_r _ [7, 8, 9, 10, 6, 11, 22, 23, 24, 25, 26, 27, 28, 29, 30, 31, 32, 33, 34, 35, 36, 37, 38, 39, 40, 41, 42, 43, 44, 45, 46, 47, 48, 49, 50, 51, 52, 53, 54, 55, 56, 57, 58, 59, 60, 61] rfl (by decide +kernel)
set_option maxRecDepth 20000 in
theorem gX5_plot_X5_isPlot : GoodIn wsX5_plot (wsV RX5 219 RX5 yX5_isPlot wsX5_isPlot) := goodIn_app (goodIn_of _ (by decide +kernel)) ggX5_plot_X5_isPlot
