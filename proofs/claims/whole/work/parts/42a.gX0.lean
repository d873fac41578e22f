set_option maxRecDepth 100000 in
set_option maxHeartbeats 4000000 in
theorem ggX0_prepare_J7_fill_d0a16 : GoodIn wsX0_prepare wsJ7_fill_d0a16 := goodIn_r _ [8] rfl (by decide +kernel)
set_option maxRecDepth 20000 in
theorem gX0_prepare_J7_fill_d0a16 : GoodIn wsX0_prepare (va_wsS RX0 34 yJ7_fill_d0a16 wsJ7_fill_d0a16) := goodIn_app (goodIn_of _ (by decide +kernel)) ggX0_prepare_J7_fill_d0a16
set_option maxRecDepth 100000 in
set_option maxHeartbeats 4000000 in
theorem ggX0_reaches_X1_placesKey : GoodIn wsX0_reaches wsX1_placesKey := goodIn_r _ [10, 11, 12, 13, 92, 93, 94, 95, 96, 97, 98, 99, 100, 101, 102, 103, 104, 105, 106, 107, 108, 109, 110, 111, 112, 113, 114] rfl (by decide +kernel)
set_option maxRecDepth 20000 in
theorem gX0_reaches_X1_placesKey : GoodIn wsX0_reaches (wsV RX0 40 RX1 yX1_placesKey wsX1_placesKey) := goodIn_app (goodIn_of _ (by decide +kernel)) ggX0_reaches_X1_placesKey
set_option maxRecDepth 100000 in
set_option maxHeartbeats 4000000 in
theorem ggX0_reaches_X0_mayHelp : GoodIn wsX0_reaches wsX0_mayHelp := goodIn_r _ [18, 19, 20, 86, 87, 88, 89, 90, 91] rfl (by decide +kernel)
set_option maxRecDepth 20000 in
theorem gX0_reaches_X0_mayHelp : GoodIn wsX0_reaches (wsV RX0 59 RX0 yX0_mayHelp wsX0_mayHelp) := goodIn_app (goodIn_of _ (by decide +kernel)) ggX0_reaches_X0_mayHelp
set_option maxRecDepth 100000 in
set_option maxHeartbeats 4000000 in
theorem ggX0_reaches_X0_reachesBy : GoodIn wsX0_reaches wsX0_reachesBy := goodIn_r _ [23, 24, 1, 25, 19, 20, 26, 27, 28, 29, 9, 30, 11, 31, 32, 13, 33, 34, 35, 36, 37, 38, 39, 40, 41, 42, 43, 44, 45, 46, 47, 48, 49, 50, 51, 52, 53, 54, 55, 56, 57, 58, 59, 60, 61, 62, 63, 64, 65, 66, 67, 68, 69, 70, 71, 72, 73, 74, 75, 76, 77, 78, 79, 80, 81, 82, 83, 84, 85, 17, 0, 2, 3, 4, 5, 6, 7, 8, 10, 12, 14, 15, 16, 18, 21, 22, 86, 87, 88, 89, 90, 91, 92, 93, 94, 95, 96, 97, 98, 99, 100, 101, 102, 103, 104, 105, 106, 107, 108, 109, 110, 111, 112, 113, 114] rfl (by decide +kernel)
set_option maxRecDepth 20000 in
theorem gX0_reaches_X0_reachesBy : GoodIn wsX0_reaches (va_wsS RX0 63 yX0_reachesBy wsX0_reachesBy) := goodIn_app (goodIn_of _ (by decide +kernel)) ggX0_reaches_X0_reachesBy
set_option maxRecDepth 100000 in
set_option maxHeartbeats 4000000 in
theorem ggX0_reachesBy_X1_findWays : GoodIn wsX0_reachesBy wsX1_findWays := goodIn_r _ [11, 12, 13, 14, 15, 16, 17, 18, 19, 20, 21, 22, 23, 24, 25, 26, 27, 28, 10, 29, 30, 31, 32, 33, 34, 35, 36, 37, 38, 39, 40, 41, 92, 93, 94, 95, 96, 97, 98, 99, 100, 101, 102, 103, 104, 105, 106, 107, 108, 109, 110, 111, 112, 113, 114] rfl (by decide +kernel)
set_option maxRecDepth 20000 in
theorem gX0_reachesBy_X1_findWays : GoodIn wsX0_reachesBy (wsV RX0 71 RX1 yX1_findWays wsX1_findWays) := goodIn_app (goodIn_of _ (by decide +kernel)) ggX0_reachesBy_X1_findWays
set_option maxRecDepth 100000 in
set_option maxHeartbeats 4000000 in
theorem ggX0_reachesBy_X1_moveHouse : GoodIn wsX0_reachesBy wsX1_moveHouse := goodIn_r _ [45, 30, 12, 13, 15, 46, 47, 48, 19, 49, 50, 17, 18, 20, 21, 92, 93, 94, 95, 96, 97, 98, 99, 100, 101, 102, 103, 104, 105, 106, 107, 108, 109, 110, 111, 112, 113, 114] rfl (by decide +kernel)
set_option maxRecDepth 20000 in
theorem gX0_reachesBy_X1_moveHouse : GoodIn wsX0_reachesBy (wsV RX0 75 RX1 yX1_moveHouse wsX1_moveHouse) := goodIn_app (goodIn_of _ (by decide +kernel)) ggX0_reachesBy_X1_moveHouse
set_option maxRecDepth 100000 in
set_option maxHeartbeats 4000000 in
theorem ggX0_reachesBy_X1_areBeside : GoodIn wsX0_reachesBy wsX1_areBeside := goodIn_r _ [54, 12, 55, 56, 57, 10, 58, 13, 15, 46, 47, 48, 19, 49, 50, 17, 18, 20, 21, 59, 60, 61, 62, 63, 64, 65, 66, 92, 93, 94, 95, 96, 97, 98, 99, 100, 101, 102, 103, 104, 105, 106, 107, 108, 109, 110, 111, 112, 113, 114] rfl (by decide +kernel)
set_option maxRecDepth 20000 in
theorem gX0_reachesBy_X1_areBeside : GoodIn wsX0_reachesBy (wsV RX0 79 RX1 yX1_areBeside wsX1_areBeside) := goodIn_app (goodIn_of _ (by decide +kernel)) ggX0_reachesBy_X1_areBeside
set_option maxRecDepth 100000 in
set_option maxHeartbeats 4000000 in
theorem ggX0_reachesBy_X0_reaches : GoodIn wsX0_reachesBy wsX0_reaches := goodIn_r _ [70, 2, 71, 72, 73, 74, 75, 76, 77, 10, 78, 12, 79, 15, 80, 81, 82, 69, 83, 4, 5, 84, 85, 0, 1, 3, 6, 7, 8, 9, 11, 13, 14, 16, 17, 18, 19, 20, 21, 22, 23, 24, 25, 26, 27, 28, 29, 30, 31, 32, 33, 34, 35, 36, 37, 38, 39, 40, 41, 42, 43, 44, 45, 46, 47, 48, 49, 50, 51, 52, 53, 54, 55, 56, 57, 58, 59, 60, 61, 62, 63, 64, 65, 66, 67, 68, 86, 87, 88, 89, 90, 91, 92, 93, 94, 95, 96, 97, 98, 99, 100, 101, 102, 103, 104, 105, 106, 107, 108, 109, 110, 111, 112, 113, 114] rfl (by decide +kernel)
set_option maxRecDepth 20000 in
theorem gX0_reachesBy_X0_reaches : GoodIn wsX0_reachesBy (va_wsS RX0 82 yX0_reaches wsX0_reaches) := goodIn_app (goodIn_of _ (by decide +kernel)) ggX0_reachesBy_X0_reaches
