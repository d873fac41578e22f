set_option maxRecDepth 100000 in
set_option maxHeartbeats 4000000 in
theorem ggX3_init_X3_layOut : GoodIn wsX3_init wsX3_layOut := goodIn_r _ [16, 17, 18, 19, 20, 5, 21, 22, 23, 24, 25, 26, 27, 15, 28, 29, 30, 31, 32, 33, 34, 35, 36, 37, 38, 39, 40, 41, 42, 43, 44, 45] rfl (by decide +kernel)
set_option maxRecDepth 20000 in
theorem gX3_init_X3_layOut : GoodIn wsX3_init (wsV RX3 33 RX3 yX3_layOut wsX3_layOut) := goodIn_app (goodIn_of _ (by decide +kernel)) ggX3_init_X3_layOut
set_option maxRecDepth 100000 in
set_option maxHeartbeats 4000000 in
theorem ggX3_layOut_J7_fill_53178 : GoodIn wsX3_layOut wsJ7_fill_53178 := goodIn_r _ [9] rfl (by decide +kernel)
set_option maxRecDepth 20000 in
theorem gX3_layOut_J7_fill_53178 : GoodIn wsX3_layOut (va_wsS RX3 50 yJ7_fill_53178 wsJ7_fill_53178) := goodIn_app (goodIn_of _ (by decide +kernel)) ggX3_layOut_J7_fill_53178
set_option maxRecDepth 100000 in
set_option maxHeartbeats 4000000 in
theorem ggX3_layOut_X3_removeHouses : GoodIn wsX3_layOut wsX3_removeHouses := goodIn_r _ [14, 15, 16, 17, 18, 19, 20, 21, 22, 23, 24, 25, 26, 27, 28, 29, 30, 31] rfl (by decide +kernel)
set_option maxRecDepth 20000 in
theorem gX3_layOut_X3_removeHouses : GoodIn wsX3_layOut (wsV RX3 56 RX3 yX3_removeHouses wsX3_removeHouses) := goodIn_app (goodIn_of _ (by decide +kernel)) ggX3_layOut_X3_removeHouses
set_option maxRecDepth 100000 in
set_option maxHeartbeats 4000000 in
theorem ggX3_ground_X3_next : GoodIn wsX3_ground wsX3_next := goodIn_r _ [5, 6, 7, 8, 9, 10, 11, 12, 13, 14, 15, 16, 17, 18, 19, 20] rfl (by decide +kernel)
set_option maxRecDepth 20000 in
theorem gX3_ground_X3_next : GoodIn wsX3_ground (wsV RX3 74 RX3 yX3_next wsX3_next) := goodIn_app (goodIn_of _ (by decide +kernel)) ggX3_ground_X3_next
set_option maxRecDepth 100000 in
set_option maxHeartbeats 4000000 in
theorem ggX3_around_X3_allPlots : GoodIn wsX3_around wsX3_allPlots := goodIn_r _ [6, 1, 7, 8, 9, 10, 11, 12, 13, 14, 15, 16, 17, 18, 19, 20] rfl (by decide +kernel)
set_option maxRecDepth 20000 in
theorem gX3_around_X3_allPlots : GoodIn wsX3_around (wsV RX3 78 RX3 yX3_allPlots wsX3_allPlots) := goodIn_app (goodIn_of _ (by decide +kernel)) ggX3_around_X3_allPlots
set_option maxRecDepth 100000 in
set_option maxHeartbeats 4000000 in
theorem ggX3_settle_X3_ground : GoodIn wsX3_settle wsX3_ground := goodIn_r _ [9, 10, 11, 12, 8, 13, 14, 19, 20, 21, 22, 23, 24, 25, 26, 27, 28, 29, 30, 31, 32] rfl (by decide +kernel)
set_option maxRecDepth 20000 in
theorem gX3_settle_X3_ground : GoodIn wsX3_settle (wsV RX3 82 RX3 yX3_ground wsX3_ground) := goodIn_app (goodIn_of _ (by decide +kernel)) ggX3_settle_X3_ground
set_option maxRecDepth 100000 in
set_option maxHeartbeats 4000000 in
theorem ggX3_settle_X3_allPlots : GoodIn wsX3_settle wsX3_allPlots := goodIn_r _ [18, 14, 19, 20, 21, 22, 23, 24, 25, 26, 27, 28, 29, 30, 31, 32] rfl (by decide +kernel)
set_option maxRecDepth 20000 in
theorem gX3_settle_X3_allPlots : GoodIn wsX3_settle (wsV RX3 78 RX3 yX3_allPlots wsX3_allPlots) := goodIn_app (goodIn_of _ (by decide +kernel)) ggX3_settle_X3_allPlots
