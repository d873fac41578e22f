set_option maxRecDepth 100000 in
set_option maxHeartbeats 4000000 in
theorem ggX1_init_X1_startAsTold : GoodIn wsX1_init wsX1_startAsTold := goodIn_r _ [13, 8, 14, 5, 15, 16, 17, 18, 6, 19, 20, 21, 22, 23, 24, 25, 26, 27, 28, 29, 30, 31, 32, 33, 34, 35, 36, 37, 38, 39, 40, 41, 42, 43, 44, 45, 46, 47, 48, 49, 50, 51, 52] rfl (by decide +kernel)
set_option maxRecDepth 20000 in
theorem gX1_init_X1_startAsTold : GoodIn wsX1_init (wsV RX1 25 RX1 yX1_startAsTold wsX1_startAsTold) := goodIn_app (goodIn_of _ (by decide +kernel)) ggX1_init_X1_startAsTold
set_option maxRecDepth 100000 in
set_option maxHeartbeats 4000000 in
theorem ggX1_startAsTold_J7_fill_53178 : GoodIn wsX1_startAsTold wsJ7_fill_53178 := goodIn_r _ [19] rfl (by decide +kernel)
set_option maxRecDepth 20000 in
theorem gX1_startAsTold_J7_fill_53178 : GoodIn wsX1_startAsTold (va_wsS RX1 37 yJ7_fill_53178 wsJ7_fill_53178) := goodIn_app (goodIn_of _ (by decide +kernel)) ggX1_startAsTold_J7_fill_53178
set_option maxRecDepth 100000 in
set_option maxHeartbeats 4000000 in
theorem ggX1_groundOf_X3_ground : GoodIn wsX1_groundOf wsX3_ground := goodIn_r _ [8, 9, 10, 11, 7, 12, 13, 23, 24, 25, 26, 27, 28, 29, 30, 31, 32, 33, 34, 35, 36] rfl (by decide +kernel)
set_option maxRecDepth 20000 in
theorem gX1_groundOf_X3_ground : GoodIn wsX1_groundOf (wsV RX1 66 RX3 yX3_ground wsX3_ground) := goodIn_app (goodIn_of _ (by decide +kernel)) ggX1_groundOf_X3_ground
set_option maxRecDepth 100000 in
set_option maxHeartbeats 4000000 in
theorem ggX1_houseOn_X1_groundOf : GoodIn wsX1_houseOn wsX1_groundOf := goodIn_r _ [7, 1, 8, 9, 10, 11, 12, 13, 14, 15, 16, 17, 18, 19, 20, 21, 22, 23, 24, 25, 26, 27, 28, 29, 30, 31, 32, 33, 34, 35, 36, 37, 38, 39, 40, 41, 42] rfl (by decide +kernel)
set_option maxRecDepth 20000 in
theorem gX1_houseOn_X1_groundOf : GoodIn wsX1_houseOn (wsV RX1 73 RX1 yX1_groundOf wsX1_groundOf) := goodIn_app (goodIn_of _ (by decide +kernel)) ggX1_houseOn_X1_groundOf
set_option maxRecDepth 100000 in
set_option maxHeartbeats 4000000 in
theorem ggX1_cropUnder_X3_next : GoodIn wsX1_cropUnder wsX3_next := goodIn_r _ [9, 10, 20, 21, 22, 23, 24, 25, 26, 27, 28, 29, 30, 31, 32, 33] rfl (by decide +kernel)
set_option maxRecDepth 20000 in
theorem gX1_cropUnder_X3_next : GoodIn wsX1_cropUnder (wsV RX1 80 RX3 yX3_next wsX3_next) := goodIn_app (goodIn_of _ (by decide +kernel)) ggX1_cropUnder_X3_next
set_option maxRecDepth 100000 in
set_option maxHeartbeats 4000000 in
theorem ggX1_findWays_X3_next : GoodIn wsX1_findWays wsX3_next := goodIn_r _ [9, 10, 41, 42, 43, 44, 45, 46, 47, 48, 49, 50, 51, 52, 53, 54] rfl (by decide +kernel)
set_option maxRecDepth 20000 in
theorem gX1_findWays_X3_next : GoodIn wsX1_findWays (wsV RX1 80 RX3 yX3_next wsX3_next) := goodIn_app (goodIn_of _ (by decide +kernel)) ggX1_findWays_X3_next
set_option maxRecDepth 100000 in
set_option maxHeartbeats 4000000 in
theorem ggX1_findWays_X3_previous : GoodIn wsX1_findWays wsX3_previous := goodIn_r _ [14, 10, 41, 42, 43, 44, 45, 46, 47, 48, 49, 50, 51, 52, 53, 54] rfl (by decide +kernel)
set_option maxRecDepth 20000 in
theorem gX1_findWays_X3_previous : GoodIn wsX1_findWays (wsV RX1 83 RX3 yX3_previous wsX3_previous) := goodIn_app (goodIn_of _ (by decide +kernel)) ggX1_findWays_X3_previous
set_option maxRecDepth 100000 in
set_option maxHeartbeats 4000000 in
theorem ggX1_findWays_X1_isEmpty : GoodIn wsX1_findWays wsX1_isEmpty := goodIn_r _ [19, 20, 32, 33, 34, 35, 36, 37, 38, 39, 40] rfl (by decide +kernel)
set_option maxRecDepth 20000 in
theorem gX1_findWays_X1_isEmpty : GoodIn wsX1_findWays (wsV RX1 86 RX1 yX1_isEmpty wsX1_isEmpty) := goodIn_app (goodIn_of _ (by decide +kernel)) ggX1_findWays_X1_isEmpty
set_option maxRecDepth 100000 in
set_option maxHeartbeats 4000000 in
theorem ggX1_findWays_X1_findPathWays : GoodIn wsX1_findWays wsX1_findPathWays := goodIn_r _ [24, 1, 25, 26, 27, 28, 8, 29, 30, 31, 15, 16, 17, 18, 19, 20, 32, 33, 34, 35, 36, 37, 38, 39, 40, 41, 42, 43, 44, 45, 46, 47, 48, 49, 50, 51, 52, 53, 54] rfl (by decide +kernel)
set_option maxRecDepth 20000 in
theorem gX1_findWays_X1_findPathWays : GoodIn wsX1_findWays (wsV RX1 90 RX1 yX1_findPathWays wsX1_findPathWays) := goodIn_app (goodIn_of _ (by decide +kernel)) ggX1_findWays_X1_findPathWays
set_option maxRecDepth 100000 in
set_option maxHeartbeats 4000000 in
theorem ggX1_findPathWays_X3_otherEnd : GoodIn wsX1_findPathWays wsX3_otherEnd := goodIn_r _ [7, 8, 9, 25, 26, 27, 28, 29, 30, 31, 32, 33, 34, 35, 36, 37, 38] rfl (by decide +kernel)
set_option maxRecDepth 20000 in
theorem gX1_findPathWays_X3_otherEnd : GoodIn wsX1_findPathWays (wsV RX1 97 RX3 yX3_otherEnd wsX3_otherEnd) := goodIn_app (goodIn_of _ (by decide +kernel)) ggX1_findPathWays_X3_otherEnd
set_option maxRecDepth 100000 in
set_option maxHeartbeats 4000000 in
theorem ggX1_findPathWays_X1_isEmpty : GoodIn wsX1_findPathWays wsX1_isEmpty := goodIn_r _ [14, 15, 16, 17, 18, 19, 20, 21, 22, 23, 24] rfl (by decide +kernel)
set_option maxRecDepth 20000 in
theorem gX1_findPathWays_X1_isEmpty : GoodIn wsX1_findPathWays (wsV RX1 86 RX1 yX1_isEmpty wsX1_isEmpty) := goodIn_app (goodIn_of _ (by decide +kernel)) ggX1_findPathWays_X1_isEmpty
set_option maxRecDepth 100000 in
set_option maxHeartbeats 4000000 in
theorem ggX1_hasWayTo_X1_findWays : GoodIn wsX1_hasWayTo wsX1_findWays := goodIn_r _ [6, 7, 8, 9, 10, 11, 12, 13, 14, 15, 16, 17, 18, 19, 20, 21, 22, 23, 5, 24, 25, 26, 27, 28, 29, 30, 31, 32, 33, 34, 35, 36, 37, 38, 39, 40, 41, 42, 43, 44, 45, 46, 47, 48, 49, 50, 51, 52, 53, 54, 55, 56, 57, 58, 59] rfl (by decide +kernel)
set_option maxRecDepth 20000 in
theorem gX1_hasWayTo_X1_findWays : GoodIn wsX1_hasWayTo (wsV RX1 100 RX1 yX1_findWays wsX1_findWays) := goodIn_app (goodIn_of _ (by decide +kernel)) ggX1_hasWayTo_X1_findWays
set_option maxRecDepth 100000 in
set_option maxHeartbeats 4000000 in
theorem ggX1_moveHouse_X3_ground : GoodIn wsX1_moveHouse wsX3_ground := goodIn_r _ [9, 10, 11, 12, 8, 13, 14, 24, 25, 26, 27, 28, 29, 30, 31, 32, 33, 34, 35, 36, 37] rfl (by decide +kernel)
set_option maxRecDepth 20000 in
theorem gX1_moveHouse_X3_ground : GoodIn wsX1_moveHouse (wsV RX1 66 RX3 yX3_ground wsX3_ground) := goodIn_app (goodIn_of _ (by decide +kernel)) ggX1_moveHouse_X3_ground
set_option maxRecDepth 100000 in
set_option maxHeartbeats 4000000 in
theorem ggX1_passNight_X1_firstFrom : GoodIn wsX1_passNight wsX1_firstFrom := goodIn_r _ [7, 8, 9, 10, 11, 12, 13, 6, 14, 15, 16, 17, 18, 19, 20, 21, 22, 23, 24, 25, 26, 27, 28, 29, 30, 31, 32, 33, 34, 35, 36, 37, 38, 39, 40, 41, 42, 43, 68, 69, 70, 71, 72, 73, 74, 75, 76, 77, 78, 79, 80, 81, 82, 83, 84, 85, 86, 87, 88, 89, 90] rfl (by decide +kernel)
set_option maxRecDepth 20000 in
theorem gX1_passNight_X1_firstFrom : GoodIn wsX1_passNight (wsV RX1 104 RX1 yX1_firstFrom wsX1_firstFrom) := goodIn_app (goodIn_of _ (by decide +kernel)) ggX1_passNight_X1_firstFrom
set_option maxRecDepth 100000 in
set_option maxHeartbeats 4000000 in
theorem ggX1_passNight_X1_longestRested : GoodIn wsX1_passNight wsX1_longestRested := goodIn_r _ [47, 8, 9, 48, 10, 11, 12, 13, 6, 14, 15, 16, 17, 18, 19, 20, 21, 22, 23, 24, 25, 26, 27, 28, 29, 30, 31, 32, 33, 34, 35, 36, 37, 38, 39, 40, 41, 42, 43, 68, 69, 70, 71, 72, 73, 74, 75, 76, 77, 78, 79, 80, 81, 82, 83, 84, 85, 86, 87, 88, 89, 90] rfl (by decide +kernel)
set_option maxRecDepth 20000 in
theorem gX1_passNight_X1_longestRested : GoodIn wsX1_passNight (wsV RX1 107 RX1 yX1_longestRested wsX1_longestRested) := goodIn_app (goodIn_of _ (by decide +kernel)) ggX1_passNight_X1_longestRested
set_option maxRecDepth 100000 in
set_option maxHeartbeats 4000000 in
theorem ggX1_passNight_X1_drawn : GoodIn wsX1_passNight wsX1_drawn := goodIn_r _ [52, 8, 9, 10, 53, 54, 11, 12, 13, 6, 14, 15, 16, 17, 18, 19, 20, 21, 22, 23, 24, 25, 26, 27, 28, 29, 30, 31, 32, 33, 34, 35, 36, 37, 38, 39, 40, 41, 42, 43, 68, 69, 70, 71, 72, 73, 74, 75, 76, 77, 78, 79, 80, 81, 82, 83, 84, 85, 86, 87, 88, 89, 90] rfl (by decide +kernel)
set_option maxRecDepth 20000 in
theorem gX1_passNight_X1_drawn : GoodIn wsX1_passNight (wsV RX1 111 RX1 yX1_drawn wsX1_drawn) := goodIn_app (goodIn_of _ (by decide +kernel)) ggX1_passNight_X1_drawn
set_option maxRecDepth 100000 in
set_option maxHeartbeats 4000000 in
theorem ggX1_passNight_X1_passNightOf : GoodIn wsX1_passNight wsX1_passNightOf := goodIn_r _ [58, 2, 48, 8, 9, 1, 59, 60, 61, 6, 62, 32, 15, 17, 63, 64, 65, 21, 66, 67, 19, 20, 22, 23, 68, 69, 70, 71, 72, 73, 74, 75, 76, 77, 78, 79, 80, 81, 82, 83, 84, 85, 86, 87, 88, 89, 90] rfl (by decide +kernel)
set_option maxRecDepth 20000 in
theorem gX1_passNight_X1_passNightOf : GoodIn wsX1_passNight (wsV RX1 114 RX1 yX1_passNightOf wsX1_passNightOf) := goodIn_app (goodIn_of _ (by decide +kernel)) ggX1_passNight_X1_passNightOf
set_option maxRecDepth 100000 in
set_option maxHeartbeats 4000000 in
theorem ggX1_passNightOf_X1_moveHouse : GoodIn wsX1_passNightOf wsX1_moveHouse := goodIn_r _ [10, 11, 3, 12, 13, 14, 15, 16, 17, 18, 19, 20, 21, 22, 23, 24, 25, 26, 27, 28, 29, 30, 31, 32, 33, 34, 35, 36, 37, 38, 39, 40, 41, 42, 43, 44, 45, 46] rfl (by decide +kernel)
set_option maxRecDepth 20000 in
theorem gX1_passNightOf_X1_moveHouse : GoodIn wsX1_passNightOf (wsV RX1 118 RX1 yX1_moveHouse wsX1_moveHouse) := goodIn_app (goodIn_of _ (by decide +kernel)) ggX1_passNightOf_X1_moveHouse
set_option maxRecDepth 100000 in
set_option maxHeartbeats 4000000 in
theorem ggX1_firstFrom_X1_findWays : GoodIn wsX1_firstFrom wsX1_findWays := goodIn_r _ [8, 1, 9, 10, 11, 12, 13, 14, 15, 16, 17, 18, 19, 20, 21, 22, 23, 24, 7, 25, 26, 27, 28, 29, 30, 31, 32, 33, 34, 35, 36, 37, 38, 39, 40, 41, 42, 43, 44, 45, 46, 47, 48, 49, 50, 51, 52, 53, 54, 55, 56, 57, 58, 59, 60] rfl (by decide +kernel)
set_option maxRecDepth 20000 in
theorem gX1_firstFrom_X1_findWays : GoodIn wsX1_firstFrom (wsV RX1 100 RX1 yX1_findWays wsX1_findWays) := goodIn_app (goodIn_of _ (by decide +kernel)) ggX1_firstFrom_X1_findWays
set_option maxRecDepth 100000 in
set_option maxHeartbeats 4000000 in
theorem ggX1_longestRested_X1_findWays : GoodIn wsX1_longestRested wsX1_findWays := goodIn_r _ [9, 1, 10, 11, 12, 13, 14, 15, 16, 17, 18, 19, 20, 21, 22, 23, 24, 25, 8, 26, 27, 28, 29, 30, 31, 32, 33, 34, 35, 36, 37, 38, 39, 40, 41, 42, 43, 44, 45, 46, 47, 48, 49, 50, 51, 52, 53, 54, 55, 56, 57, 58, 59, 60, 61] rfl (by decide +kernel)
set_option maxRecDepth 20000 in
theorem gX1_longestRested_X1_findWays : GoodIn wsX1_longestRested (wsV RX1 100 RX1 yX1_findWays wsX1_findWays) := goodIn_app (goodIn_of _ (by decide +kernel)) ggX1_longestRested_X1_findWays
set_option maxRecDepth 100000 in
set_option maxHeartbeats 4000000 in
theorem ggX1_drawn_X1_findWays : GoodIn wsX1_drawn wsX1_findWays := goodIn_r _ [10, 1, 11, 12, 13, 14, 15, 16, 17, 18, 19, 20, 21, 22, 23, 24, 25, 26, 9, 27, 28, 29, 30, 31, 32, 33, 34, 35, 36, 37, 38, 39, 40, 41, 42, 43, 44, 45, 46, 47, 48, 49, 50, 51, 52, 53, 54, 55, 56, 57, 58, 59, 60, 61, 62] rfl (by decide +kernel)
set_option maxRecDepth 20000 in
theorem gX1_drawn_X1_findWays : GoodIn wsX1_drawn (wsV RX1 100 RX1 yX1_findWays wsX1_findWays) := goodIn_app (goodIn_of _ (by decide +kernel)) ggX1_drawn_X1_findWays
set_option maxRecDepth 100000 in
set_option maxHeartbeats 4000000 in
theorem ggX1_meets_X1_areBeside : GoodIn wsX1_meets wsX1_areBeside := goodIn_r _ [5, 6, 7, 8, 9, 4, 10, 11, 12, 13, 14, 15, 16, 17, 18, 19, 20, 21, 22, 23, 24, 25, 26, 27, 28, 29, 30, 40, 41, 42, 43, 44, 45, 46, 47, 48, 49, 50, 51, 52, 53, 54, 55, 56, 57, 58, 59, 60, 61, 62] rfl (by decide +kernel)
set_option maxRecDepth 20000 in
theorem gX1_meets_X1_areBeside : GoodIn wsX1_meets (wsV RX1 123 RX1 yX1_areBeside wsX1_areBeside) := goodIn_app (goodIn_of _ (by decide +kernel)) ggX1_meets_X1_areBeside
set_option maxRecDepth 100000 in
set_option maxHeartbeats 4000000 in
theorem ggX1_meets_X1_areOpposite : GoodIn wsX1_meets wsX1_areOpposite := goodIn_r _ [34, 12, 35, 36, 37, 38, 6, 39, 40, 41, 42, 43, 44, 45, 46, 47, 48, 49, 50, 51, 52, 53, 54, 55, 56, 57, 58, 59, 60, 61, 62] rfl (by decide +kernel)
set_option maxRecDepth 20000 in
theorem gX1_meets_X1_areOpposite : GoodIn wsX1_meets (wsV RX1 127 RX1 yX1_areOpposite wsX1_areOpposite) := goodIn_app (goodIn_of _ (by decide +kernel)) ggX1_meets_X1_areOpposite
set_option maxRecDepth 100000 in
set_option maxHeartbeats 4000000 in
theorem ggX1_areBeside_X1_groundOf : GoodIn wsX1_areBeside wsX1_groundOf := goodIn_r _ [6, 1, 7, 8, 9, 10, 11, 12, 13, 14, 15, 16, 17, 18, 27, 28, 29, 30, 31, 32, 33, 34, 35, 36, 37, 38, 39, 40, 41, 42, 43, 44, 45, 46, 47, 48, 49] rfl (by decide +kernel)
set_option maxRecDepth 20000 in
theorem gX1_areBeside_X1_groundOf : GoodIn wsX1_areBeside (wsV RX1 73 RX1 yX1_groundOf wsX1_groundOf) := goodIn_app (goodIn_of _ (by decide +kernel)) ggX1_areBeside_X1_groundOf
set_option maxRecDepth 100000 in
set_option maxHeartbeats 4000000 in
theorem ggX1_areBeside_X3_around : GoodIn wsX1_areBeside wsX3_around := goodIn_r _ [22, 18, 23, 24, 25, 12, 26, 36, 37, 38, 39, 40, 41, 42, 43, 44, 45, 46, 47, 48, 49] rfl (by decide +kernel)
set_option maxRecDepth 20000 in
theorem gX1_areBeside_X3_around : GoodIn wsX1_areBeside (wsV RX1 130 RX3 yX3_around wsX3_around) := goodIn_app (goodIn_of _ (by decide +kernel)) ggX1_areBeside_X3_around
set_option maxRecDepth 100000 in
set_option maxHeartbeats 4000000 in
theorem ggX1_hasFeudBeside_X1_areBeside : GoodIn wsX1_hasFeudBeside wsX1_areBeside := goodIn_r _ [9, 1, 10, 11, 12, 8, 13, 14, 15, 16, 17, 18, 19, 20, 21, 22, 23, 24, 25, 26, 27, 28, 29, 30, 31, 32, 33, 34, 35, 36, 37, 38, 39, 40, 41, 42, 43, 44, 45, 46, 47, 48, 49, 50, 51, 52, 53, 54, 55, 56] rfl (by decide +kernel)
set_option maxRecDepth 20000 in
theorem gX1_hasFeudBeside_X1_areBeside : GoodIn wsX1_hasFeudBeside (wsV RX1 123 RX1 yX1_areBeside wsX1_areBeside) := goodIn_app (goodIn_of _ (by decide +kernel)) ggX1_hasFeudBeside_X1_areBeside
set_option maxRecDepth 100000 in
set_option maxHeartbeats 4000000 in
theorem ggX1_stateKey_X1_placesKey : GoodIn wsX1_stateKey wsX1_placesKey := goodIn_r _ [7, 8, 9, 10, 20, 21, 22, 23, 24, 25, 26, 27, 28, 29, 30, 31, 32, 33, 34, 35, 36, 37, 38, 39, 40, 41, 42] rfl (by decide +kernel)
set_option maxRecDepth 20000 in
theorem gX1_stateKey_X1_placesKey : GoodIn wsX1_stateKey (wsV RX1 150 RX1 yX1_placesKey wsX1_placesKey) := goodIn_app (goodIn_of _ (by decide +kernel)) ggX1_stateKey_X1_placesKey
set_option maxRecDepth 100000 in
set_option maxHeartbeats 4000000 in
theorem ggX1_stateKey_X1_restKey : GoodIn wsX1_stateKey wsX1_restKey := goodIn_r _ [14, 8, 9, 15, 16, 17, 6, 18, 19, 20, 21, 22, 23, 24, 25, 26, 27, 28, 29, 30, 31, 32, 33, 34, 35, 36, 37, 38, 39, 40, 41, 42] rfl (by decide +kernel)
set_option maxRecDepth 20000 in
theorem gX1_stateKey_X1_restKey : GoodIn wsX1_stateKey (wsV RX1 154 RX1 yX1_restKey wsX1_restKey) := goodIn_app (goodIn_of _ (by decide +kernel)) ggX1_stateKey_X1_restKey
set_option maxRecDepth 100000 in
set_option maxHeartbeats 4000000 in
theorem ggX1_restKey_X1_restRank : GoodIn wsX1_restKey wsX1_restRank := goodIn_r _ [7, 1, 2, 8, 9, 10, 11, 12, 13, 14, 15, 16, 17, 18, 19, 20, 21, 22, 23, 24, 25, 26, 27, 28, 29, 30, 31] rfl (by decide +kernel)
set_option maxRecDepth 20000 in
theorem gX1_restKey_X1_restRank : GoodIn wsX1_restKey (wsV RX1 158 RX1 yX1_restRank wsX1_restRank) := goodIn_app (goodIn_of _ (by decide +kernel)) ggX1_restKey_X1_restRank
