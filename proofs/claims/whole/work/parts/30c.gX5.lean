set_option maxRecDepth 100000 in
set_option maxHeartbeats 4000000 in
theorem ggX5_layState_X5_rankOf : GoodIn wsX5_layState wsX5_rankOf := goodIn_r _ [9, 2, 3, 10, 11, 12, 13, 14, 15, 16, 17, 18, 19, 20, 21, 22, 23, 24, 25, 26, 27, 28, 29, 30, 31, 32, 33, 34, 35, 36, 37, 38, 39, 40, 41, 42, 43, 44, 45, 46, 47, 48, 49] rfl (by decide +kernel)
set_option maxRecDepth 20000 in
theorem gX5_layState_X5_rankOf : GoodIn wsX5_layState (wsV RX5 272 RX5 yX5_rankOf wsX5_rankOf) := goodIn_app (goodIn_of _ (by decide +kernel)) ggX5_layState_X5_rankOf
set_option maxRecDepth 100000 in
set_option maxHeartbeats 4000000 in
theorem ggX5_roundOf_X5_putAside : GoodIn wsX5_roundOf wsX5_putAside := goodIn_r _ [5, 6, 7, 8, 9, 10, 11, 4, 12, 73, 74, 75, 76, 77, 78, 79, 80, 81, 82, 83, 84, 85, 86, 87, 88, 89, 90, 91, 92, 93, 94, 95, 96, 97, 98, 99, 100, 101, 102, 103, 104, 105, 106, 107, 108, 109, 110, 111, 112] rfl (by decide +kernel)
set_option maxRecDepth 20000 in
theorem gX5_roundOf_X5_putAside : GoodIn wsX5_roundOf (wsV RX5 266 RX5 yX5_putAside wsX5_putAside) := goodIn_app (goodIn_of _ (by decide +kernel)) ggX5_roundOf_X5_putAside
set_option maxRecDepth 100000 in
set_option maxHeartbeats 4000000 in
theorem ggX5_roundOf_X5_layState : GoodIn wsX5_roundOf wsX5_layState := goodIn_r _ [16, 17, 18, 6, 8, 19, 20, 21, 4, 22, 73, 74, 75, 76, 77, 78, 79, 80, 81, 82, 83, 84, 85, 86, 87, 88, 89, 90, 91, 92, 93, 94, 95, 96, 97, 98, 99, 100, 101, 102, 103, 104, 105, 106, 107, 108, 109, 110, 111, 112] rfl (by decide +kernel)
set_option maxRecDepth 20000 in
theorem gX5_roundOf_X5_layState : GoodIn wsX5_roundOf (wsV RX5 276 RX5 yX5_layState wsX5_layState) := goodIn_app (goodIn_of _ (by decide +kernel)) ggX5_roundOf_X5_layState
set_option maxRecDepth 100000 in
set_option maxHeartbeats 4000000 in
theorem ggX5_roundOf_X5_isLike : GoodIn wsX5_roundOf wsX5_isLike := goodIn_r _ [26, 17, 73, 74, 75, 76, 77, 78, 79, 80, 81, 82, 83, 84, 85, 86, 87, 88, 89, 90, 91, 92, 93, 94, 95, 96, 97, 98, 99, 100, 101, 102, 103, 104, 105, 106, 107, 108, 109, 110, 111, 112] rfl (by decide +kernel)
set_option maxRecDepth 20000 in
theorem gX5_roundOf_X5_isLike : GoodIn wsX5_roundOf (wsV RX5 279 RX5 yX5_isLike wsX5_isLike) := goodIn_app (goodIn_of _ (by decide +kernel)) ggX5_roundOf_X5_isLike
set_option maxRecDepth 100000 in
set_option maxHeartbeats 4000000 in
theorem ggX5_roundOf_X5_goNight : GoodIn wsX5_roundOf wsX5_goNight := goodIn_r _ [30, 9, 31, 6, 18, 32, 33, 34, 4, 35, 36, 37, 38, 39, 40, 41, 42, 43, 44, 45, 46, 47, 48, 49, 50, 51, 52, 53, 54, 55, 56, 57, 58, 59, 60, 61, 62, 63, 64, 65, 66, 67, 68, 73, 74, 75, 76, 77, 78, 79, 80, 81, 82, 83, 84, 85, 86, 87, 88, 89, 90, 91, 92, 93, 94, 95, 96, 97, 98, 99, 100, 101, 102, 103, 104, 105, 106, 107, 108, 109, 110, 111, 112] rfl (by decide +kernel)
set_option maxRecDepth 20000 in
theorem gX5_roundOf_X5_goNight : GoodIn wsX5_roundOf (wsV RX5 259 RX5 yX5_goNight wsX5_goNight) := goodIn_app (goodIn_of _ (by decide +kernel)) ggX5_roundOf_X5_goNight
set_option maxRecDepth 100000 in
set_option maxHeartbeats 4000000 in
theorem ggX5_roundOf_X5_putBack : GoodIn wsX5_roundOf wsX5_putBack := goodIn_r _ [72, 7, 6, 10, 11, 4, 12, 73, 74, 75, 76, 77, 78, 79, 80, 81, 82, 83, 84, 85, 86, 87, 88, 89, 90, 91, 92, 93, 94, 95, 96, 97, 98, 99, 100, 101, 102, 103, 104, 105, 106, 107, 108, 109, 110, 111, 112] rfl (by decide +kernel)
set_option maxRecDepth 20000 in
theorem gX5_roundOf_X5_putBack : GoodIn wsX5_roundOf (wsV RX5 269 RX5 yX5_putBack wsX5_putBack) := goodIn_app (goodIn_of _ (by decide +kernel)) ggX5_roundOf_X5_putBack
set_option maxRecDepth 100000 in
set_option maxHeartbeats 4000000 in
theorem ggX5_round_X5_in : GoodIn wsX5_round wsX5_in := goodIn_r _ [4] rfl (by decide +kernel)
set_option maxRecDepth 20000 in
theorem gX5_round_X5_in : GoodIn wsX5_round (va_wsS RX5 81 yX5_in wsX5_in) := goodIn_app (goodIn_of _ (by decide +kernel)) ggX5_round_X5_in
set_option maxRecDepth 100000 in
set_option maxHeartbeats 4000000 in
theorem ggX5_round_X5_roundOf : GoodIn wsX5_round wsX5_roundOf := goodIn_r _ [8, 9, 10, 11, 3, 12, 13, 14, 15, 16, 17, 18, 19, 20, 21, 22, 23, 24, 25, 26, 27, 28, 29, 30, 31, 32, 33, 34, 35, 36, 37, 38, 39, 40, 41, 42, 43, 44, 45, 46, 47, 48, 49, 50, 51, 52, 53, 54, 55, 56, 57, 58, 59, 60, 61, 62, 63, 64, 65, 66, 67, 68, 69, 70, 71, 72, 73, 74, 75, 76, 77, 78, 79, 80, 81, 82, 83, 84, 85, 86, 87, 88, 89, 90, 91, 92, 93, 94, 95, 96, 97, 98, 99, 100, 101, 102, 103, 104, 105, 106, 107, 108, 109, 110, 111, 112, 113, 114, 115, 116, 117, 118, 119] rfl (by decide +kernel)
set_option maxRecDepth 20000 in
theorem gX5_round_X5_roundOf : GoodIn wsX5_round (wsV RX5 282 RX5 yX5_roundOf wsX5_roundOf) := goodIn_app (goodIn_of _ (by decide +kernel)) ggX5_round_X5_roundOf
set_option maxRecDepth 100000 in
set_option maxHeartbeats 4000000 in
theorem ggX5_areBeside_X5_standsOn : GoodIn wsX5_areBeside wsX5_standsOn := goodIn_r _ [6, 7, 8, 9, 10, 11, 5, 12, 1, 13, 14, 15, 16, 17, 18, 19, 20, 21, 22, 23, 24, 25, 26, 27, 28, 29, 30, 31, 32, 33, 34, 35, 36, 37, 38, 39, 40, 41, 42, 43, 44, 45, 46, 47, 48, 49, 50, 51, 52] rfl (by decide +kernel)
set_option maxRecDepth 20000 in
theorem gX5_areBeside_X5_standsOn : GoodIn wsX5_areBeside (wsV RX5 222 RX5 yX5_standsOn wsX5_standsOn) := goodIn_app (goodIn_of _ (by decide +kernel)) ggX5_areBeside_X5_standsOn
set_option maxRecDepth 100000 in
set_option maxHeartbeats 4000000 in
theorem ggX5_areBeside_X5_next : GoodIn wsX5_areBeside wsX5_next := goodIn_r _ [12, 1, 13, 14, 15, 16, 17, 18, 19, 20, 21, 22, 23, 24, 25, 26, 27, 28, 29, 30, 31, 32, 33, 34, 35, 36, 37, 38, 39, 40, 41, 42, 43, 44, 45, 46, 47, 48, 49, 50, 51, 52] rfl (by decide +kernel)
set_option maxRecDepth 20000 in
theorem gX5_areBeside_X5_next : GoodIn wsX5_areBeside (wsV RX5 215 RX5 yX5_next wsX5_next) := goodIn_app (goodIn_of _ (by decide +kernel)) ggX5_areBeside_X5_next
set_option maxRecDepth 100000 in
set_option maxHeartbeats 4000000 in
theorem ggX5_doTouch_X5_areBeside : GoodIn wsX5_doTouch wsX5_areBeside := goodIn_r _ [7, 1, 8, 9, 10, 6, 11, 2, 12, 13, 14, 15, 16, 17, 18, 19, 20, 21, 22, 23, 24, 25, 26, 27, 28, 29, 30, 31, 32, 33, 34, 35, 36, 37, 38, 39, 40, 41, 42, 43, 44, 45, 46, 47, 48, 49, 50, 51, 52, 53, 54, 55, 56] rfl (by decide +kernel)
set_option maxRecDepth 20000 in
theorem gX5_doTouch_X5_areBeside : GoodIn wsX5_doTouch (wsV RX5 285 RX5 yX5_areBeside wsX5_areBeside) := goodIn_app (goodIn_of _ (by decide +kernel)) ggX5_doTouch_X5_areBeside
set_option maxRecDepth 100000 in
set_option maxHeartbeats 4000000 in
theorem ggX5_doTouch_X5_next : GoodIn wsX5_doTouch wsX5_next := goodIn_r _ [16, 1, 17, 18, 19, 20, 21, 22, 23, 24, 25, 26, 27, 28, 29, 30, 31, 32, 33, 34, 35, 36, 37, 38, 39, 40, 41, 42, 43, 44, 45, 46, 47, 48, 49, 50, 51, 52, 53, 54, 55, 56] rfl (by decide +kernel)
set_option maxRecDepth 20000 in
theorem gX5_doTouch_X5_next : GoodIn wsX5_doTouch (wsV RX5 215 RX5 yX5_next wsX5_next) := goodIn_app (goodIn_of _ (by decide +kernel)) ggX5_doTouch_X5_next
set_option maxRecDepth 100000 in
set_option maxHeartbeats 4000000 in
theorem ggX5_whyNot_X5_isHouse : GoodIn wsX5_whyNot wsX5_isHouse := goodIn_r _ [5, 6, 7, 8, 4, 9, 10, 11, 12, 13, 14, 15, 16, 17, 18, 19, 20, 21, 22, 23, 24, 25, 26, 27, 28, 29, 30, 31, 32, 33, 34, 35, 36, 37, 38, 39, 40, 41, 42, 43, 44, 45, 46, 47, 48, 49] rfl (by decide +kernel)
set_option maxRecDepth 20000 in
theorem gX5_whyNot_X5_isHouse : GoodIn wsX5_whyNot (wsV RX5 239 RX5 yX5_isHouse wsX5_isHouse) := goodIn_app (goodIn_of _ (by decide +kernel)) ggX5_whyNot_X5_isHouse
set_option maxRecDepth 100000 in
set_option maxHeartbeats 4000000 in
theorem ggX5_touch_X5_in : GoodIn wsX5_touch wsX5_in := goodIn_r _ [4] rfl (by decide +kernel)
set_option maxRecDepth 20000 in
theorem gX5_touch_X5_in : GoodIn wsX5_touch (va_wsS RX5 81 yX5_in wsX5_in) := goodIn_app (goodIn_of _ (by decide +kernel)) ggX5_touch_X5_in
set_option maxRecDepth 100000 in
set_option maxHeartbeats 4000000 in
theorem ggX5_touch_X5_whyNot : GoodIn wsX5_touch wsX5_whyNot := goodIn_r _ [8, 9, 10, 11, 3, 12, 13, 1, 2, 4, 33, 34, 35, 36, 37, 38, 39, 40, 41, 42, 43, 44, 45, 46, 47, 48, 49, 50, 51, 52, 53, 54, 55, 56, 57, 58, 59, 60, 61, 62, 63, 64, 65, 66, 67, 68, 69, 70, 71, 72] rfl (by decide +kernel)
set_option maxRecDepth 20000 in
theorem gX5_touch_X5_whyNot : GoodIn wsX5_touch (wsV RX5 288 RX5 yX5_whyNot wsX5_whyNot) := goodIn_app (goodIn_of _ (by decide +kernel)) ggX5_touch_X5_whyNot
set_option maxRecDepth 100000 in
set_option maxHeartbeats 4000000 in
theorem ggX5_touch_X5_doTouch : GoodIn wsX5_touch wsX5_doTouch := goodIn_r _ [17, 18, 19, 20, 21, 22, 3, 23, 24, 25, 26, 27, 28, 29, 30, 31, 32, 33, 34, 35, 36, 37, 38, 39, 40, 41, 42, 43, 44, 45, 46, 47, 48, 49, 50, 51, 52, 53, 54, 55, 56, 57, 58, 59, 60, 61, 62, 63, 64, 65, 66, 67, 68, 69, 70, 71, 72] rfl (by decide +kernel)
set_option maxRecDepth 20000 in
theorem gX5_touch_X5_doTouch : GoodIn wsX5_touch (wsV RX5 292 RX5 yX5_doTouch wsX5_doTouch) := goodIn_app (goodIn_of _ (by decide +kernel)) ggX5_touch_X5_doTouch
set_option maxRecDepth 100000 in
set_option maxHeartbeats 4000000 in
theorem ggX5_when_X5_in : GoodIn wsX5_when wsX5_in := goodIn_r _ [4] rfl (by decide +kernel)
set_option maxRecDepth 20000 in
theorem gX5_when_X5_in : GoodIn wsX5_when (va_wsS RX5 81 yX5_in wsX5_in) := goodIn_app (goodIn_of _ (by decide +kernel)) ggX5_when_X5_in
set_option maxRecDepth 100000 in
set_option maxHeartbeats 4000000 in
theorem ggX5_when_X5_whyNot : GoodIn wsX5_when wsX5_whyNot := goodIn_r _ [8, 9, 10, 11, 3, 12, 13, 1, 2, 4, 83, 84, 85, 86, 87, 88, 89, 90, 91, 92, 93, 94, 95, 96, 97, 98, 99, 100, 101, 102, 103, 104, 105, 106, 107, 108, 109, 110, 111, 112, 113, 114, 115, 116, 117, 118, 119, 120, 121, 122] rfl (by decide +kernel)
set_option maxRecDepth 20000 in
theorem gX5_when_X5_whyNot : GoodIn wsX5_when (wsV RX5 288 RX5 yX5_whyNot wsX5_whyNot) := goodIn_app (goodIn_of _ (by decide +kernel)) ggX5_when_X5_whyNot
set_option maxRecDepth 100000 in
set_option maxHeartbeats 4000000 in
theorem ggX5_when_X5_putAside : GoodIn wsX5_when wsX5_putAside := goodIn_r _ [17, 18, 19, 20, 21, 22, 23, 3, 24, 83, 84, 85, 86, 87, 88, 89, 90, 91, 92, 93, 94, 95, 96, 97, 98, 99, 100, 101, 102, 103, 104, 105, 106, 107, 108, 109, 110, 111, 112, 113, 114, 115, 116, 117, 118, 119, 120, 121, 122] rfl (by decide +kernel)
set_option maxRecDepth 20000 in
theorem gX5_when_X5_putAside : GoodIn wsX5_when (wsV RX5 266 RX5 yX5_putAside wsX5_putAside) := goodIn_app (goodIn_of _ (by decide +kernel)) ggX5_when_X5_putAside
set_option maxRecDepth 100000 in
set_option maxHeartbeats 4000000 in
theorem ggX5_when_X5_doTouch : GoodIn wsX5_when wsX5_doTouch := goodIn_r _ [28, 29, 18, 30, 31, 32, 3, 33, 34, 35, 36, 37, 38, 39, 40, 41, 42, 83, 84, 85, 86, 87, 88, 89, 90, 91, 92, 93, 94, 95, 96, 97, 98, 99, 100, 101, 102, 103, 104, 105, 106, 107, 108, 109, 110, 111, 112, 113, 114, 115, 116, 117, 118, 119, 120, 121, 122] rfl (by decide +kernel)
set_option maxRecDepth 20000 in
theorem gX5_when_X5_doTouch : GoodIn wsX5_when (wsV RX5 292 RX5 yX5_doTouch wsX5_doTouch) := goodIn_app (goodIn_of _ (by decide +kernel)) ggX5_when_X5_doTouch
set_option maxRecDepth 100000 in
set_option maxHeartbeats 4000000 in
theorem ggX5_when_X5_goNight : GoodIn wsX5_when wsX5_goNight := goodIn_r _ [46, 21, 47, 18, 13, 48, 49, 50, 3, 51, 52, 53, 54, 55, 56, 57, 38, 58, 59, 60, 61, 62, 63, 39, 40, 41, 42, 29, 64, 65, 66, 67, 68, 69, 70, 71, 72, 73, 74, 75, 76, 77, 78, 83, 84, 85, 86, 87, 88, 89, 90, 91, 92, 93, 94, 95, 96, 97, 98, 99, 100, 101, 102, 103, 104, 105, 106, 107, 108, 109, 110, 111, 112, 113, 114, 115, 116, 117, 118, 119, 120, 121, 122] rfl (by decide +kernel)
set_option maxRecDepth 20000 in
theorem gX5_when_X5_goNight : GoodIn wsX5_when (wsV RX5 259 RX5 yX5_goNight wsX5_goNight) := goodIn_app (goodIn_of _ (by decide +kernel)) ggX5_when_X5_goNight
set_option maxRecDepth 100000 in
set_option maxHeartbeats 4000000 in
theorem ggX5_when_X5_putBack : GoodIn wsX5_when wsX5_putBack := goodIn_r _ [82, 19, 18, 22, 23, 3, 24, 83, 84, 85, 86, 87, 88, 89, 90, 91, 92, 93, 94, 95, 96, 97, 98, 99, 100, 101, 102, 103, 104, 105, 106, 107, 108, 109, 110, 111, 112, 113, 114, 115, 116, 117, 118, 119, 120, 121, 122] rfl (by decide +kernel)
set_option maxRecDepth 20000 in
theorem gX5_when_X5_putBack : GoodIn wsX5_when (wsV RX5 269 RX5 yX5_putBack wsX5_putBack) := goodIn_app (goodIn_of _ (by decide +kernel)) ggX5_when_X5_putBack
set_option maxRecDepth 100000 in
set_option maxHeartbeats 4000000 in
theorem ggX5_areDays_X5_in : GoodIn wsX5_areDays wsX5_in := goodIn_r _ [4] rfl (by decide +kernel)
set_option maxRecDepth 20000 in
theorem gX5_areDays_X5_in : GoodIn wsX5_areDays (va_wsS RX5 81 yX5_in wsX5_in) := goodIn_app (goodIn_of _ (by decide +kernel)) ggX5_areDays_X5_in
set_option maxRecDepth 100000 in
set_option maxHeartbeats 4000000 in
theorem ggX5_often_X5_in : GoodIn wsX5_often wsX5_in := goodIn_r _ [4] rfl (by decide +kernel)
set_option maxRecDepth 20000 in
theorem gX5_often_X5_in : GoodIn wsX5_often (va_wsS RX5 81 yX5_in wsX5_in) := goodIn_app (goodIn_of _ (by decide +kernel)) ggX5_often_X5_in
set_option maxRecDepth 100000 in
set_option maxHeartbeats 4000000 in
theorem ggX5_often_X5_areDays : GoodIn wsX5_often wsX5_areDays := goodIn_r _ [7, 1, 2, 3, 4] rfl (by decide +kernel)
set_option maxRecDepth 20000 in
theorem gX5_often_X5_areDays : GoodIn wsX5_often (va_wsS RX5 295 yX5_areDays wsX5_areDays) := goodIn_app (goodIn_of _ (by decide +kernel)) ggX5_often_X5_areDays
set_option maxRecDepth 100000 in
set_option maxHeartbeats 4000000 in
theorem ggX5_often_X5_whyNot : GoodIn wsX5_often wsX5_whyNot := goodIn_r _ [11, 12, 13, 14, 3, 15, 16, 1, 2, 4, 86, 87, 88, 89, 90, 91, 92, 93, 94, 95, 96, 97, 98, 99, 100, 101, 102, 103, 104, 105, 106, 107, 108, 109, 110, 111, 112, 113, 114, 115, 116, 117, 118, 119, 120, 121, 122, 123, 124, 125] rfl (by decide +kernel)
set_option maxRecDepth 20000 in
theorem gX5_often_X5_whyNot : GoodIn wsX5_often (wsV RX5 288 RX5 yX5_whyNot wsX5_whyNot) := goodIn_app (goodIn_of _ (by decide +kernel)) ggX5_often_X5_whyNot
set_option maxRecDepth 100000 in
set_option maxHeartbeats 4000000 in
theorem ggX5_often_X5_putAside : GoodIn wsX5_often wsX5_putAside := goodIn_r _ [20, 21, 22, 23, 24, 25, 26, 3, 27, 86, 87, 88, 89, 90, 91, 92, 93, 94, 95, 96, 97, 98, 99, 100, 101, 102, 103, 104, 105, 106, 107, 108, 109, 110, 111, 112, 113, 114, 115, 116, 117, 118, 119, 120, 121, 122, 123, 124, 125] rfl (by decide +kernel)
set_option maxRecDepth 20000 in
theorem gX5_often_X5_putAside : GoodIn wsX5_often (wsV RX5 266 RX5 yX5_putAside wsX5_putAside) := goodIn_app (goodIn_of _ (by decide +kernel)) ggX5_often_X5_putAside
set_option maxRecDepth 100000 in
set_option maxHeartbeats 4000000 in
theorem ggX5_often_X5_doTouch : GoodIn wsX5_often wsX5_doTouch := goodIn_r _ [31, 32, 21, 33, 34, 35, 3, 36, 37, 38, 39, 40, 41, 42, 43, 44, 45, 86, 87, 88, 89, 90, 91, 92, 93, 94, 95, 96, 97, 98, 99, 100, 101, 102, 103, 104, 105, 106, 107, 108, 109, 110, 111, 112, 113, 114, 115, 116, 117, 118, 119, 120, 121, 122, 123, 124, 125] rfl (by decide +kernel)
set_option maxRecDepth 20000 in
theorem gX5_often_X5_doTouch : GoodIn wsX5_often (wsV RX5 292 RX5 yX5_doTouch wsX5_doTouch) := goodIn_app (goodIn_of _ (by decide +kernel)) ggX5_often_X5_doTouch
set_option maxRecDepth 100000 in
set_option maxHeartbeats 4000000 in
theorem ggX5_often_X5_goNight : GoodIn wsX5_often wsX5_goNight := goodIn_r _ [49, 24, 50, 21, 16, 51, 52, 53, 3, 54, 55, 56, 57, 58, 59, 60, 41, 61, 62, 63, 64, 65, 66, 42, 43, 44, 45, 32, 67, 68, 69, 70, 71, 72, 73, 74, 75, 76, 77, 78, 79, 80, 81, 86, 87, 88, 89, 90, 91, 92, 93, 94, 95, 96, 97, 98, 99, 100, 101, 102, 103, 104, 105, 106, 107, 108, 109, 110, 111, 112, 113, 114, 115, 116, 117, 118, 119, 120, 121, 122, 123, 124, 125] rfl (by decide +kernel)
set_option maxRecDepth 20000 in
theorem gX5_often_X5_goNight : GoodIn wsX5_often (wsV RX5 259 RX5 yX5_goNight wsX5_goNight) := goodIn_app (goodIn_of _ (by decide +kernel)) ggX5_often_X5_goNight
set_option maxRecDepth 100000 in
set_option maxHeartbeats 4000000 in
theorem ggX5_often_X5_putBack : GoodIn wsX5_often wsX5_putBack := goodIn_r _ [85, 22, 21, 25, 26, 3, 27, 86, 87, 88, 89, 90, 91, 92, 93, 94, 95, 96, 97, 98, 99, 100, 101, 102, 103, 104, 105, 106, 107, 108, 109, 110, 111, 112, 113, 114, 115, 116, 117, 118, 119, 120, 121, 122, 123, 124, 125] rfl (by decide +kernel)
set_option maxRecDepth 20000 in
theorem gX5_often_X5_putBack : GoodIn wsX5_often (wsV RX5 269 RX5 yX5_putBack wsX5_putBack) := goodIn_app (goodIn_of _ (by decide +kernel)) ggX5_often_X5_putBack
set_option maxRecDepth 100000 in
set_option maxHeartbeats 4000000 in
theorem ggX5_brings_X5_isHouse : GoodIn wsX5_brings wsX5_isHouse := goodIn_r _ [7, 8, 9, 10, 6, 11, 75, 76, 77, 78, 79, 80, 81, 82, 83, 84, 85, 86, 87, 88, 89, 90, 91, 92, 93, 94, 95, 96, 97, 98, 99, 100, 101, 102, 103, 104, 105, 106, 107, 108, 109, 110, 111, 112, 113, 114] rfl (by decide +kernel)
set_option maxRecDepth 20000 in
theorem gX5_brings_X5_isHouse : GoodIn wsX5_brings (wsV RX5 239 RX5 yX5_isHouse wsX5_isHouse) := goodIn_app (goodIn_of _ (by decide +kernel)) ggX5_brings_X5_isHouse
set_option maxRecDepth 100000 in
set_option maxHeartbeats 4000000 in
theorem ggX5_brings_X5_areDays : GoodIn wsX5_brings wsX5_areDays := goodIn_r _ [14, 9, 10, 6, 11] rfl (by decide +kernel)
set_option maxRecDepth 20000 in
theorem gX5_brings_X5_areDays : GoodIn wsX5_brings (va_wsS RX5 295 yX5_areDays wsX5_areDays) := goodIn_app (goodIn_of _ (by decide +kernel)) ggX5_brings_X5_areDays
set_option maxRecDepth 100000 in
set_option maxHeartbeats 4000000 in
theorem ggX5_brings_X5_putAside : GoodIn wsX5_brings wsX5_putAside := goodIn_r _ [18, 19, 20, 21, 22, 23, 24, 6, 25, 75, 76, 77, 78, 79, 80, 81, 82, 83, 84, 85, 86, 87, 88, 89, 90, 91, 92, 93, 94, 95, 96, 97, 98, 99, 100, 101, 102, 103, 104, 105, 106, 107, 108, 109, 110, 111, 112, 113, 114] rfl (by decide +kernel)
set_option maxRecDepth 20000 in
theorem gX5_brings_X5_putAside : GoodIn wsX5_brings (wsV RX5 266 RX5 yX5_putAside wsX5_putAside) := goodIn_app (goodIn_of _ (by decide +kernel)) ggX5_brings_X5_putAside
set_option maxRecDepth 100000 in
set_option maxHeartbeats 4000000 in
theorem ggX5_brings_X5_standsOn : GoodIn wsX5_brings wsX5_standsOn := goodIn_r _ [29, 19, 30, 31, 32, 33, 6, 34, 1, 75, 76, 77, 78, 79, 80, 81, 82, 83, 84, 85, 86, 87, 88, 89, 90, 91, 92, 93, 94, 95, 96, 97, 98, 99, 100, 101, 102, 103, 104, 105, 106, 107, 108, 109, 110, 111, 112, 113, 114] rfl (by decide +kernel)
set_option maxRecDepth 20000 in
theorem gX5_brings_X5_standsOn : GoodIn wsX5_brings (wsV RX5 222 RX5 yX5_standsOn wsX5_standsOn) := goodIn_app (goodIn_of _ (by decide +kernel)) ggX5_brings_X5_standsOn
set_option maxRecDepth 100000 in
set_option maxHeartbeats 4000000 in
theorem ggX5_brings_X5_goNight : GoodIn wsX5_brings wsX5_goNight := goodIn_r _ [38, 22, 39, 19, 8, 40, 41, 42, 6, 43, 44, 45, 46, 47, 48, 49, 30, 50, 51, 52, 53, 54, 55, 31, 32, 33, 34, 1, 56, 57, 58, 59, 60, 61, 62, 63, 64, 65, 66, 67, 68, 69, 70, 75, 76, 77, 78, 79, 80, 81, 82, 83, 84, 85, 86, 87, 88, 89, 90, 91, 92, 93, 94, 95, 96, 97, 98, 99, 100, 101, 102, 103, 104, 105, 106, 107, 108, 109, 110, 111, 112, 113, 114] rfl (by decide +kernel)
set_option maxRecDepth 20000 in
theorem gX5_brings_X5_goNight : GoodIn wsX5_brings (wsV RX5 259 RX5 yX5_goNight wsX5_goNight) := goodIn_app (goodIn_of _ (by decide +kernel)) ggX5_brings_X5_goNight
set_option maxRecDepth 100000 in
set_option maxHeartbeats 4000000 in
theorem ggX5_brings_X5_putBack : GoodIn wsX5_brings wsX5_putBack := goodIn_r _ [74, 20, 19, 23, 24, 6, 25, 75, 76, 77, 78, 79, 80, 81, 82, 83, 84, 85, 86, 87, 88, 89, 90, 91, 92, 93, 94, 95, 96, 97, 98, 99, 100, 101, 102, 103, 104, 105, 106, 107, 108, 109, 110, 111, 112, 113, 114] rfl (by decide +kernel)
set_option maxRecDepth 20000 in
theorem gX5_brings_X5_putBack : GoodIn wsX5_brings (wsV RX5 269 RX5 yX5_putBack wsX5_putBack) := goodIn_app (goodIn_of _ (by decide +kernel)) ggX5_brings_X5_putBack
