set_option maxRecDepth 100000 in
set_option maxHeartbeats 4000000 in
theorem mL_X4_init_h : ∀ w ∈ ([.code yX4_init cX4_init 2 none] : List Cond), w ∈ wsL_law := mem_c _ [(0, 9)] rfl
set_option maxRecDepth 100000 in
set_option maxHeartbeats 4000000 in
theorem mL_X4_init_0 : ∀ w ∈ wsX4_init_r1, w ∈ wsL_law := mem_c _ [(0, 10), (0, 11), (0, 12), (0, 13), (0, 14), (0, 15), (0, 16), (0, 17), (0, 18), (0, 19), (0, 20), (0, 21), (0, 22), (0, 23), (1, 0), (1, 1), (1, 2), (1, 3), (1, 4), (1, 5), (1, 6), (1, 7), (1, 8), (1, 9)] rfl
set_option maxRecDepth 100000 in
set_option maxHeartbeats 4000000 in
theorem mL_X4_init_1 : ∀ w ∈ wsX4_init_r2, w ∈ wsL_law := mem_c _ [(1, 10), (1, 11), (1, 12), (1, 13), (1, 14), (1, 15), (1, 16), (1, 17), (1, 18), (1, 19), (1, 20), (1, 21), (1, 22), (1, 23), (2, 0), (2, 1), (2, 2), (2, 3), (2, 4), (2, 5), (2, 6), (2, 7), (2, 8), (2, 9)] rfl
set_option maxRecDepth 100000 in
set_option maxHeartbeats 4000000 in
theorem mL_X4_init_2 : ∀ w ∈ wsX4_init_r3, w ∈ wsL_law := mem_c _ [(2, 10), (2, 11), (2, 12), (2, 13), (2, 14), (2, 15), (2, 16), (2, 17), (2, 18), (2, 19), (2, 20), (2, 21), (2, 22), (2, 23), (3, 0), (3, 1), (3, 2), (3, 3), (3, 4), (3, 5), (3, 6), (3, 7), (3, 8), (3, 9)] rfl
set_option maxRecDepth 100000 in
set_option maxHeartbeats 4000000 in
theorem mL_X4_init_3 : ∀ w ∈ wsX4_init_r4, w ∈ wsL_law := mem_c _ [(3, 10), (3, 11), (3, 12), (3, 13), (3, 14), (3, 15), (3, 16), (3, 17), (3, 18), (3, 19), (3, 20), (3, 21), (3, 22), (3, 23), (4, 0), (4, 1), (4, 2), (4, 3), (4, 4), (4, 5), (4, 6), (4, 7), (4, 8), (4, 9)] rfl
set_option maxRecDepth 100000 in
set_option maxHeartbeats 4000000 in
theorem mL_X4_init_4 : ∀ w ∈ wsX4_init_r5, w ∈ wsL_law := mem_c _ [(4, 10), (4, 11)] rfl
set_option maxRecDepth 100000 in
set_option maxHeartbeats 4000000 in
theorem ggL_law_X4_init : GoodIn wsL_law wsX4_init := goodIn_sub (fun w hw => by
  unfold wsX4_init at hw
  rcases List.mem_cons.mp hw with hw | hw
  · exact mL_X4_init_h w (List.mem_singleton.mpr hw)
  · repeat' first | exact mL_X4_init_h w (List.mem_singleton.mpr hw) | exact mL_X4_init_0 w hw | exact mL_X4_init_1 w hw | exact mL_X4_init_2 w hw | exact mL_X4_init_3 w hw | exact mL_X4_init_4 w hw | exact lwC_in _ (List.mem_of_getElem? (i := 40) rfl) w hw | exact lwC_in _ (List.mem_of_getElem? (i := 38) rfl) w hw | exact lwC_in _ (List.mem_of_getElem? (i := 41) rfl) w hw | exact lwC_in _ (List.mem_of_getElem? (i := 42) rfl) w hw | exact lwC_in _ (List.mem_of_getElem? (i := 43) rfl) w hw | exact absurd hw List.not_mem_nil | (rcases List.mem_append.mp hw with hw | hw)) (by decide +kernel)
set_option maxRecDepth 100000 in
set_option maxHeartbeats 4000000 in
theorem mL_X5_init_h : ∀ w ∈ ([.code yX5_init cX5_init 1 none] : List Cond), w ∈ wsL_law := mem_c _ [(4, 14)] rfl
set_option maxRecDepth 100000 in
set_option maxHeartbeats 4000000 in
theorem mL_X5_init_0 : ∀ w ∈ wsX5_init_r1, w ∈ wsL_law := mem_c _ [(4, 15), (0, 11), (0, 12), (4, 16), (1, 10), (4, 17), (4, 18), (4, 19), (4, 20), (4, 21), (4, 22), (4, 23), (5, 0), (5, 1), (5, 2), (5, 3), (1, 4), (5, 4), (5, 5), (5, 6), (5, 7), (5, 8), (5, 9), (5, 10)] rfl
set_option maxRecDepth 100000 in
set_option maxHeartbeats 4000000 in
theorem mL_X5_init_1 : ∀ w ∈ wsX5_init_r2, w ∈ wsL_law := mem_c _ [(5, 11), (5, 12), (5, 13), (5, 14), (0, 5), (5, 15), (5, 16), (5, 17), (5, 18), (5, 19), (5, 20), (5, 21), (5, 22), (5, 23)] rfl
set_option maxRecDepth 100000 in
set_option maxHeartbeats 4000000 in
theorem ggL_law_X5_init : GoodIn wsL_law wsX5_init := goodIn_sub (fun w hw => by
  unfold wsX5_init at hw
  rcases List.mem_cons.mp hw with hw | hw
  · exact mL_X5_init_h w (List.mem_singleton.mpr hw)
  · repeat' first | exact mL_X5_init_h w (List.mem_singleton.mpr hw) | exact mL_X5_init_0 w hw | exact mL_X5_init_1 w hw | exact lwC_in _ (List.mem_of_getElem? (i := 39) rfl) w hw | exact absurd hw List.not_mem_nil | (rcases List.mem_append.mp hw with hw | hw)) (by decide +kernel)
set_option maxRecDepth 100000 in
set_option maxHeartbeats 4000000 in
theorem mL_X4_write_h : ∀ w ∈ ([.code yX4_write cX4_write 4 (some .int)] : List Cond), w ∈ wsL_law := mem_c _ [(6, 3)] rfl
set_option maxRecDepth 100000 in
set_option maxHeartbeats 4000000 in
theorem mL_X4_write_0 : ∀ w ∈ ([.fieldLink RX4 22 "NightPlots" "text" "LNightPlots$Text;", .fieldLink RX4 76 "NightPlots$Text" "length" "I", .methodLink RX4 72 yX2_append, .instanceMethod yX2_append, .selects RX2 yX2_append yX2_append, .initialized RX2, .code yX2_append cX2_append 5 (some .boolean), .fieldLink RX2 15 "NightPlots$Text" "length" "I", .fieldLink RX2 9 "NightPlots$Text" "bytes" "[I", .constantLong RX2 19 (255)] : List Cond), w ∈ wsL_law := mem_c _ [(0, 21), (6, 4), (6, 5), (6, 6), (6, 7), (0, 20), (6, 8), (6, 9), (3, 2), (6, 10)] rfl
set_option maxRecDepth 100000 in
set_option maxHeartbeats 4000000 in
theorem ggL_law_X4_write : GoodIn wsL_law wsX4_write := goodIn_sub (fun w hw => by
  unfold wsX4_write at hw
  rcases List.mem_cons.mp hw with hw | hw
  · exact mL_X4_write_h w (List.mem_singleton.mpr hw)
  · repeat' first | exact mL_X4_write_h w (List.mem_singleton.mpr hw) | exact mL_X4_write_0 w hw | exact lwC_in _ (List.mem_of_getElem? (i := 38) rfl) w hw | exact lwC_in _ (List.mem_of_getElem? (i := 41) rfl) w hw | exact absurd hw List.not_mem_nil | (rcases List.mem_append.mp hw with hw | hw)) (by decide +kernel)
set_option maxRecDepth 100000 in
set_option maxHeartbeats 4000000 in
theorem mL_X5_write_h : ∀ w ∈ ([.code yX5_write cX5_write 5 (some .int)] : List Cond), w ∈ wsL_law := mem_c _ [(6, 14)] rfl
set_option maxRecDepth 100000 in
set_option maxHeartbeats 4000000 in
theorem mL_X5_write_0 : ∀ w ∈ ([.fieldLink RX5 94 "NightPlotsModel" "bytes" "I", .fieldLink RX5 32 "NightPlotsModel" "text" "[I", .constantLong RX5 97 (255), .methodLink RX5 81 yX5_in, .static yX5_in, .initialized RX5, .code yX5_in cX5_in 3 (some .boolean)] : List Cond), w ∈ wsL_law := mem_c _ [(6, 15), (4, 23), (6, 16), (6, 17), (6, 18), (0, 5), (6, 19)] rfl
set_option maxRecDepth 100000 in
set_option maxHeartbeats 4000000 in
theorem ggL_law_X5_write : GoodIn wsL_law wsX5_write := goodIn_sub (fun w hw => by
  unfold wsX5_write at hw
  rcases List.mem_cons.mp hw with hw | hw
  · exact mL_X5_write_h w (List.mem_singleton.mpr hw)
  · repeat' first | exact mL_X5_write_h w (List.mem_singleton.mpr hw) | exact mL_X5_write_0 w hw | exact lwC_in _ (List.mem_of_getElem? (i := 39) rfl) w hw | exact absurd hw List.not_mem_nil | (rcases List.mem_append.mp hw with hw | hw)) (by decide +kernel)
set_option maxRecDepth 100000 in
set_option maxHeartbeats 4000000 in
theorem mL_X4_erase_h : ∀ w ∈ ([.code yX4_erase cX4_erase 2 (some .int)] : List Cond), w ∈ wsL_law := mem_c _ [(6, 23)] rfl
set_option maxRecDepth 100000 in
set_option maxHeartbeats 4000000 in
theorem mL_X4_erase_0 : ∀ w ∈ ([.fieldLink RX4 22 "NightPlots" "text" "LNightPlots$Text;", .fieldLink RX4 76 "NightPlots$Text" "length" "I"] : List Cond), w ∈ wsL_law := mem_c _ [(0, 21), (6, 4)] rfl
set_option maxRecDepth 100000 in
set_option maxHeartbeats 4000000 in
theorem ggL_law_X4_erase : GoodIn wsL_law wsX4_erase := goodIn_sub (fun w hw => by
  unfold wsX4_erase at hw
  rcases List.mem_cons.mp hw with hw | hw
  · exact mL_X4_erase_h w (List.mem_singleton.mpr hw)
  · repeat' first | exact mL_X4_erase_h w (List.mem_singleton.mpr hw) | exact mL_X4_erase_0 w hw | exact lwC_in _ (List.mem_of_getElem? (i := 38) rfl) w hw | exact lwC_in _ (List.mem_of_getElem? (i := 41) rfl) w hw | exact absurd hw List.not_mem_nil | (rcases List.mem_append.mp hw with hw | hw)) (by decide +kernel)
set_option maxRecDepth 100000 in
set_option maxHeartbeats 4000000 in
theorem mL_X5_erase_h : ∀ w ∈ ([.code yX5_erase cX5_erase 2 (some .int)] : List Cond), w ∈ wsL_law := mem_c _ [(7, 3)] rfl
set_option maxRecDepth 100000 in
set_option maxHeartbeats 4000000 in
theorem mL_X5_erase_0 : ∀ w ∈ ([.fieldLink RX5 94 "NightPlotsModel" "bytes" "I"] : List Cond), w ∈ wsL_law := mem_c _ [(6, 15)] rfl
set_option maxRecDepth 100000 in
set_option maxHeartbeats 4000000 in
theorem ggL_law_X5_erase : GoodIn wsL_law wsX5_erase := goodIn_sub (fun w hw => by
  unfold wsX5_erase at hw
  rcases List.mem_cons.mp hw with hw | hw
  · exact mL_X5_erase_h w (List.mem_singleton.mpr hw)
  · repeat' first | exact mL_X5_erase_h w (List.mem_singleton.mpr hw) | exact mL_X5_erase_0 w hw | exact lwC_in _ (List.mem_of_getElem? (i := 39) rfl) w hw | exact absurd hw List.not_mem_nil | (rcases List.mem_append.mp hw with hw | hw)) (by decide +kernel)
set_option maxRecDepth 100000 in
set_option maxHeartbeats 4000000 in
theorem mL_X4_fault_h : ∀ w ∈ ([.code yX4_fault cX4_fault 1 (some .int)] : List Cond), w ∈ wsL_law := mem_c _ [(7, 7)] rfl
set_option maxRecDepth 100000 in
set_option maxHeartbeats 4000000 in
theorem mL_X4_fault_0 : ∀ w ∈ wsX4_fault_r1, w ∈ wsL_law := mem_c _ [(0, 17), (0, 16), (0, 21), (7, 8), (7, 9), (7, 10), (0, 15), (7, 11), (2, 8), (2, 20), (2, 9), (2, 21), (2, 10), (2, 11), (2, 22), (1, 21), (7, 12), (3, 17), (3, 18), (3, 19), (1, 22), (1, 23), (2, 0), (2, 1)] rfl
set_option maxRecDepth 100000 in
set_option maxHeartbeats 4000000 in
theorem mL_X4_fault_1 : ∀ w ∈ wsX4_fault_r2, w ∈ wsL_law := mem_c _ [(2, 2), (2, 3), (7, 13), (7, 14), (7, 15), (0, 20), (7, 16), (7, 17), (7, 18), (7, 19), (6, 9), (3, 2), (7, 20), (7, 21), (7, 22), (7, 23), (8, 0), (8, 1), (8, 2), (8, 3), (8, 4), (8, 5), (8, 6), (8, 7)] rfl
set_option maxRecDepth 100000 in
set_option maxHeartbeats 4000000 in
theorem mL_X4_fault_2 : ∀ w ∈ wsX4_fault_r3, w ∈ wsL_law := mem_c _ [(8, 8), (8, 9), (8, 10), (8, 11), (8, 12), (8, 13), (8, 14), (8, 15), (8, 16), (8, 17), (8, 18), (8, 19), (8, 20), (8, 21), (8, 22), (8, 23), (9, 0), (9, 1), (9, 2), (9, 3), (9, 4), (9, 5), (9, 6), (9, 7)] rfl
set_option maxRecDepth 100000 in
set_option maxHeartbeats 4000000 in
theorem mL_X4_fault_3 : ∀ w ∈ wsX4_fault_r4, w ∈ wsL_law := mem_c _ [(9, 8), (9, 9), (9, 10), (9, 11), (9, 12), (9, 13), (9, 14), (9, 15), (9, 16), (9, 17), (9, 18), (9, 19), (9, 20), (9, 21), (9, 22), (9, 23), (10, 0), (10, 1), (10, 2), (10, 3), (10, 4), (10, 5), (10, 6), (10, 7)] rfl
set_option maxRecDepth 100000 in
set_option maxHeartbeats 4000000 in
theorem mL_X4_fault_4 : ∀ w ∈ wsX4_fault_r5, w ∈ wsL_law := mem_c _ [(10, 8), (10, 9), (10, 10), (10, 11), (10, 12), (10, 13), (10, 14), (10, 15), (10, 16), (10, 17), (10, 18), (10, 19), (10, 20), (2, 5), (2, 6), (2, 7), (2, 12), (2, 13), (2, 14), (2, 15), (2, 16), (2, 17), (2, 18), (2, 19)] rfl
set_option maxRecDepth 100000 in
set_option maxHeartbeats 4000000 in
theorem mL_X4_fault_5 : ∀ w ∈ wsX4_fault_r6, w ∈ wsL_law := mem_c _ [(10, 21), (10, 22), (10, 23), (11, 0), (11, 1), (11, 2), (11, 3), (11, 4), (11, 5), (11, 6), (11, 7), (11, 8), (11, 9), (11, 10), (11, 11), (11, 12), (11, 13), (11, 14), (11, 15), (11, 16), (11, 17), (11, 18), (11, 19), (11, 20)] rfl
set_option maxRecDepth 100000 in
set_option maxHeartbeats 4000000 in
theorem mL_X4_fault_6 : ∀ w ∈ wsX4_fault_r7, w ∈ wsL_law := mem_c _ [(11, 21), (11, 22), (11, 23), (12, 0), (12, 1), (12, 2), (12, 3), (12, 4), (12, 5), (12, 6), (12, 7), (12, 8), (12, 9), (12, 10), (12, 11), (12, 12), (12, 13), (12, 14), (12, 15), (12, 16), (12, 17), (12, 18), (12, 19), (12, 20)] rfl
set_option maxRecDepth 100000 in
set_option maxHeartbeats 4000000 in
theorem mL_X4_fault_7 : ∀ w ∈ wsX4_fault_r8, w ∈ wsL_law := mem_c _ [(12, 21), (12, 22), (12, 23), (13, 0), (13, 1), (13, 2), (13, 3), (13, 4), (13, 5), (13, 6), (13, 7), (13, 8), (13, 9), (13, 10), (13, 11), (13, 12)] rfl
set_option maxRecDepth 100000 in
set_option maxHeartbeats 4000000 in
theorem ggL_law_X4_fault : GoodIn wsL_law wsX4_fault := goodIn_sub (fun w hw => by
  unfold wsX4_fault at hw
  rcases List.mem_cons.mp hw with hw | hw
  · exact mL_X4_fault_h w (List.mem_singleton.mpr hw)
  · repeat' first | exact mL_X4_fault_h w (List.mem_singleton.mpr hw) | exact mL_X4_fault_0 w hw | exact mL_X4_fault_1 w hw | exact mL_X4_fault_2 w hw | exact mL_X4_fault_3 w hw | exact mL_X4_fault_4 w hw | exact mL_X4_fault_5 w hw | exact mL_X4_fault_6 w hw | exact mL_X4_fault_7 w hw | exact lwC_in _ (List.mem_of_getElem? (i := 38) rfl) w hw | exact lwC_in _ (List.mem_of_getElem? (i := 40) rfl) w hw | exact lwC_in _ (List.mem_of_getElem? (i := 41) rfl) w hw | exact absurd hw List.not_mem_nil | (rcases List.mem_append.mp hw with hw | hw)) (by decide +kernel)
set_option maxRecDepth 100000 in
set_option maxHeartbeats 4000000 in
theorem mL_X5_fault_h : ∀ w ∈ ([.code yX5_fault cX5_fault 1 (some .int)] : List Cond), w ∈ wsL_law := mem_c _ [(13, 16)] rfl
set_option maxRecDepth 100000 in
set_option maxHeartbeats 4000000 in
theorem mL_X5_fault_0 : ∀ w ∈ wsX5_fault_r1, w ∈ wsL_law := mem_c _ [(13, 17), (13, 18), (13, 19), (13, 20), (0, 5), (13, 21), (13, 22), (13, 23), (4, 16), (14, 0), (5, 16), (14, 1), (5, 17), (14, 2), (5, 18), (14, 3), (14, 4), (4, 19), (4, 18), (14, 5), (14, 6), (14, 7), (14, 8), (14, 9)] rfl
set_option maxRecDepth 100000 in
set_option maxHeartbeats 4000000 in
theorem mL_X5_fault_1 : ∀ w ∈ wsX5_fault_r2, w ∈ wsL_law := mem_c _ [(14, 10), (14, 11), (14, 12), (14, 13), (14, 14), (14, 15), (14, 16), (14, 17), (14, 18), (14, 19), (14, 20), (14, 21), (14, 22), (14, 23), (15, 0), (5, 0), (15, 1), (15, 2), (15, 3), (15, 4), (6, 15), (4, 23), (15, 5), (15, 6)] rfl
set_option maxRecDepth 100000 in
set_option maxHeartbeats 4000000 in
theorem mL_X5_fault_2 : ∀ w ∈ wsX5_fault_r3, w ∈ wsL_law := mem_c _ [(15, 7), (15, 8), (15, 9), (15, 10), (15, 11), (6, 17), (6, 18), (6, 19), (15, 12), (15, 13), (15, 14), (15, 15), (15, 16), (15, 17), (15, 18), (15, 19), (15, 20), (15, 21), (15, 22), (15, 23), (16, 0), (16, 1), (16, 2), (16, 3)] rfl
set_option maxRecDepth 100000 in
set_option maxHeartbeats 4000000 in
theorem mL_X5_fault_3 : ∀ w ∈ wsX5_fault_r4, w ∈ wsL_law := mem_c _ [(16, 4), (16, 5), (16, 6), (16, 7), (16, 8), (16, 9), (16, 10), (16, 11), (16, 12), (16, 13), (16, 14), (16, 15)] rfl
set_option maxRecDepth 100000 in
set_option maxHeartbeats 4000000 in
theorem ggL_law_X5_fault : GoodIn wsL_law wsX5_fault := goodIn_sub (fun w hw => by
  unfold wsX5_fault at hw
  rcases List.mem_cons.mp hw with hw | hw
  · exact mL_X5_fault_h w (List.mem_singleton.mpr hw)
  · repeat' first | exact mL_X5_fault_h w (List.mem_singleton.mpr hw) | exact mL_X5_fault_0 w hw | exact mL_X5_fault_1 w hw | exact mL_X5_fault_2 w hw | exact mL_X5_fault_3 w hw | exact lwC_in _ (List.mem_of_getElem? (i := 39) rfl) w hw | exact absurd hw List.not_mem_nil | (rcases List.mem_append.mp hw with hw | hw)) (by decide +kernel)
set_option maxRecDepth 100000 in
set_option maxHeartbeats 4000000 in
theorem mL_X4_green_h : ∀ w ∈ ([.code yX4_green cX4_green 2 (some .int)] : List Cond), w ∈ wsL_law := mem_c _ [(16, 19)] rfl
set_option maxRecDepth 100000 in
set_option maxHeartbeats 4000000 in
theorem mL_X4_green_0 : ∀ w ∈ wsX4_green_r1, w ∈ wsL_law := mem_c _ [(0, 17), (0, 16), (0, 21), (6, 4), (1, 1), (16, 20), (1, 5), (16, 21), (7, 8), (7, 9), (7, 10), (0, 15), (7, 11), (2, 8), (2, 20), (2, 9), (2, 21), (2, 10), (2, 11), (2, 22), (1, 21), (7, 12), (3, 17), (3, 18)] rfl
set_option maxRecDepth 100000 in
set_option maxHeartbeats 4000000 in
theorem mL_X4_green_1 : ∀ w ∈ wsX4_green_r2, w ∈ wsL_law := mem_c _ [(3, 19), (1, 22), (1, 23), (2, 0), (2, 1), (2, 2), (2, 3), (7, 13), (7, 14), (7, 15), (0, 20), (7, 16), (7, 17), (7, 18), (7, 19), (6, 9), (3, 2), (7, 20), (7, 21), (7, 22), (7, 23), (8, 0), (8, 1), (8, 2)] rfl
set_option maxRecDepth 100000 in
set_option maxHeartbeats 4000000 in
theorem mL_X4_green_2 : ∀ w ∈ wsX4_green_r3, w ∈ wsL_law := mem_c _ [(8, 3), (8, 4), (8, 5), (8, 6), (8, 7), (8, 8), (8, 9), (8, 10), (8, 11), (8, 12), (8, 13), (8, 14), (8, 15), (8, 16), (8, 17), (8, 18), (8, 19), (8, 20), (8, 21), (8, 22), (8, 23), (9, 0), (9, 1), (9, 2)] rfl
set_option maxRecDepth 100000 in
set_option maxHeartbeats 4000000 in
theorem mL_X4_green_3 : ∀ w ∈ wsX4_green_r4, w ∈ wsL_law := mem_c _ [(9, 3), (9, 4), (9, 5), (9, 6), (9, 7), (9, 8), (9, 9), (9, 10), (9, 11), (9, 12), (9, 13), (9, 14), (9, 15), (9, 16), (9, 17), (9, 18), (9, 19), (9, 20), (9, 21), (9, 22), (9, 23), (10, 0), (10, 1), (10, 2)] rfl
set_option maxRecDepth 100000 in
set_option maxHeartbeats 4000000 in
theorem mL_X4_green_4 : ∀ w ∈ wsX4_green_r5, w ∈ wsL_law := mem_c _ [(10, 3), (10, 4), (10, 5), (10, 6), (10, 7), (10, 8), (10, 9), (10, 10), (10, 11), (10, 12), (10, 13), (10, 14), (10, 15), (10, 16), (10, 17), (10, 18), (10, 19), (10, 20), (2, 5), (2, 6), (2, 7), (2, 12), (2, 13), (2, 14)] rfl
set_option maxRecDepth 100000 in
set_option maxHeartbeats 4000000 in
theorem mL_X4_green_5 : ∀ w ∈ wsX4_green_r6, w ∈ wsL_law := mem_c _ [(2, 15), (2, 16), (2, 17), (2, 18), (2, 19), (10, 21), (10, 22), (10, 23), (11, 0), (11, 1), (11, 2), (11, 3), (11, 4), (11, 5), (11, 6), (11, 7), (11, 8), (11, 9), (11, 10), (11, 11), (11, 12), (11, 13), (11, 14), (11, 15)] rfl
set_option maxRecDepth 100000 in
set_option maxHeartbeats 4000000 in
theorem mL_X4_green_6 : ∀ w ∈ wsX4_green_r7, w ∈ wsL_law := mem_c _ [(11, 16), (11, 17), (11, 18), (11, 19), (11, 20), (11, 21), (11, 22), (11, 23), (12, 0), (12, 1), (12, 2), (12, 3), (12, 4), (12, 5), (12, 6), (12, 7), (12, 8), (12, 9), (12, 10), (12, 11), (12, 12), (12, 13), (12, 14), (12, 15)] rfl
set_option maxRecDepth 100000 in
set_option maxHeartbeats 4000000 in
theorem mL_X4_green_7 : ∀ w ∈ wsX4_green_r8, w ∈ wsL_law := mem_c _ [(12, 16), (12, 17), (12, 18), (12, 19), (12, 20), (12, 21), (12, 22), (12, 23), (13, 0), (13, 1), (13, 2), (13, 3), (13, 4), (13, 5), (13, 6), (13, 7), (13, 8), (13, 9), (13, 10), (13, 11), (13, 12), (16, 22), (3, 12), (3, 13)] rfl
set_option maxRecDepth 100000 in
set_option maxHeartbeats 4000000 in
theorem mL_X4_green_8 : ∀ w ∈ wsX4_green_r9, w ∈ wsL_law := mem_c _ [(1, 0), (3, 14), (3, 10), (3, 15), (3, 7), (3, 16), (3, 8), (3, 20), (3, 21), (3, 22), (3, 23), (4, 0), (4, 1), (4, 2), (4, 3)] rfl
set_option maxRecDepth 100000 in
set_option maxHeartbeats 4000000 in
theorem ggL_law_X4_green : GoodIn wsL_law wsX4_green := goodIn_sub (fun w hw => by
  unfold wsX4_green at hw
  rcases List.mem_cons.mp hw with hw | hw
  · exact mL_X4_green_h w (List.mem_singleton.mpr hw)
  · repeat' first | exact mL_X4_green_h w (List.mem_singleton.mpr hw) | exact mL_X4_green_0 w hw | exact mL_X4_green_1 w hw | exact mL_X4_green_2 w hw | exact mL_X4_green_3 w hw | exact mL_X4_green_4 w hw | exact mL_X4_green_5 w hw | exact mL_X4_green_6 w hw | exact mL_X4_green_7 w hw | exact mL_X4_green_8 w hw | exact lwC_in _ (List.mem_of_getElem? (i := 38) rfl) w hw | exact lwC_in _ (List.mem_of_getElem? (i := 41) rfl) w hw | exact lwC_in _ (List.mem_of_getElem? (i := 40) rfl) w hw | exact lwC_in _ (List.mem_of_getElem? (i := 42) rfl) w hw | exact absurd hw List.not_mem_nil | (rcases List.mem_append.mp hw with hw | hw)) (by decide +kernel)
set_option maxRecDepth 100000 in
set_option maxHeartbeats 4000000 in
theorem mL_X5_green_h : ∀ w ∈ ([.code yX5_green cX5_green 2 (some .int)] : List Cond), w ∈ wsL_law := mem_c _ [(17, 2)] rfl
set_option maxRecDepth 100000 in
set_option maxHeartbeats 4000000 in
theorem mL_X5_green_0 : ∀ w ∈ wsX5_green_r1, w ∈ wsL_law := mem_c _ [(13, 23), (6, 15), (17, 3), (5, 4), (13, 18), (13, 19), (13, 20), (0, 5), (13, 21), (13, 22), (4, 16), (14, 0), (5, 16), (14, 1), (5, 17), (14, 2), (5, 18), (14, 3), (14, 4), (4, 19), (4, 18), (14, 5), (14, 6), (14, 7)] rfl
set_option maxRecDepth 100000 in
set_option maxHeartbeats 4000000 in
theorem mL_X5_green_1 : ∀ w ∈ wsX5_green_r2, w ∈ wsL_law := mem_c _ [(14, 8), (14, 9), (14, 10), (14, 11), (14, 12), (14, 13), (14, 14), (14, 15), (14, 16), (14, 17), (14, 18), (14, 19), (14, 20), (14, 21), (14, 22), (14, 23), (15, 0), (5, 0), (15, 1), (15, 2), (15, 3), (15, 4), (4, 23), (15, 5)] rfl
set_option maxRecDepth 100000 in
set_option maxHeartbeats 4000000 in
theorem mL_X5_green_2 : ∀ w ∈ wsX5_green_r3, w ∈ wsL_law := mem_c _ [(15, 6), (15, 7), (15, 8), (15, 9), (15, 10), (15, 11), (6, 17), (6, 18), (6, 19), (15, 12), (15, 13), (15, 14), (15, 15), (15, 16), (15, 17), (15, 18), (15, 19), (15, 20), (15, 21), (15, 22), (15, 23), (13, 17), (16, 0), (16, 1)] rfl
set_option maxRecDepth 100000 in
set_option maxHeartbeats 4000000 in
theorem mL_X5_green_3 : ∀ w ∈ wsX5_green_r4, w ∈ wsL_law := mem_c _ [(16, 2), (16, 3), (16, 4), (16, 5), (16, 6), (16, 7), (16, 8), (16, 9), (16, 10), (16, 11), (16, 12), (16, 13), (16, 14), (16, 15), (17, 4), (17, 5), (17, 6), (17, 7), (4, 17), (4, 20), (4, 21), (5, 19), (4, 22), (5, 12)] rfl
set_option maxRecDepth 100000 in
set_option maxHeartbeats 4000000 in
theorem mL_X5_green_4 : ∀ w ∈ wsX5_green_r5, w ∈ wsL_law := mem_c _ [(5, 13), (5, 14), (5, 15), (5, 20), (5, 21), (5, 22), (5, 23), (5, 1)] rfl
set_option maxRecDepth 100000 in
set_option maxHeartbeats 4000000 in
theorem ggL_law_X5_green : GoodIn wsL_law wsX5_green := goodIn_sub (fun w hw => by
  unfold wsX5_green at hw
  rcases List.mem_cons.mp hw with hw | hw
  · exact mL_X5_green_h w (List.mem_singleton.mpr hw)
  · repeat' first | exact mL_X5_green_h w (List.mem_singleton.mpr hw) | exact mL_X5_green_0 w hw | exact mL_X5_green_1 w hw | exact mL_X5_green_2 w hw | exact mL_X5_green_3 w hw | exact mL_X5_green_4 w hw | exact lwC_in _ (List.mem_of_getElem? (i := 39) rfl) w hw | exact absurd hw List.not_mem_nil | (rcases List.mem_append.mp hw with hw | hw)) (by decide +kernel)
set_option maxRecDepth 100000 in
set_option maxHeartbeats 4000000 in
theorem mL_X4_plot_h : ∀ w ∈ ([.code yX4_plot cX4_plot 3 (some .int)] : List Cond), w ∈ wsL_law := mem_c _ [(17, 11)] rfl
set_option maxRecDepth 100000 in
set_option maxHeartbeats 4000000 in
theorem mL_X4_plot_0 : ∀ w ∈ wsX4_plot_r1, w ∈ wsL_law := mem_c _ [(1, 1), (0, 16), (17, 12), (17, 13), (17, 14), (17, 15), (0, 2), (17, 16), (17, 17), (17, 18), (17, 19), (17, 20), (1, 0), (17, 21), (3, 10), (17, 22), (17, 23), (18, 0), (18, 1), (18, 2), (18, 3), (3, 7), (18, 4), (11, 17)] rfl
set_option maxRecDepth 100000 in
set_option maxHeartbeats 4000000 in
theorem mL_X4_plot_1 : ∀ w ∈ wsX4_plot_r2, w ∈ wsL_law := mem_c _ [(11, 18), (0, 15), (11, 19), (11, 20), (11, 21), (11, 22), (11, 23), (2, 8)] rfl
set_option maxRecDepth 100000 in
set_option maxHeartbeats 4000000 in
theorem ggL_law_X4_plot : GoodIn wsL_law wsX4_plot := goodIn_sub (fun w hw => by
  unfold wsX4_plot at hw
  rcases List.mem_cons.mp hw with hw | hw
  · exact mL_X4_plot_h w (List.mem_singleton.mpr hw)
  · repeat' first | exact mL_X4_plot_h w (List.mem_singleton.mpr hw) | exact mL_X4_plot_0 w hw | exact mL_X4_plot_1 w hw | exact lwC_in _ (List.mem_of_getElem? (i := 38) rfl) w hw | exact lwC_in _ (List.mem_of_getElem? (i := 40) rfl) w hw | exact lwC_in _ (List.mem_of_getElem? (i := 42) rfl) w hw | exact absurd hw List.not_mem_nil | (rcases List.mem_append.mp hw with hw | hw)) (by decide +kernel)
set_option maxRecDepth 100000 in
set_option maxHeartbeats 4000000 in
theorem mL_X5_plot_h : ∀ w ∈ ([.code yX5_plot cX5_plot 5 (some .int)] : List Cond), w ∈ wsL_law := mem_c _ [(18, 8)] rfl
set_option maxRecDepth 100000 in
set_option maxHeartbeats 4000000 in
theorem mL_X5_plot_0 : ∀ w ∈ ([.fieldLink RX5 78 "NightPlotsModel" "houses" "I", .fieldLink RX5 13 "NightPlotsModel" "crop" "[I", .methodLink RX5 219 yX5_isPlot, .instanceMethod yX5_isPlot, .selects RX5 yX5_isPlot yX5_isPlot, .initialized RX5, .code yX5_isPlot cX5_isPlot 2 (some .boolean), .fieldLink RX5 7 "NightPlotsModel" "plots" "I", .methodLink RX5 81 yX5_in, .static yX5_in, .code yX5_in cX5_in 3 (some .boolean), .methodLink RX5 222 yX5_standsOn, .instanceMethod yX5_standsOn, .selects RX5 yX5_standsOn yX5_standsOn, .code yX5_standsOn cX5_standsOn 3 (some .boolean), .fieldLink RX5 38 "NightPlotsModel" "now" "[I", .fieldLink RX5 17 "NightPlotsModel" "kind" "[I", .methodLink RX5 215 yX5_next, .instanceMethod yX5_next, .selects RX5 yX5_next yX5_next, .code yX5_next cX5_next 3 (some .int)] : List Cond), w ∈ wsL_law := mem_c _ [(5, 16), (4, 17), (18, 9), (18, 10), (18, 11), (0, 5), (18, 12), (4, 16), (6, 17), (6, 18), (6, 19), (18, 13), (18, 14), (18, 15), (18, 16), (5, 1), (4, 18), (18, 17), (18, 18), (18, 19), (18, 20)] rfl
set_option maxRecDepth 100000 in
set_option maxHeartbeats 4000000 in
theorem ggL_law_X5_plot : GoodIn wsL_law wsX5_plot := goodIn_sub (fun w hw => by
  unfold wsX5_plot at hw
  rcases List.mem_cons.mp hw with hw | hw
  · exact mL_X5_plot_h w (List.mem_singleton.mpr hw)
  · repeat' first | exact mL_X5_plot_h w (List.mem_singleton.mpr hw) | exact mL_X5_plot_0 w hw | exact lwC_in _ (List.mem_of_getElem? (i := 39) rfl) w hw | exact absurd hw List.not_mem_nil | (rcases List.mem_append.mp hw with hw | hw)) (by decide +kernel)
set_option maxRecDepth 100000 in
set_option maxHeartbeats 4000000 in
theorem mL_X4_house_h : ∀ w ∈ ([.code yX4_house cX4_house 3 (some .int)] : List Cond), w ∈ wsL_law := mem_c _ [(19, 0)] rfl
set_option maxRecDepth 100000 in
set_option maxHeartbeats 4000000 in
theorem mL_X4_house_0 : ∀ w ∈ ([.fieldLink RX4 12 "NightPlots" "told" "LNightPlots$Told;", .fieldLink RX4 110 "NightPlots$Told" "kind" "[I", .fieldLink RX4 31 "NightPlots" "now" "LNightPlots$Standing;", .fieldLink RX4 113 "NightPlots$Standing" "place" "[I", .fieldLink RX4 116 "NightPlots$Standing" "rolled" "[I", .fieldLink RX4 119 "NightPlots$Standing" "nights" "I", .methodLink RX4 107 yX4_isHouse, .instanceMethod yX4_isHouse, .selects RX4 yX4_isHouse yX4_isHouse, .initialized RX4, .code yX4_isHouse cX4_isHouse 2 (some .boolean), .fieldLink RX4 206 "NightPlots$Told" "houses" "I"] : List Cond), w ∈ wsL_law := mem_c _ [(0, 16), (19, 1), (1, 1), (19, 2), (19, 3), (19, 4), (19, 5), (19, 6), (19, 7), (0, 2), (19, 8), (19, 9)] rfl
set_option maxRecDepth 100000 in
set_option maxHeartbeats 4000000 in
theorem ggL_law_X4_house : GoodIn wsL_law wsX4_house := goodIn_sub (fun w hw => by
  unfold wsX4_house at hw
  rcases List.mem_cons.mp hw with hw | hw
  · exact mL_X4_house_h w (List.mem_singleton.mpr hw)
  · repeat' first | exact mL_X4_house_h w (List.mem_singleton.mpr hw) | exact mL_X4_house_0 w hw | exact lwC_in _ (List.mem_of_getElem? (i := 38) rfl) w hw | exact lwC_in _ (List.mem_of_getElem? (i := 40) rfl) w hw | exact lwC_in _ (List.mem_of_getElem? (i := 42) rfl) w hw | exact absurd hw List.not_mem_nil | (rcases List.mem_append.mp hw with hw | hw)) (by decide +kernel)
set_option maxRecDepth 100000 in
set_option maxHeartbeats 4000000 in
theorem mL_X5_house_h : ∀ w ∈ ([.code yX5_house cX5_house 3 (some .int)] : List Cond), w ∈ wsL_law := mem_c _ [(19, 13)] rfl
set_option maxRecDepth 100000 in
set_option maxHeartbeats 4000000 in
theorem mL_X5_house_0 : ∀ w ∈ ([.fieldLink RX5 17 "NightPlotsModel" "kind" "[I", .fieldLink RX5 38 "NightPlotsModel" "now" "[I", .methodLink RX5 239 yX5_isHouse, .instanceMethod yX5_isHouse, .selects RX5 yX5_isHouse yX5_isHouse, .initialized RX5, .code yX5_isHouse cX5_isHouse 2 (some .boolean), .fieldLink RX5 78 "NightPlotsModel" "houses" "I", .methodLink RX5 81 yX5_in, .static yX5_in, .code yX5_in cX5_in 3 (some .boolean)] : List Cond), w ∈ wsL_law := mem_c _ [(4, 18), (5, 1), (19, 14), (19, 15), (19, 16), (0, 5), (19, 17), (5, 16), (6, 17), (6, 18), (6, 19)] rfl
set_option maxRecDepth 100000 in
set_option maxHeartbeats 4000000 in
theorem ggL_law_X5_house : GoodIn wsL_law wsX5_house := goodIn_sub (fun w hw => by
  unfold wsX5_house at hw
  rcases List.mem_cons.mp hw with hw | hw
  · exact mL_X5_house_h w (List.mem_singleton.mpr hw)
  · repeat' first | exact mL_X5_house_h w (List.mem_singleton.mpr hw) | exact mL_X5_house_0 w hw | exact lwC_in _ (List.mem_of_getElem? (i := 39) rfl) w hw | exact absurd hw List.not_mem_nil | (rcases List.mem_append.mp hw with hw | hw)) (by decide +kernel)
set_option maxRecDepth 100000 in
set_option maxHeartbeats 4000000 in
theorem mL_X4_as_h : ∀ w ∈ ([.code yX4_as cX4_as 3 (some .int)] : List Cond), w ∈ wsL_law := mem_c _ [(19, 21)] rfl
set_option maxRecDepth 100000 in
set_option maxHeartbeats 4000000 in
theorem mL_X4_as_0 : ∀ w ∈ wsX4_as_r1, w ∈ wsL_law := mem_c _ [(0, 16), (19, 1), (1, 1), (1, 11), (19, 5), (19, 6), (19, 7), (0, 2), (19, 8), (19, 9), (19, 22), (19, 23), (20, 0), (20, 1), (20, 2), (20, 3), (1, 0), (20, 4), (3, 10), (18, 3), (4, 2), (3, 7), (20, 5), (11, 21)] rfl
set_option maxRecDepth 100000 in
set_option maxHeartbeats 4000000 in
theorem mL_X4_as_1 : ∀ w ∈ wsX4_as_r2, w ∈ wsL_law := mem_c _ [(11, 22), (0, 15), (11, 23), (2, 8), (20, 6), (20, 7), (20, 8), (20, 9), (20, 10), (20, 11), (20, 12), (20, 13), (3, 21), (20, 14), (20, 15), (20, 16), (20, 17), (20, 18), (20, 19), (20, 20), (20, 21), (20, 22), (2, 0), (2, 1)] rfl
set_option maxRecDepth 100000 in
set_option maxHeartbeats 4000000 in
theorem ggL_law_X4_as : GoodIn wsL_law wsX4_as := goodIn_sub (fun w hw => by
  unfold wsX4_as at hw
  rcases List.mem_cons.mp hw with hw | hw
  · exact mL_X4_as_h w (List.mem_singleton.mpr hw)
  · repeat' first | exact mL_X4_as_h w (List.mem_singleton.mpr hw) | exact mL_X4_as_0 w hw | exact mL_X4_as_1 w hw | exact lwC_in _ (List.mem_of_getElem? (i := 38) rfl) w hw | exact lwC_in _ (List.mem_of_getElem? (i := 40) rfl) w hw | exact lwC_in _ (List.mem_of_getElem? (i := 42) rfl) w hw | exact absurd hw List.not_mem_nil | (rcases List.mem_append.mp hw with hw | hw)) (by decide +kernel)
set_option maxRecDepth 100000 in
set_option maxHeartbeats 4000000 in
theorem mL_X5_as_h : ∀ w ∈ ([.code yX5_as cX5_as 4 (some .int)] : List Cond), w ∈ wsL_law := mem_c _ [(21, 2)] rfl
set_option maxRecDepth 100000 in
set_option maxHeartbeats 4000000 in
theorem mL_X5_as_0 : ∀ w ∈ wsX5_as_r1, w ∈ wsL_law := mem_c _ [(4, 18), (21, 3), (19, 14), (19, 15), (19, 16), (0, 5), (19, 17), (5, 16), (6, 17), (6, 18), (6, 19), (21, 4), (21, 5), (21, 6), (21, 7), (5, 1), (5, 17), (4, 20), (21, 8), (21, 9), (21, 10), (21, 11), (18, 17), (18, 18)] rfl
set_option maxRecDepth 100000 in
set_option maxHeartbeats 4000000 in
theorem mL_X5_as_1 : ∀ w ∈ wsX5_as_r2, w ∈ wsL_law := mem_c _ [(18, 19), (18, 20), (4, 16), (21, 12), (21, 13), (21, 14), (21, 15), (21, 16), (21, 17), (21, 18), (5, 6)] rfl
set_option maxRecDepth 100000 in
set_option maxHeartbeats 4000000 in
theorem ggL_law_X5_as : GoodIn wsL_law wsX5_as := goodIn_sub (fun w hw => by
  unfold wsX5_as at hw
  rcases List.mem_cons.mp hw with hw | hw
  · exact mL_X5_as_h w (List.mem_singleton.mpr hw)
  · repeat' first | exact mL_X5_as_h w (List.mem_singleton.mpr hw) | exact mL_X5_as_0 w hw | exact mL_X5_as_1 w hw | exact lwC_in _ (List.mem_of_getElem? (i := 39) rfl) w hw | exact absurd hw List.not_mem_nil | (rcases List.mem_append.mp hw with hw | hw)) (by decide +kernel)
set_option maxRecDepth 100000 in
set_option maxHeartbeats 4000000 in
theorem mL_X4_can_h : ∀ w ∈ ([.code yX4_can cX4_can 4 (some .int)] : List Cond), w ∈ wsL_law := mem_c _ [(21, 22)] rfl
set_option maxRecDepth 100000 in
set_option maxHeartbeats 4000000 in
theorem mL_X4_can_0 : ∀ w ∈ wsX4_can_r1, w ∈ wsL_law := mem_c _ [(1, 1), (1, 11), (19, 5), (19, 6), (19, 7), (0, 2), (19, 8), (0, 16), (19, 9), (20, 1), (20, 2), (20, 3), (1, 0), (20, 4), (3, 10), (18, 3), (4, 2), (3, 7), (20, 5), (11, 21), (11, 22), (0, 15), (11, 23), (2, 8)] rfl
set_option maxRecDepth 100000 in
set_option maxHeartbeats 4000000 in
theorem mL_X4_can_1 : ∀ w ∈ wsX4_can_r2, w ∈ wsL_law := mem_c _ [(20, 6), (20, 7), (20, 8), (20, 9), (20, 10), (20, 11), (20, 12), (20, 13), (3, 21), (20, 14), (20, 15), (20, 16), (20, 17), (20, 18), (20, 19), (20, 20), (20, 21), (20, 22), (2, 0), (2, 1)] rfl
set_option maxRecDepth 100000 in
set_option maxHeartbeats 4000000 in
theorem ggL_law_X4_can : GoodIn wsL_law wsX4_can := goodIn_sub (fun w hw => by
  unfold wsX4_can at hw
  rcases List.mem_cons.mp hw with hw | hw
  · exact mL_X4_can_h w (List.mem_singleton.mpr hw)
  · repeat' first | exact mL_X4_can_h w (List.mem_singleton.mpr hw) | exact mL_X4_can_0 w hw | exact mL_X4_can_1 w hw | exact lwC_in _ (List.mem_of_getElem? (i := 38) rfl) w hw | exact lwC_in _ (List.mem_of_getElem? (i := 40) rfl) w hw | exact lwC_in _ (List.mem_of_getElem? (i := 42) rfl) w hw | exact absurd hw List.not_mem_nil | (rcases List.mem_append.mp hw with hw | hw)) (by decide +kernel)
set_option maxRecDepth 100000 in
set_option maxHeartbeats 4000000 in
theorem mL_X5_can_h : ∀ w ∈ ([.code yX5_can cX5_can 3 (some .int)] : List Cond), w ∈ wsL_law := mem_c _ [(22, 2)] rfl
set_option maxRecDepth 100000 in
set_option maxHeartbeats 4000000 in
theorem mL_X5_can_0 : ∀ w ∈ wsX5_can_r1, w ∈ wsL_law := mem_c _ [(21, 3), (5, 6), (19, 14), (19, 15), (19, 16), (0, 5), (19, 17), (5, 16), (6, 17), (6, 18), (6, 19), (21, 4), (21, 5), (21, 6), (21, 7), (4, 18), (5, 1), (5, 17), (4, 20), (21, 8), (21, 9), (21, 10), (21, 11), (18, 17)] rfl
set_option maxRecDepth 100000 in
set_option maxHeartbeats 4000000 in
theorem mL_X5_can_1 : ∀ w ∈ wsX5_can_r2, w ∈ wsL_law := mem_c _ [(18, 18), (18, 19), (18, 20), (4, 16), (21, 12), (21, 13), (21, 14), (21, 15), (21, 16), (21, 17), (21, 18)] rfl
set_option maxRecDepth 100000 in
set_option maxHeartbeats 4000000 in
theorem ggL_law_X5_can : GoodIn wsL_law wsX5_can := goodIn_sub (fun w hw => by
  unfold wsX5_can at hw
  rcases List.mem_cons.mp hw with hw | hw
  · exact mL_X5_can_h w (List.mem_singleton.mpr hw)
  · repeat' first | exact mL_X5_can_h w (List.mem_singleton.mpr hw) | exact mL_X5_can_0 w hw | exact mL_X5_can_1 w hw | exact lwC_in _ (List.mem_of_getElem? (i := 39) rfl) w hw | exact absurd hw List.not_mem_nil | (rcases List.mem_append.mp hw with hw | hw)) (by decide +kernel)
set_option maxRecDepth 100000 in
set_option maxHeartbeats 4000000 in
theorem mL_X4_go_h : ∀ w ∈ ([.code yX4_go cX4_go 3 (some .int)] : List Cond), w ∈ wsL_law := mem_c _ [(22, 6)] rfl
set_option maxRecDepth 100000 in
set_option maxHeartbeats 4000000 in
theorem mL_X4_go_0 : ∀ w ∈ wsX4_go_r1, w ∈ wsL_law := mem_c _ [(1, 1), (19, 4), (0, 16), (22, 7), (22, 8), (22, 9), (22, 10), (1, 0), (22, 11), (3, 23), (3, 22), (22, 12), (22, 13), (22, 14), (22, 15), (3, 10), (17, 22), (3, 9), (22, 16), (20, 2), (20, 3), (20, 4), (18, 3), (4, 2)] rfl
set_option maxRecDepth 100000 in
set_option maxHeartbeats 4000000 in
theorem mL_X4_go_1 : ∀ w ∈ wsX4_go_r2, w ∈ wsL_law := mem_c _ [(3, 7), (20, 5), (11, 21), (11, 22), (0, 15), (11, 23), (2, 8), (20, 6), (20, 7), (20, 8), (20, 9), (20, 10), (20, 11), (20, 12), (20, 13), (3, 21), (20, 14), (20, 15), (20, 16), (20, 17), (20, 18), (20, 19), (20, 20), (20, 21)] rfl
set_option maxRecDepth 100000 in
set_option maxHeartbeats 4000000 in
theorem mL_X4_go_2 : ∀ w ∈ wsX4_go_r3, w ∈ wsL_law := mem_c _ [(20, 22), (2, 0), (2, 1), (22, 17), (22, 18), (22, 19), (22, 20), (3, 8), (22, 21), (22, 22), (22, 23), (23, 0), (4, 1), (23, 1), (23, 2), (23, 3), (23, 4), (23, 5), (23, 6), (23, 7), (23, 8), (23, 9), (18, 4), (11, 17)] rfl
set_option maxRecDepth 100000 in
set_option maxHeartbeats 4000000 in
theorem mL_X4_go_3 : ∀ w ∈ wsX4_go_r4, w ∈ wsL_law := mem_c _ [(11, 18), (11, 19), (11, 20)] rfl
set_option maxRecDepth 100000 in
set_option maxHeartbeats 4000000 in
theorem ggL_law_X4_go : GoodIn wsL_law wsX4_go := goodIn_sub (fun w hw => by
  unfold wsX4_go at hw
  rcases List.mem_cons.mp hw with hw | hw
  · exact mL_X4_go_h w (List.mem_singleton.mpr hw)
  · repeat' first | exact mL_X4_go_h w (List.mem_singleton.mpr hw) | exact mL_X4_go_0 w hw | exact mL_X4_go_1 w hw | exact mL_X4_go_2 w hw | exact mL_X4_go_3 w hw | exact lwC_in _ (List.mem_of_getElem? (i := 38) rfl) w hw | exact lwC_in _ (List.mem_of_getElem? (i := 42) rfl) w hw | exact lwC_in _ (List.mem_of_getElem? (i := 40) rfl) w hw | exact absurd hw List.not_mem_nil | (rcases List.mem_append.mp hw with hw | hw)) (by decide +kernel)
set_option maxRecDepth 100000 in
set_option maxHeartbeats 4000000 in
theorem mL_X5_go_h : ∀ w ∈ ([.code yX5_go cX5_go 3 (some .int)] : List Cond), w ∈ wsL_law := mem_c _ [(23, 13)] rfl
set_option maxRecDepth 100000 in
set_option maxHeartbeats 4000000 in
theorem mL_X5_go_0 : ∀ w ∈ wsX5_go_r1, w ∈ wsL_law := mem_c _ [(5, 1), (5, 19), (23, 14), (6, 17), (6, 18), (0, 5), (6, 19), (23, 15), (23, 16), (23, 17), (23, 18), (5, 6), (5, 16), (23, 19), (23, 20), (23, 21), (23, 22), (21, 3), (23, 23), (21, 4), (21, 5), (21, 6), (21, 7), (4, 18)] rfl
set_option maxRecDepth 100000 in
set_option maxHeartbeats 4000000 in
theorem mL_X5_go_1 : ∀ w ∈ wsX5_go_r2, w ∈ wsL_law := mem_c _ [(5, 17), (4, 20), (21, 8), (21, 9), (21, 10), (21, 11), (18, 17), (18, 18), (18, 19), (18, 20), (4, 16), (21, 12), (21, 13), (21, 14), (21, 15), (21, 16), (21, 17), (21, 18), (24, 0), (24, 1), (24, 2), (24, 3), (24, 4), (24, 5)] rfl
set_option maxRecDepth 100000 in
set_option maxHeartbeats 4000000 in
theorem mL_X5_go_2 : ∀ w ∈ wsX5_go_r3, w ∈ wsL_law := mem_c _ [(24, 6), (24, 7)] rfl
set_option maxRecDepth 100000 in
set_option maxHeartbeats 4000000 in
theorem ggL_law_X5_go : GoodIn wsL_law wsX5_go := goodIn_sub (fun w hw => by
  unfold wsX5_go at hw
  rcases List.mem_cons.mp hw with hw | hw
  · exact mL_X5_go_h w (List.mem_singleton.mpr hw)
  · repeat' first | exact mL_X5_go_h w (List.mem_singleton.mpr hw) | exact mL_X5_go_0 w hw | exact mL_X5_go_1 w hw | exact mL_X5_go_2 w hw | exact lwC_in _ (List.mem_of_getElem? (i := 39) rfl) w hw | exact absurd hw List.not_mem_nil | (rcases List.mem_append.mp hw with hw | hw)) (by decide +kernel)
set_option maxRecDepth 100000 in
set_option maxHeartbeats 4000000 in
theorem mL_X4_roll_h : ∀ w ∈ ([.code yX4_roll cX4_roll 3 (some .int)] : List Cond), w ∈ wsL_law := mem_c _ [(24, 11)] rfl
set_option maxRecDepth 100000 in
set_option maxHeartbeats 4000000 in
theorem mL_X4_roll_0 : ∀ w ∈ wsX4_roll_r1, w ∈ wsL_law := mem_c _ [(1, 1), (19, 4), (0, 16), (22, 7), (19, 5), (19, 6), (19, 7), (0, 2), (19, 8), (19, 9), (17, 13), (17, 14), (17, 15), (17, 16), (17, 17), (24, 12), (24, 13), (24, 14), (1, 0), (24, 15), (3, 9), (22, 16), (20, 2), (20, 3)] rfl
set_option maxRecDepth 100000 in
set_option maxHeartbeats 4000000 in
theorem mL_X4_roll_1 : ∀ w ∈ wsX4_roll_r2, w ∈ wsL_law := mem_c _ [(20, 4), (3, 10), (18, 3), (4, 2), (3, 7), (20, 5), (11, 21), (11, 22), (0, 15), (11, 23), (2, 8), (20, 6), (20, 7), (20, 8), (20, 9), (20, 10), (20, 11), (20, 12), (20, 13), (3, 21), (20, 14), (20, 15), (20, 16), (20, 17)] rfl
set_option maxRecDepth 100000 in
set_option maxHeartbeats 4000000 in
theorem mL_X4_roll_2 : ∀ w ∈ wsX4_roll_r3, w ∈ wsL_law := mem_c _ [(20, 18), (20, 19), (20, 20), (20, 21), (20, 22), (2, 0), (2, 1), (24, 16), (23, 3), (23, 4), (23, 5), (3, 22), (3, 8), (17, 22), (3, 23), (23, 6), (23, 7), (23, 8), (23, 9), (18, 4), (11, 17), (11, 18), (11, 19), (11, 20)] rfl
set_option maxRecDepth 100000 in
set_option maxHeartbeats 4000000 in
theorem ggL_law_X4_roll : GoodIn wsL_law wsX4_roll := goodIn_sub (fun w hw => by
  unfold wsX4_roll at hw
  rcases List.mem_cons.mp hw with hw | hw
  · exact mL_X4_roll_h w (List.mem_singleton.mpr hw)
  · repeat' first | exact mL_X4_roll_h w (List.mem_singleton.mpr hw) | exact mL_X4_roll_0 w hw | exact mL_X4_roll_1 w hw | exact mL_X4_roll_2 w hw | exact lwC_in _ (List.mem_of_getElem? (i := 38) rfl) w hw | exact lwC_in _ (List.mem_of_getElem? (i := 42) rfl) w hw | exact lwC_in _ (List.mem_of_getElem? (i := 40) rfl) w hw | exact absurd hw List.not_mem_nil | (rcases List.mem_append.mp hw with hw | hw)) (by decide +kernel)
set_option maxRecDepth 100000 in
set_option maxHeartbeats 4000000 in
theorem mL_X5_roll_h : ∀ w ∈ ([.code yX5_roll cX5_roll 5 (some .int)] : List Cond), w ∈ wsL_law := mem_c _ [(24, 20)] rfl
set_option maxRecDepth 100000 in
set_option maxHeartbeats 4000000 in
theorem mL_X5_roll_0 : ∀ w ∈ wsX5_roll_r1, w ∈ wsL_law := mem_c _ [(21, 3), (5, 6), (5, 1), (5, 19), (5, 16), (19, 14), (19, 15), (19, 16), (0, 5), (19, 17), (6, 17), (6, 18), (6, 19), (18, 9), (18, 10), (18, 11), (18, 12), (4, 16), (21, 4), (21, 5), (21, 6), (21, 7), (4, 18), (5, 17)] rfl
set_option maxRecDepth 100000 in
set_option maxHeartbeats 4000000 in
theorem mL_X5_roll_1 : ∀ w ∈ wsX5_roll_r2, w ∈ wsL_law := mem_c _ [(4, 20), (21, 8), (21, 9), (21, 10), (21, 11), (18, 17), (18, 18), (18, 19), (18, 20), (21, 12), (21, 13), (21, 14), (21, 15), (21, 16), (21, 17), (21, 18), (24, 0), (24, 1), (24, 2), (24, 3)] rfl
set_option maxRecDepth 100000 in
set_option maxHeartbeats 4000000 in
theorem ggL_law_X5_roll : GoodIn wsL_law wsX5_roll := goodIn_sub (fun w hw => by
  unfold wsX5_roll at hw
  rcases List.mem_cons.mp hw with hw | hw
  · exact mL_X5_roll_h w (List.mem_singleton.mpr hw)
  · repeat' first | exact mL_X5_roll_h w (List.mem_singleton.mpr hw) | exact mL_X5_roll_0 w hw | exact mL_X5_roll_1 w hw | exact lwC_in _ (List.mem_of_getElem? (i := 39) rfl) w hw | exact absurd hw List.not_mem_nil | (rcases List.mem_append.mp hw with hw | hw)) (by decide +kernel)
set_option maxRecDepth 100000 in
set_option maxHeartbeats 4000000 in
theorem mL_X4_keep_h : ∀ w ∈ ([.code yX4_keep cX4_keep 2 (some .int)] : List Cond), w ∈ wsL_law := mem_c _ [(25, 0)] rfl
set_option maxRecDepth 100000 in
set_option maxHeartbeats 4000000 in
theorem mL_X4_keep_0 : ∀ w ∈ ([.fieldLink RX4 38 "NightPlots" "kept" "[LNightPlots$Standing;", .fieldLink RX4 31 "NightPlots" "now" "LNightPlots$Standing;", .fieldLink RX4 42 "NightPlots" "isKept" "[Z", .fieldLink RX4 119 "NightPlots$Standing" "nights" "I", .methodLink RX4 144 yX1_copyFrom, .instanceMethod yX1_copyFrom, .selects RX1 yX1_copyFrom yX1_copyFrom, .initialized RX1, .code yX1_copyFrom cX1_copyFrom 2 none, .fieldLink RX1 9 "NightPlots$Standing" "place" "[I", .methodLink RX1 31 arraycopyName, .native arraycopyName, .static arraycopyName, .initialized "java/lang/System", .fieldLink RX1 15 "NightPlots$Standing" "rolled" "[I", .fieldLink RX1 47 "NightPlots$Standing" "taken" "I", .fieldLink RX1 48 "NightPlots$Standing" "nights" "I", .fieldLink RX1 51 "NightPlots$Standing" "turn" "I", .fieldLink RX1 57 "NightPlots$Standing" "x" "I", .fieldLink RX1 60 "NightPlots$Standing" "mended" "I"] : List Cond), w ∈ wsL_law := mem_c _ [(1, 3), (1, 1), (1, 5), (19, 4), (25, 1), (25, 2), (25, 3), (1, 0), (25, 4), (3, 7), (3, 16), (3, 17), (3, 18), (3, 19), (3, 8), (3, 21), (3, 22), (3, 23), (4, 1), (4, 2)] rfl
set_option maxRecDepth 100000 in
set_option maxHeartbeats 4000000 in
theorem ggL_law_X4_keep : GoodIn wsL_law wsX4_keep := goodIn_sub (fun w hw => by
  unfold wsX4_keep at hw
  rcases List.mem_cons.mp hw with hw | hw
  · exact mL_X4_keep_h w (List.mem_singleton.mpr hw)
  · repeat' first | exact mL_X4_keep_h w (List.mem_singleton.mpr hw) | exact mL_X4_keep_0 w hw | exact lwC_in _ (List.mem_of_getElem? (i := 38) rfl) w hw | exact lwC_in _ (List.mem_of_getElem? (i := 42) rfl) w hw | exact absurd hw List.not_mem_nil | (rcases List.mem_append.mp hw with hw | hw)) (by decide +kernel)
set_option maxRecDepth 100000 in
set_option maxHeartbeats 4000000 in
theorem mL_X5_keep_h : ∀ w ∈ ([.code yX5_keep cX5_keep 2 (some .int)] : List Cond), w ∈ wsL_law := mem_c _ [(25, 8)] rfl
set_option maxRecDepth 100000 in
set_option maxHeartbeats 4000000 in
theorem mL_X5_keep_0 : ∀ w ∈ ([.fieldLink RX5 38 "NightPlotsModel" "now" "[I", .fieldLink RX5 44 "NightPlotsModel" "image" "[I", .fieldLink RX5 47 "NightPlotsModel" "isKept" "[Z", .methodLink RX5 81 yX5_in, .static yX5_in, .initialized RX5, .code yX5_in cX5_in 3 (some .boolean), .methodLink RX5 262 yX5_copy, .static yX5_copy, .code yX5_copy cX5_copy 5 none] : List Cond), w ∈ wsL_law := mem_c _ [(5, 1), (5, 3), (5, 4), (6, 17), (6, 18), (0, 5), (6, 19), (25, 9), (25, 10), (25, 11)] rfl
set_option maxRecDepth 100000 in
set_option maxHeartbeats 4000000 in
theorem ggL_law_X5_keep : GoodIn wsL_law wsX5_keep := goodIn_sub (fun w hw => by
  unfold wsX5_keep at hw
  rcases List.mem_cons.mp hw with hw | hw
  · exact mL_X5_keep_h w (List.mem_singleton.mpr hw)
  · repeat' first | exact mL_X5_keep_h w (List.mem_singleton.mpr hw) | exact mL_X5_keep_0 w hw | exact lwC_in _ (List.mem_of_getElem? (i := 39) rfl) w hw | exact absurd hw List.not_mem_nil | (rcases List.mem_append.mp hw with hw | hw)) (by decide +kernel)
set_option maxRecDepth 100000 in
set_option maxHeartbeats 4000000 in
theorem mL_X4_back_h : ∀ w ∈ ([.code yX4_back cX4_back 2 (some .int)] : List Cond), w ∈ wsL_law := mem_c _ [(25, 15)] rfl
set_option maxRecDepth 100000 in
set_option maxHeartbeats 4000000 in
theorem mL_X4_back_0 : ∀ w ∈ ([.fieldLink RX4 42 "NightPlots" "isKept" "[Z", .fieldLink RX4 31 "NightPlots" "now" "LNightPlots$Standing;", .fieldLink RX4 38 "NightPlots" "kept" "[LNightPlots$Standing;", .fieldLink RX4 119 "NightPlots$Standing" "nights" "I", .methodLink RX4 144 yX1_copyFrom, .instanceMethod yX1_copyFrom, .selects RX1 yX1_copyFrom yX1_copyFrom, .initialized RX1, .code yX1_copyFrom cX1_copyFrom 2 none, .fieldLink RX1 9 "NightPlots$Standing" "place" "[I", .methodLink RX1 31 arraycopyName, .native arraycopyName, .static arraycopyName, .initialized "java/lang/System", .fieldLink RX1 15 "NightPlots$Standing" "rolled" "[I", .fieldLink RX1 47 "NightPlots$Standing" "taken" "I", .fieldLink RX1 48 "NightPlots$Standing" "nights" "I", .fieldLink RX1 51 "NightPlots$Standing" "turn" "I", .fieldLink RX1 57 "NightPlots$Standing" "x" "I", .fieldLink RX1 60 "NightPlots$Standing" "mended" "I"] : List Cond), w ∈ wsL_law := mem_c _ [(1, 5), (1, 1), (1, 3), (19, 4), (25, 1), (25, 2), (25, 3), (1, 0), (25, 4), (3, 7), (3, 16), (3, 17), (3, 18), (3, 19), (3, 8), (3, 21), (3, 22), (3, 23), (4, 1), (4, 2)] rfl
set_option maxRecDepth 100000 in
set_option maxHeartbeats 4000000 in
theorem ggL_law_X4_back : GoodIn wsL_law wsX4_back := goodIn_sub (fun w hw => by
  unfold wsX4_back at hw
  rcases List.mem_cons.mp hw with hw | hw
  · exact mL_X4_back_h w (List.mem_singleton.mpr hw)
  · repeat' first | exact mL_X4_back_h w (List.mem_singleton.mpr hw) | exact mL_X4_back_0 w hw | exact lwC_in _ (List.mem_of_getElem? (i := 38) rfl) w hw | exact lwC_in _ (List.mem_of_getElem? (i := 42) rfl) w hw | exact absurd hw List.not_mem_nil | (rcases List.mem_append.mp hw with hw | hw)) (by decide +kernel)
set_option maxRecDepth 100000 in
set_option maxHeartbeats 4000000 in
theorem mL_X5_back_h : ∀ w ∈ ([.code yX5_back cX5_back 2 (some .int)] : List Cond), w ∈ wsL_law := mem_c _ [(25, 19)] rfl
set_option maxRecDepth 100000 in
set_option maxHeartbeats 4000000 in
theorem mL_X5_back_0 : ∀ w ∈ ([.fieldLink RX5 47 "NightPlotsModel" "isKept" "[Z", .fieldLink RX5 44 "NightPlotsModel" "image" "[I", .fieldLink RX5 38 "NightPlotsModel" "now" "[I", .methodLink RX5 81 yX5_in, .static yX5_in, .initialized RX5, .code yX5_in cX5_in 3 (some .boolean), .methodLink RX5 262 yX5_copy, .static yX5_copy, .code yX5_copy cX5_copy 5 none] : List Cond), w ∈ wsL_law := mem_c _ [(5, 4), (5, 3), (5, 1), (6, 17), (6, 18), (0, 5), (6, 19), (25, 9), (25, 10), (25, 11)] rfl
set_option maxRecDepth 100000 in
set_option maxHeartbeats 4000000 in
theorem ggL_law_X5_back : GoodIn wsL_law wsX5_back := goodIn_sub (fun w hw => by
  unfold wsX5_back at hw
  rcases List.mem_cons.mp hw with hw | hw
  · exact mL_X5_back_h w (List.mem_singleton.mpr hw)
  · repeat' first | exact mL_X5_back_h w (List.mem_singleton.mpr hw) | exact mL_X5_back_0 w hw | exact lwC_in _ (List.mem_of_getElem? (i := 39) rfl) w hw | exact absurd hw List.not_mem_nil | (rcases List.mem_append.mp hw with hw | hw)) (by decide +kernel)
set_option maxRecDepth 100000 in
set_option maxHeartbeats 4000000 in
theorem mL_X4_later_h : ∀ w ∈ ([.code yX4_later cX4_later 4 (some .int)] : List Cond), w ∈ wsL_law := mem_c _ [(25, 23)] rfl
set_option maxRecDepth 100000 in
set_option maxHeartbeats 4000000 in
theorem mL_X4_later_0 : ∀ w ∈ wsX4_later_r1, w ∈ wsL_law := mem_c _ [(1, 2), (1, 1), (0, 16), (22, 7), (19, 2), (19, 5), (19, 6), (19, 7), (0, 2), (19, 8), (19, 9), (25, 1), (25, 2), (25, 3), (1, 0), (25, 4), (3, 7), (3, 16), (3, 17), (3, 18), (3, 19), (3, 8), (3, 21), (3, 22)] rfl
set_option maxRecDepth 100000 in
set_option maxHeartbeats 4000000 in
theorem mL_X4_later_1 : ∀ w ∈ wsX4_later_r2, w ∈ wsL_law := mem_c _ [(3, 23), (4, 1), (4, 2), (22, 8), (22, 9), (22, 10), (22, 11), (22, 12), (22, 13), (22, 14), (22, 15), (3, 10), (17, 22), (3, 9), (22, 16), (20, 2), (20, 3), (20, 4), (18, 3), (20, 5), (11, 21), (11, 22), (0, 15), (11, 23)] rfl
set_option maxRecDepth 100000 in
set_option maxHeartbeats 4000000 in
theorem mL_X4_later_2 : ∀ w ∈ wsX4_later_r3, w ∈ wsL_law := mem_c _ [(2, 8), (20, 6), (20, 7), (20, 8), (20, 9), (20, 10), (20, 11), (20, 12), (20, 13), (20, 14), (20, 15), (20, 16), (20, 17), (20, 18), (20, 19), (20, 20), (20, 21), (20, 22), (2, 0), (2, 1), (22, 17), (22, 18), (22, 19), (22, 20)] rfl
set_option maxRecDepth 100000 in
set_option maxHeartbeats 4000000 in
theorem mL_X4_later_3 : ∀ w ∈ wsX4_later_r4, w ∈ wsL_law := mem_c _ [(22, 21), (22, 22), (22, 23), (23, 0), (23, 1), (23, 2), (23, 3), (23, 4), (23, 5), (23, 6), (23, 7), (23, 8), (23, 9), (18, 4), (11, 17), (11, 18), (11, 19), (11, 20)] rfl
set_option maxRecDepth 100000 in
set_option maxHeartbeats 4000000 in
theorem ggL_law_X4_later : GoodIn wsL_law wsX4_later := goodIn_sub (fun w hw => by
  unfold wsX4_later at hw
  rcases List.mem_cons.mp hw with hw | hw
  · exact mL_X4_later_h w (List.mem_singleton.mpr hw)
  · repeat' first | exact mL_X4_later_h w (List.mem_singleton.mpr hw) | exact mL_X4_later_0 w hw | exact mL_X4_later_1 w hw | exact mL_X4_later_2 w hw | exact mL_X4_later_3 w hw | exact lwC_in _ (List.mem_of_getElem? (i := 38) rfl) w hw | exact lwC_in _ (List.mem_of_getElem? (i := 40) rfl) w hw | exact lwC_in _ (List.mem_of_getElem? (i := 42) rfl) w hw | exact absurd hw List.not_mem_nil | (rcases List.mem_append.mp hw with hw | hw)) (by decide +kernel)
set_option maxRecDepth 100000 in
set_option maxHeartbeats 4000000 in
theorem mL_X5_later_h : ∀ w ∈ ([.code yX5_later cX5_later 4 (some .int)] : List Cond), w ∈ wsL_law := mem_c _ [(26, 3)] rfl
set_option maxRecDepth 100000 in
set_option maxHeartbeats 4000000 in
theorem mL_X5_later_0 : ∀ w ∈ wsX5_later_r1, w ∈ wsL_law := mem_c _ [(5, 1), (19, 14), (19, 15), (19, 16), (0, 5), (19, 17), (5, 16), (6, 17), (6, 18), (6, 19), (26, 4), (26, 5), (26, 6), (26, 7), (5, 2), (5, 19), (23, 14), (25, 9), (25, 10), (25, 11), (23, 15), (23, 16), (23, 17), (23, 18)] rfl
set_option maxRecDepth 100000 in
set_option maxHeartbeats 4000000 in
theorem mL_X5_later_1 : ∀ w ∈ wsX5_later_r2, w ∈ wsL_law := mem_c _ [(5, 6), (23, 19), (23, 20), (23, 21), (23, 22), (21, 3), (23, 23), (21, 4), (21, 5), (21, 6), (21, 7), (4, 18), (5, 17), (4, 20), (21, 8), (21, 9), (21, 10), (21, 11), (18, 17), (18, 18), (18, 19), (18, 20), (4, 16), (21, 12)] rfl
set_option maxRecDepth 100000 in
set_option maxHeartbeats 4000000 in
theorem mL_X5_later_2 : ∀ w ∈ wsX5_later_r3, w ∈ wsL_law := mem_c _ [(21, 13), (21, 14), (21, 15), (21, 16), (21, 17), (21, 18), (24, 0), (24, 1), (24, 2), (24, 3), (24, 4), (24, 5), (24, 6), (24, 7), (26, 8), (26, 9), (26, 10), (26, 11)] rfl
set_option maxRecDepth 100000 in
set_option maxHeartbeats 4000000 in
theorem ggL_law_X5_later : GoodIn wsL_law wsX5_later := goodIn_sub (fun w hw => by
  unfold wsX5_later at hw
  rcases List.mem_cons.mp hw with hw | hw
  · exact mL_X5_later_h w (List.mem_singleton.mpr hw)
  · repeat' first | exact mL_X5_later_h w (List.mem_singleton.mpr hw) | exact mL_X5_later_0 w hw | exact mL_X5_later_1 w hw | exact mL_X5_later_2 w hw | exact lwC_in _ (List.mem_of_getElem? (i := 39) rfl) w hw | exact absurd hw List.not_mem_nil | (rcases List.mem_append.mp hw with hw | hw)) (by decide +kernel)
set_option maxRecDepth 100000 in
set_option maxHeartbeats 4000000 in
theorem mL_X4_round_h : ∀ w ∈ ([.code yX4_round cX4_round 6 (some .int)] : List Cond), w ∈ wsL_law := mem_c _ [(26, 15)] rfl
set_option maxRecDepth 100000 in
set_option maxHeartbeats 4000000 in
theorem mL_X4_round_0 : ∀ w ∈ wsX4_round_r1, w ∈ wsL_law := mem_c _ [(1, 2), (1, 1), (0, 16), (22, 7), (1, 13), (25, 1), (25, 2), (25, 3), (1, 0), (25, 4), (3, 7), (3, 16), (3, 17), (3, 18), (3, 19), (3, 8), (3, 21), (3, 22), (3, 23), (4, 1), (4, 2), (26, 16), (26, 17), (26, 18)] rfl
set_option maxRecDepth 100000 in
set_option maxHeartbeats 4000000 in
theorem mL_X4_round_1 : ∀ w ∈ wsX4_round_r2, w ∈ wsL_law := mem_c _ [(26, 19), (26, 20), (26, 21), (26, 22), (26, 23), (3, 10), (17, 22), (27, 0), (27, 1), (27, 2), (27, 3), (27, 4), (27, 5), (27, 6), (27, 7), (27, 8), (27, 9), (27, 10), (0, 2), (27, 11), (22, 8), (22, 9), (22, 10), (22, 11)] rfl
set_option maxRecDepth 100000 in
set_option maxHeartbeats 4000000 in
theorem mL_X4_round_2 : ∀ w ∈ wsX4_round_r3, w ∈ wsL_law := mem_c _ [(22, 12), (22, 13), (22, 14), (22, 15), (3, 9), (22, 16), (20, 2), (20, 3), (20, 4), (18, 3), (20, 5), (11, 21), (11, 22), (0, 15), (11, 23), (2, 8), (20, 6), (20, 7), (20, 8), (20, 9), (20, 10), (20, 11), (20, 12), (20, 13)] rfl
set_option maxRecDepth 100000 in
set_option maxHeartbeats 4000000 in
theorem mL_X4_round_3 : ∀ w ∈ wsX4_round_r4, w ∈ wsL_law := mem_c _ [(20, 14), (20, 15), (20, 16), (20, 17), (20, 18), (20, 19), (20, 20), (20, 21), (20, 22), (2, 0), (2, 1), (22, 17), (22, 18), (22, 19), (22, 20), (22, 21), (22, 22), (22, 23), (23, 0), (23, 1), (23, 2), (23, 3), (23, 4), (23, 5)] rfl
set_option maxRecDepth 100000 in
set_option maxHeartbeats 4000000 in
theorem mL_X4_round_4 : ∀ w ∈ wsX4_round_r5, w ∈ wsL_law := mem_c _ [(23, 6), (23, 7), (23, 8), (23, 9), (18, 4), (11, 17), (11, 18), (11, 19), (11, 20)] rfl
set_option maxRecDepth 100000 in
set_option maxHeartbeats 4000000 in
theorem ggL_law_X4_round : GoodIn wsL_law wsX4_round := goodIn_sub (fun w hw => by
  unfold wsX4_round at hw
  rcases List.mem_cons.mp hw with hw | hw
  · exact mL_X4_round_h w (List.mem_singleton.mpr hw)
  · repeat' first | exact mL_X4_round_h w (List.mem_singleton.mpr hw) | exact mL_X4_round_0 w hw | exact mL_X4_round_1 w hw | exact mL_X4_round_2 w hw | exact mL_X4_round_3 w hw | exact mL_X4_round_4 w hw | exact lwC_in _ (List.mem_of_getElem? (i := 38) rfl) w hw | exact lwC_in _ (List.mem_of_getElem? (i := 40) rfl) w hw | exact lwC_in _ (List.mem_of_getElem? (i := 42) rfl) w hw | exact absurd hw List.not_mem_nil | (rcases List.mem_append.mp hw with hw | hw)) (by decide +kernel)
set_option maxRecDepth 100000 in
set_option maxHeartbeats 4000000 in
theorem mL_X5_round_h : ∀ w ∈ ([.code yX5_round cX5_round 3 (some .int)] : List Cond), w ∈ wsL_law := mem_c _ [(27, 15)] rfl
set_option maxRecDepth 100000 in
set_option maxHeartbeats 4000000 in
theorem mL_X5_round_0 : ∀ w ∈ wsX5_round_r1, w ∈ wsL_law := mem_c _ [(6, 17), (6, 18), (0, 5), (6, 19), (27, 16), (27, 17), (27, 18), (27, 19), (26, 4), (26, 5), (26, 6), (26, 7), (5, 1), (5, 2), (5, 19), (23, 14), (25, 9), (25, 10), (25, 11), (27, 20), (27, 21), (27, 22), (27, 23), (5, 7)] rfl
set_option maxRecDepth 100000 in
set_option maxHeartbeats 4000000 in
theorem mL_X5_round_1 : ∀ w ∈ wsX5_round_r2, w ∈ wsL_law := mem_c _ [(5, 16), (28, 0), (28, 1), (28, 2), (28, 3), (28, 4), (28, 5), (28, 6), (28, 7), (23, 15), (23, 16), (23, 17), (23, 18), (5, 6), (23, 19), (23, 20), (23, 21), (23, 22), (21, 3), (23, 23), (21, 4), (21, 5), (21, 6), (21, 7)] rfl
set_option maxRecDepth 100000 in
set_option maxHeartbeats 4000000 in
theorem mL_X5_round_2 : ∀ w ∈ wsX5_round_r3, w ∈ wsL_law := mem_c _ [(4, 18), (5, 17), (4, 20), (21, 8), (21, 9), (21, 10), (21, 11), (18, 17), (18, 18), (18, 19), (18, 20), (4, 16), (21, 12), (21, 13), (21, 14), (21, 15), (21, 16), (21, 17), (21, 18), (24, 0), (24, 1), (24, 2), (24, 3), (24, 4)] rfl
set_option maxRecDepth 100000 in
set_option maxHeartbeats 4000000 in
theorem mL_X5_round_3 : ∀ w ∈ wsX5_round_r4, w ∈ wsL_law := mem_c _ [(24, 5), (24, 6), (24, 7), (26, 8), (26, 9), (26, 10), (26, 11)] rfl
set_option maxRecDepth 100000 in
set_option maxHeartbeats 4000000 in
theorem ggL_law_X5_round : GoodIn wsL_law wsX5_round := goodIn_sub (fun w hw => by
  unfold wsX5_round at hw
  rcases List.mem_cons.mp hw with hw | hw
  · exact mL_X5_round_h w (List.mem_singleton.mpr hw)
  · repeat' first | exact mL_X5_round_h w (List.mem_singleton.mpr hw) | exact mL_X5_round_0 w hw | exact mL_X5_round_1 w hw | exact mL_X5_round_2 w hw | exact mL_X5_round_3 w hw | exact lwC_in _ (List.mem_of_getElem? (i := 39) rfl) w hw | exact absurd hw List.not_mem_nil | (rcases List.mem_append.mp hw with hw | hw)) (by decide +kernel)
set_option maxRecDepth 100000 in
set_option maxHeartbeats 4000000 in
theorem mL_X4_touch_h : ∀ w ∈ ([.code yX4_touch cX4_touch 5 (some .int)] : List Cond), w ∈ wsL_law := mem_c _ [(28, 11)] rfl
set_option maxRecDepth 100000 in
set_option maxHeartbeats 4000000 in
theorem mL_X4_touch_0 : ∀ w ∈ wsX4_touch_r1, w ∈ wsL_law := mem_c _ [(1, 1), (28, 12), (28, 13), (28, 14), (0, 2), (28, 15), (19, 5), (19, 6), (19, 7), (19, 8), (0, 16), (19, 9), (28, 16), (28, 17), (28, 18), (1, 0), (28, 19), (28, 20), (28, 21), (28, 22), (28, 23), (3, 10), (17, 23), (18, 0)] rfl
set_option maxRecDepth 100000 in
set_option maxHeartbeats 4000000 in
theorem mL_X4_touch_1 : ∀ w ∈ wsX4_touch_r2, w ∈ wsL_law := mem_c _ [(18, 1), (18, 2), (18, 3), (3, 7), (18, 4), (11, 17), (11, 18), (0, 15), (11, 19), (11, 20), (11, 21), (11, 22), (11, 23), (2, 8), (29, 0), (29, 1), (29, 2), (29, 3), (12, 0), (12, 1), (12, 2), (12, 3), (29, 4), (29, 5)] rfl
set_option maxRecDepth 100000 in
set_option maxHeartbeats 4000000 in
theorem mL_X4_touch_2 : ∀ w ∈ wsX4_touch_r3, w ∈ wsL_law := mem_c _ [(29, 6), (29, 7), (29, 8), (29, 9), (29, 10), (29, 11), (29, 12)] rfl
set_option maxRecDepth 100000 in
set_option maxHeartbeats 4000000 in
theorem ggL_law_X4_touch : GoodIn wsL_law wsX4_touch := goodIn_sub (fun w hw => by
  unfold wsX4_touch at hw
  rcases List.mem_cons.mp hw with hw | hw
  · exact mL_X4_touch_h w (List.mem_singleton.mpr hw)
  · repeat' first | exact mL_X4_touch_h w (List.mem_singleton.mpr hw) | exact mL_X4_touch_0 w hw | exact mL_X4_touch_1 w hw | exact mL_X4_touch_2 w hw | exact lwC_in _ (List.mem_of_getElem? (i := 38) rfl) w hw | exact lwC_in _ (List.mem_of_getElem? (i := 40) rfl) w hw | exact lwC_in _ (List.mem_of_getElem? (i := 42) rfl) w hw | exact absurd hw List.not_mem_nil | (rcases List.mem_append.mp hw with hw | hw)) (by decide +kernel)
set_option maxRecDepth 100000 in
set_option maxHeartbeats 4000000 in
theorem mL_X5_touch_h : ∀ w ∈ ([.code yX5_touch cX5_touch 5 (some .int)] : List Cond), w ∈ wsL_law := mem_c _ [(29, 16)] rfl
set_option maxRecDepth 100000 in
set_option maxHeartbeats 4000000 in
theorem mL_X5_touch_0 : ∀ w ∈ wsX5_touch_r1, w ∈ wsL_law := mem_c _ [(6, 17), (6, 18), (0, 5), (6, 19), (29, 17), (29, 18), (29, 19), (29, 20), (19, 14), (19, 15), (19, 16), (19, 17), (5, 16), (29, 21), (29, 22), (29, 23), (30, 0), (4, 16), (5, 1), (30, 1), (30, 2), (30, 3), (30, 4), (18, 13)] rfl
set_option maxRecDepth 100000 in
set_option maxHeartbeats 4000000 in
theorem mL_X5_touch_1 : ∀ w ∈ wsX5_touch_r2, w ∈ wsL_law := mem_c _ [(18, 14), (18, 15), (18, 16), (4, 18), (18, 17), (18, 18), (18, 19), (18, 20)] rfl
set_option maxRecDepth 100000 in
set_option maxHeartbeats 4000000 in
theorem ggL_law_X5_touch : GoodIn wsL_law wsX5_touch := goodIn_sub (fun w hw => by
  unfold wsX5_touch at hw
  rcases List.mem_cons.mp hw with hw | hw
  · exact mL_X5_touch_h w (List.mem_singleton.mpr hw)
  · repeat' first | exact mL_X5_touch_h w (List.mem_singleton.mpr hw) | exact mL_X5_touch_0 w hw | exact mL_X5_touch_1 w hw | exact lwC_in _ (List.mem_of_getElem? (i := 39) rfl) w hw | exact absurd hw List.not_mem_nil | (rcases List.mem_append.mp hw with hw | hw)) (by decide +kernel)
set_option maxRecDepth 100000 in
set_option maxHeartbeats 4000000 in
theorem mL_X4_when_h : ∀ w ∈ ([.code yX4_when cX4_when 5 (some .int)] : List Cond), w ∈ wsL_law := mem_c _ [(30, 8)] rfl
set_option maxRecDepth 100000 in
set_option maxHeartbeats 4000000 in
theorem mL_X4_when_0 : ∀ w ∈ wsX4_when_r1, w ∈ wsL_law := mem_c _ [(1, 2), (1, 1), (28, 12), (28, 13), (28, 14), (0, 2), (28, 15), (19, 5), (19, 6), (19, 7), (19, 8), (0, 16), (19, 9), (25, 1), (25, 2), (25, 3), (1, 0), (25, 4), (3, 7), (3, 16), (3, 17), (3, 18), (3, 19), (3, 8)] rfl
set_option maxRecDepth 100000 in
set_option maxHeartbeats 4000000 in
theorem mL_X4_when_1 : ∀ w ∈ wsX4_when_r2, w ∈ wsL_law := mem_c _ [(3, 21), (3, 22), (3, 23), (4, 1), (4, 2), (30, 9), (30, 10), (30, 11), (30, 12), (22, 7), (28, 16), (28, 17), (28, 18), (28, 19), (28, 20), (28, 21), (28, 22), (28, 23), (3, 10), (17, 23), (18, 0), (18, 1), (18, 2), (18, 3)] rfl
set_option maxRecDepth 100000 in
set_option maxHeartbeats 4000000 in
theorem mL_X4_when_2 : ∀ w ∈ wsX4_when_r3, w ∈ wsL_law := mem_c _ [(18, 4), (11, 17), (11, 18), (0, 15), (11, 19), (11, 20), (11, 21), (11, 22), (11, 23), (2, 8), (29, 0), (29, 1), (29, 2), (29, 3), (12, 0), (12, 1), (12, 2), (12, 3), (29, 4), (29, 5), (29, 6), (29, 7), (29, 8), (29, 9)] rfl
set_option maxRecDepth 100000 in
set_option maxHeartbeats 4000000 in
theorem mL_X4_when_3 : ∀ w ∈ wsX4_when_r4, w ∈ wsL_law := mem_c _ [(29, 10), (29, 11), (29, 12), (22, 8), (22, 9), (22, 10), (22, 11), (22, 12), (22, 13), (22, 14), (22, 15), (17, 22), (3, 9), (22, 16), (20, 2), (20, 3), (20, 4), (20, 5), (20, 6), (20, 7), (20, 8), (20, 9), (20, 10), (20, 11)] rfl
set_option maxRecDepth 100000 in
set_option maxHeartbeats 4000000 in
theorem mL_X4_when_4 : ∀ w ∈ wsX4_when_r5, w ∈ wsL_law := mem_c _ [(20, 12), (20, 13), (20, 14), (20, 15), (20, 16), (20, 17), (20, 18), (20, 19), (20, 20), (20, 21), (20, 22), (2, 0), (2, 1), (22, 17), (22, 18), (22, 19), (22, 20), (22, 21), (22, 22), (22, 23), (23, 0), (23, 1), (23, 2), (23, 3)] rfl
set_option maxRecDepth 100000 in
set_option maxHeartbeats 4000000 in
theorem mL_X4_when_5 : ∀ w ∈ wsX4_when_r6, w ∈ wsL_law := mem_c _ [(23, 4), (23, 5), (23, 6), (23, 7), (23, 8), (23, 9)] rfl
set_option maxRecDepth 100000 in
set_option maxHeartbeats 4000000 in
theorem ggL_law_X4_when : GoodIn wsL_law wsX4_when := goodIn_sub (fun w hw => by
  unfold wsX4_when at hw
  rcases List.mem_cons.mp hw with hw | hw
  · exact mL_X4_when_h w (List.mem_singleton.mpr hw)
  · repeat' first | exact mL_X4_when_h w (List.mem_singleton.mpr hw) | exact mL_X4_when_0 w hw | exact mL_X4_when_1 w hw | exact mL_X4_when_2 w hw | exact mL_X4_when_3 w hw | exact mL_X4_when_4 w hw | exact mL_X4_when_5 w hw | exact lwC_in _ (List.mem_of_getElem? (i := 38) rfl) w hw | exact lwC_in _ (List.mem_of_getElem? (i := 40) rfl) w hw | exact lwC_in _ (List.mem_of_getElem? (i := 42) rfl) w hw | exact absurd hw List.not_mem_nil | (rcases List.mem_append.mp hw with hw | hw)) (by decide +kernel)
set_option maxRecDepth 100000 in
set_option maxHeartbeats 4000000 in
theorem mL_X5_when_h : ∀ w ∈ ([.code yX5_when cX5_when 7 (some .int)] : List Cond), w ∈ wsL_law := mem_c _ [(30, 16)] rfl
set_option maxRecDepth 100000 in
set_option maxHeartbeats 4000000 in
theorem mL_X5_when_0 : ∀ w ∈ wsX5_when_r1, w ∈ wsL_law := mem_c _ [(6, 17), (6, 18), (0, 5), (6, 19), (29, 17), (29, 18), (29, 19), (29, 20), (19, 14), (19, 15), (19, 16), (19, 17), (5, 16), (26, 4), (26, 5), (26, 6), (26, 7), (5, 1), (5, 2), (5, 19), (23, 14), (25, 9), (25, 10), (25, 11)] rfl
set_option maxRecDepth 100000 in
set_option maxHeartbeats 4000000 in
theorem mL_X5_when_1 : ∀ w ∈ wsX5_when_r2, w ∈ wsL_law := mem_c _ [(29, 21), (29, 22), (29, 23), (30, 0), (4, 16), (30, 1), (30, 2), (30, 3), (30, 4), (18, 13), (18, 14), (18, 15), (18, 16), (4, 18), (18, 17), (18, 18), (18, 19), (18, 20), (23, 15), (23, 16), (23, 17), (23, 18), (5, 6), (23, 19)] rfl
set_option maxRecDepth 100000 in
set_option maxHeartbeats 4000000 in
theorem mL_X5_when_2 : ∀ w ∈ wsX5_when_r3, w ∈ wsL_law := mem_c _ [(23, 20), (23, 21), (23, 22), (21, 3), (23, 23), (21, 4), (21, 5), (21, 6), (21, 7), (5, 17), (4, 20), (21, 8), (21, 9), (21, 10), (21, 11), (21, 12), (21, 13), (21, 14), (21, 15), (21, 16), (21, 17), (21, 18), (24, 0), (24, 1)] rfl
set_option maxRecDepth 100000 in
set_option maxHeartbeats 4000000 in
theorem mL_X5_when_3 : ∀ w ∈ wsX5_when_r4, w ∈ wsL_law := mem_c _ [(24, 2), (24, 3), (24, 4), (24, 5), (24, 6), (24, 7), (26, 8), (26, 9), (26, 10), (26, 11)] rfl
set_option maxRecDepth 100000 in
set_option maxHeartbeats 4000000 in
theorem ggL_law_X5_when : GoodIn wsL_law wsX5_when := goodIn_sub (fun w hw => by
  unfold wsX5_when at hw
  rcases List.mem_cons.mp hw with hw | hw
  · exact mL_X5_when_h w (List.mem_singleton.mpr hw)
  · repeat' first | exact mL_X5_when_h w (List.mem_singleton.mpr hw) | exact mL_X5_when_0 w hw | exact mL_X5_when_1 w hw | exact mL_X5_when_2 w hw | exact mL_X5_when_3 w hw | exact lwC_in _ (List.mem_of_getElem? (i := 39) rfl) w hw | exact absurd hw List.not_mem_nil | (rcases List.mem_append.mp hw with hw | hw)) (by decide +kernel)
set_option maxRecDepth 100000 in
set_option maxHeartbeats 4000000 in
theorem mL_X4_often_h : ∀ w ∈ ([.code yX4_often cX4_often 8 (some .int)] : List Cond), w ∈ wsL_law := mem_c _ [(30, 20)] rfl
set_option maxRecDepth 100000 in
set_option maxHeartbeats 4000000 in
theorem mL_X4_often_0 : ∀ w ∈ wsX4_often_r1, w ∈ wsL_law := mem_c _ [(1, 2), (1, 1), (0, 16), (22, 7), (28, 12), (28, 13), (28, 14), (0, 2), (28, 15), (19, 5), (19, 6), (19, 7), (19, 8), (19, 9), (30, 21), (30, 22), (30, 23), (25, 1), (25, 2), (25, 3), (1, 0), (25, 4), (3, 7), (3, 16)] rfl
set_option maxRecDepth 100000 in
set_option maxHeartbeats 4000000 in
theorem mL_X4_often_1 : ∀ w ∈ wsX4_often_r2, w ∈ wsL_law := mem_c _ [(3, 17), (3, 18), (3, 19), (3, 8), (3, 21), (3, 22), (3, 23), (4, 1), (4, 2), (28, 16), (28, 17), (28, 18), (28, 19), (28, 20), (28, 21), (28, 22), (28, 23), (3, 10), (17, 23), (18, 0), (18, 1), (18, 2), (18, 3), (18, 4)] rfl
set_option maxRecDepth 100000 in
set_option maxHeartbeats 4000000 in
theorem mL_X4_often_2 : ∀ w ∈ wsX4_often_r3, w ∈ wsL_law := mem_c _ [(11, 17), (11, 18), (0, 15), (11, 19), (11, 20), (11, 21), (11, 22), (11, 23), (2, 8), (29, 0), (29, 1), (29, 2), (29, 3), (12, 0), (12, 1), (12, 2), (12, 3), (29, 4), (29, 5), (29, 6), (29, 7), (29, 8), (29, 9), (29, 10)] rfl
set_option maxRecDepth 100000 in
set_option maxHeartbeats 4000000 in
theorem mL_X4_often_3 : ∀ w ∈ wsX4_often_r4, w ∈ wsL_law := mem_c _ [(29, 11), (29, 12), (22, 8), (22, 9), (22, 10), (22, 11), (22, 12), (22, 13), (22, 14), (22, 15), (17, 22), (3, 9), (22, 16), (20, 2), (20, 3), (20, 4), (20, 5), (20, 6), (20, 7), (20, 8), (20, 9), (20, 10), (20, 11), (20, 12)] rfl
set_option maxRecDepth 100000 in
set_option maxHeartbeats 4000000 in
theorem mL_X4_often_4 : ∀ w ∈ wsX4_often_r5, w ∈ wsL_law := mem_c _ [(20, 13), (20, 14), (20, 15), (20, 16), (20, 17), (20, 18), (20, 19), (20, 20), (20, 21), (20, 22), (2, 0), (2, 1), (22, 17), (22, 18), (22, 19), (22, 20), (22, 21), (22, 22), (22, 23), (23, 0), (23, 1), (23, 2), (23, 3), (23, 4)] rfl
set_option maxRecDepth 100000 in
set_option maxHeartbeats 4000000 in
theorem mL_X4_often_5 : ∀ w ∈ wsX4_often_r6, w ∈ wsL_law := mem_c _ [(23, 5), (23, 6), (23, 7), (23, 8), (23, 9)] rfl
set_option maxRecDepth 100000 in
set_option maxHeartbeats 4000000 in
theorem ggL_law_X4_often : GoodIn wsL_law wsX4_often := goodIn_sub (fun w hw => by
  unfold wsX4_often at hw
  rcases List.mem_cons.mp hw with hw | hw
  · exact mL_X4_often_h w (List.mem_singleton.mpr hw)
  · repeat' first | exact mL_X4_often_h w (List.mem_singleton.mpr hw) | exact mL_X4_often_0 w hw | exact mL_X4_often_1 w hw | exact mL_X4_often_2 w hw | exact mL_X4_often_3 w hw | exact mL_X4_often_4 w hw | exact mL_X4_often_5 w hw | exact lwC_in _ (List.mem_of_getElem? (i := 38) rfl) w hw | exact lwC_in _ (List.mem_of_getElem? (i := 40) rfl) w hw | exact lwC_in _ (List.mem_of_getElem? (i := 42) rfl) w hw | exact absurd hw List.not_mem_nil | (rcases List.mem_append.mp hw with hw | hw)) (by decide +kernel)
set_option maxRecDepth 100000 in
set_option maxHeartbeats 4000000 in
theorem mL_X5_often_h : ∀ w ∈ ([.code yX5_often cX5_often 8 (some .int)] : List Cond), w ∈ wsL_law := mem_c _ [(31, 3)] rfl
set_option maxRecDepth 100000 in
set_option maxHeartbeats 4000000 in
theorem mL_X5_often_0 : ∀ w ∈ wsX5_often_r1, w ∈ wsL_law := mem_c _ [(6, 17), (6, 18), (0, 5), (6, 19), (31, 4), (31, 5), (31, 6), (29, 17), (29, 18), (29, 19), (29, 20), (19, 14), (19, 15), (19, 16), (19, 17), (5, 16), (26, 4), (26, 5), (26, 6), (26, 7), (5, 1), (5, 2), (5, 19), (23, 14)] rfl
set_option maxRecDepth 100000 in
set_option maxHeartbeats 4000000 in
theorem mL_X5_often_1 : ∀ w ∈ wsX5_often_r2, w ∈ wsL_law := mem_c _ [(25, 9), (25, 10), (25, 11), (29, 21), (29, 22), (29, 23), (30, 0), (4, 16), (30, 1), (30, 2), (30, 3), (30, 4), (18, 13), (18, 14), (18, 15), (18, 16), (4, 18), (18, 17), (18, 18), (18, 19), (18, 20), (23, 15), (23, 16), (23, 17)] rfl
set_option maxRecDepth 100000 in
set_option maxHeartbeats 4000000 in
theorem mL_X5_often_2 : ∀ w ∈ wsX5_often_r3, w ∈ wsL_law := mem_c _ [(23, 18), (5, 6), (23, 19), (23, 20), (23, 21), (23, 22), (21, 3), (23, 23), (21, 4), (21, 5), (21, 6), (21, 7), (5, 17), (4, 20), (21, 8), (21, 9), (21, 10), (21, 11), (21, 12), (21, 13), (21, 14), (21, 15), (21, 16), (21, 17)] rfl
set_option maxRecDepth 100000 in
set_option maxHeartbeats 4000000 in
theorem mL_X5_often_3 : ∀ w ∈ wsX5_often_r4, w ∈ wsL_law := mem_c _ [(21, 18), (24, 0), (24, 1), (24, 2), (24, 3), (24, 4), (24, 5), (24, 6), (24, 7), (26, 8), (26, 9), (26, 10), (26, 11)] rfl
set_option maxRecDepth 100000 in
set_option maxHeartbeats 4000000 in
theorem ggL_law_X5_often : GoodIn wsL_law wsX5_often := goodIn_sub (fun w hw => by
  unfold wsX5_often at hw
  rcases List.mem_cons.mp hw with hw | hw
  · exact mL_X5_often_h w (List.mem_singleton.mpr hw)
  · repeat' first | exact mL_X5_often_h w (List.mem_singleton.mpr hw) | exact mL_X5_often_0 w hw | exact mL_X5_often_1 w hw | exact mL_X5_often_2 w hw | exact mL_X5_often_3 w hw | exact lwC_in _ (List.mem_of_getElem? (i := 39) rfl) w hw | exact absurd hw List.not_mem_nil | (rcases List.mem_append.mp hw with hw | hw)) (by decide +kernel)
set_option maxRecDepth 100000 in
set_option maxHeartbeats 4000000 in
theorem mL_X4_brings_h : ∀ w ∈ ([.code yX4_brings cX4_brings 5 (some .int)] : List Cond), w ∈ wsL_law := mem_c _ [(31, 10)] rfl
set_option maxRecDepth 100000 in
set_option maxHeartbeats 4000000 in
theorem mL_X4_brings_0 : ∀ w ∈ wsX4_brings_r1, w ∈ wsL_law := mem_c _ [(1, 2), (1, 1), (0, 16), (22, 7), (19, 5), (19, 6), (19, 7), (0, 2), (19, 8), (19, 9), (30, 21), (30, 22), (30, 23), (25, 1), (25, 2), (25, 3), (1, 0), (25, 4), (3, 7), (3, 16), (3, 17), (3, 18), (3, 19), (3, 8)] rfl
set_option maxRecDepth 100000 in
set_option maxHeartbeats 4000000 in
theorem mL_X4_brings_1 : ∀ w ∈ wsX4_brings_r2, w ∈ wsL_law := mem_c _ [(3, 21), (3, 22), (3, 23), (4, 1), (4, 2), (31, 11), (31, 12), (31, 13), (31, 14), (3, 10), (31, 15), (18, 3), (20, 5), (11, 21), (11, 22), (0, 15), (11, 23), (2, 8), (22, 8), (22, 9), (22, 10), (22, 11), (22, 12), (22, 13)] rfl
set_option maxRecDepth 100000 in
set_option maxHeartbeats 4000000 in
theorem mL_X4_brings_2 : ∀ w ∈ wsX4_brings_r3, w ∈ wsL_law := mem_c _ [(22, 14), (22, 15), (17, 22), (3, 9), (22, 16), (20, 2), (20, 3), (20, 4), (20, 6), (20, 7), (20, 8), (20, 9), (20, 10), (20, 11), (20, 12), (20, 13), (20, 14), (20, 15), (20, 16), (20, 17), (20, 18), (20, 19), (20, 20), (20, 21)] rfl
set_option maxRecDepth 100000 in
set_option maxHeartbeats 4000000 in
theorem mL_X4_brings_3 : ∀ w ∈ wsX4_brings_r4, w ∈ wsL_law := mem_c _ [(20, 22), (2, 0), (2, 1), (22, 17), (22, 18), (22, 19), (22, 20), (22, 21), (22, 22), (22, 23), (23, 0), (23, 1), (23, 2), (23, 3), (23, 4), (23, 5), (23, 6), (23, 7), (23, 8), (23, 9), (18, 4), (11, 17), (11, 18), (11, 19)] rfl
set_option maxRecDepth 100000 in
set_option maxHeartbeats 4000000 in
theorem mL_X4_brings_4 : ∀ w ∈ wsX4_brings_r5, w ∈ wsL_law := mem_c _ [(11, 20)] rfl
set_option maxRecDepth 100000 in
set_option maxHeartbeats 4000000 in
theorem ggL_law_X4_brings : GoodIn wsL_law wsX4_brings := goodIn_sub (fun w hw => by
  unfold wsX4_brings at hw
  rcases List.mem_cons.mp hw with hw | hw
  · exact mL_X4_brings_h w (List.mem_singleton.mpr hw)
  · repeat' first | exact mL_X4_brings_h w (List.mem_singleton.mpr hw) | exact mL_X4_brings_0 w hw | exact mL_X4_brings_1 w hw | exact mL_X4_brings_2 w hw | exact mL_X4_brings_3 w hw | exact mL_X4_brings_4 w hw | exact lwC_in _ (List.mem_of_getElem? (i := 38) rfl) w hw | exact lwC_in _ (List.mem_of_getElem? (i := 40) rfl) w hw | exact lwC_in _ (List.mem_of_getElem? (i := 42) rfl) w hw | exact absurd hw List.not_mem_nil | (rcases List.mem_append.mp hw with hw | hw)) (by decide +kernel)
set_option maxRecDepth 100000 in
set_option maxHeartbeats 4000000 in
theorem mL_X5_brings_h : ∀ w ∈ ([.code yX5_brings cX5_brings 6 (some .int)] : List Cond), w ∈ wsL_law := mem_c _ [(31, 19)] rfl
set_option maxRecDepth 100000 in
set_option maxHeartbeats 4000000 in
theorem mL_X5_brings_0 : ∀ w ∈ wsX5_brings_r1, w ∈ wsL_law := mem_c _ [(4, 16), (4, 17), (19, 14), (19, 15), (19, 16), (0, 5), (19, 17), (5, 16), (6, 17), (6, 18), (6, 19), (31, 4), (31, 5), (31, 6), (26, 4), (26, 5), (26, 6), (26, 7), (5, 1), (5, 2), (5, 19), (23, 14), (25, 9), (25, 10)] rfl
set_option maxRecDepth 100000 in
set_option maxHeartbeats 4000000 in
theorem mL_X5_brings_1 : ∀ w ∈ wsX5_brings_r2, w ∈ wsL_law := mem_c _ [(25, 11), (18, 13), (18, 14), (18, 15), (18, 16), (4, 18), (18, 17), (18, 18), (18, 19), (18, 20), (23, 15), (23, 16), (23, 17), (23, 18), (5, 6), (23, 19), (23, 20), (23, 21), (23, 22), (21, 3), (23, 23), (21, 4), (21, 5), (21, 6)] rfl
set_option maxRecDepth 100000 in
set_option maxHeartbeats 4000000 in
theorem mL_X5_brings_2 : ∀ w ∈ wsX5_brings_r3, w ∈ wsL_law := mem_c _ [(21, 7), (5, 17), (4, 20), (21, 8), (21, 9), (21, 10), (21, 11), (21, 12), (21, 13), (21, 14), (21, 15), (21, 16), (21, 17), (21, 18), (24, 0), (24, 1), (24, 2), (24, 3), (24, 4), (24, 5), (24, 6), (24, 7), (26, 8), (26, 9)] rfl
set_option maxRecDepth 100000 in
set_option maxHeartbeats 4000000 in
theorem mL_X5_brings_3 : ∀ w ∈ wsX5_brings_r4, w ∈ wsL_law := mem_c _ [(26, 10), (26, 11)] rfl
set_option maxRecDepth 100000 in
set_option maxHeartbeats 4000000 in
theorem ggL_law_X5_brings : GoodIn wsL_law wsX5_brings := goodIn_sub (fun w hw => by
  unfold wsX5_brings at hw
  rcases List.mem_cons.mp hw with hw | hw
  · exact mL_X5_brings_h w (List.mem_singleton.mpr hw)
  · repeat' first | exact mL_X5_brings_h w (List.mem_singleton.mpr hw) | exact mL_X5_brings_0 w hw | exact mL_X5_brings_1 w hw | exact mL_X5_brings_2 w hw | exact mL_X5_brings_3 w hw | exact lwC_in _ (List.mem_of_getElem? (i := 39) rfl) w hw | exact absurd hw List.not_mem_nil | (rcases List.mem_append.mp hw with hw | hw)) (by decide +kernel)
set_option maxRecDepth 100000 in
set_option maxHeartbeats 4000000 in
theorem mL_X4_feuding_h : ∀ w ∈ ([.code yX4_feuding cX4_feuding 4 (some .int)] : List Cond), w ∈ wsL_law := mem_c _ [(31, 23)] rfl
set_option maxRecDepth 100000 in
set_option maxHeartbeats 4000000 in
theorem mL_X4_feuding_0 : ∀ w ∈ wsX4_feuding_r1, w ∈ wsL_law := mem_c _ [(1, 2), (1, 1), (0, 16), (22, 7), (30, 21), (30, 22), (0, 2), (30, 23), (25, 1), (25, 2), (25, 3), (1, 0), (25, 4), (3, 7), (3, 16), (3, 17), (3, 18), (3, 19), (3, 8), (3, 21), (3, 22), (3, 23), (4, 1), (4, 2)] rfl
set_option maxRecDepth 100000 in
set_option maxHeartbeats 4000000 in
theorem mL_X4_feuding_1 : ∀ w ∈ wsX4_feuding_r2, w ∈ wsL_law := mem_c _ [(32, 0), (32, 1), (32, 2), (32, 3), (3, 10), (32, 4), (32, 5), (32, 6), (28, 20), (28, 21), (28, 22), (28, 23), (17, 23), (18, 0), (18, 1), (18, 2), (18, 3), (18, 4), (11, 17), (11, 18), (0, 15), (11, 19), (11, 20), (11, 21)] rfl
set_option maxRecDepth 100000 in
set_option maxHeartbeats 4000000 in
theorem mL_X4_feuding_2 : ∀ w ∈ wsX4_feuding_r3, w ∈ wsL_law := mem_c _ [(11, 22), (11, 23), (2, 8), (29, 0), (29, 1), (29, 2), (29, 3), (12, 0), (12, 1), (12, 2), (12, 3), (22, 8), (22, 9), (22, 10), (22, 11), (22, 12), (22, 13), (22, 14), (22, 15), (17, 22), (3, 9), (22, 16), (20, 2), (20, 3)] rfl
set_option maxRecDepth 100000 in
set_option maxHeartbeats 4000000 in
theorem mL_X4_feuding_3 : ∀ w ∈ wsX4_feuding_r4, w ∈ wsL_law := mem_c _ [(20, 4), (20, 5), (20, 6), (20, 7), (20, 8), (20, 9), (20, 10), (20, 11), (20, 12), (20, 13), (20, 14), (20, 15), (20, 16), (20, 17), (20, 18), (20, 19), (20, 20), (20, 21), (20, 22), (2, 0), (2, 1), (22, 17), (22, 18), (22, 19)] rfl
set_option maxRecDepth 100000 in
set_option maxHeartbeats 4000000 in
theorem mL_X4_feuding_4 : ∀ w ∈ wsX4_feuding_r5, w ∈ wsL_law := mem_c _ [(22, 20), (22, 21), (22, 22), (22, 23), (23, 0), (23, 1), (23, 2), (23, 3), (23, 4), (23, 5), (23, 6), (23, 7), (23, 8), (23, 9)] rfl
set_option maxRecDepth 100000 in
set_option maxHeartbeats 4000000 in
theorem ggL_law_X4_feuding : GoodIn wsL_law wsX4_feuding := goodIn_sub (fun w hw => by
  unfold wsX4_feuding at hw
  rcases List.mem_cons.mp hw with hw | hw
  · exact mL_X4_feuding_h w (List.mem_singleton.mpr hw)
  · repeat' first | exact mL_X4_feuding_h w (List.mem_singleton.mpr hw) | exact mL_X4_feuding_0 w hw | exact mL_X4_feuding_1 w hw | exact mL_X4_feuding_2 w hw | exact mL_X4_feuding_3 w hw | exact mL_X4_feuding_4 w hw | exact lwC_in _ (List.mem_of_getElem? (i := 38) rfl) w hw | exact lwC_in _ (List.mem_of_getElem? (i := 40) rfl) w hw | exact lwC_in _ (List.mem_of_getElem? (i := 42) rfl) w hw | exact absurd hw List.not_mem_nil | (rcases List.mem_append.mp hw with hw | hw)) (by decide +kernel)
set_option maxRecDepth 100000 in
set_option maxHeartbeats 4000000 in
theorem mL_X5_feuding_h : ∀ w ∈ ([.code yX5_feuding cX5_feuding 6 (some .int)] : List Cond), w ∈ wsL_law := mem_c _ [(32, 10)] rfl
set_option maxRecDepth 100000 in
set_option maxHeartbeats 4000000 in
theorem mL_X5_feuding_0 : ∀ w ∈ wsX5_feuding_r1, w ∈ wsL_law := mem_c _ [(5, 18), (4, 21), (31, 4), (31, 5), (0, 5), (31, 6), (6, 17), (6, 18), (6, 19), (26, 4), (26, 5), (26, 6), (26, 7), (5, 1), (5, 2), (5, 19), (23, 14), (25, 9), (25, 10), (25, 11), (30, 1), (30, 2), (30, 3), (30, 4)] rfl
set_option maxRecDepth 100000 in
set_option maxHeartbeats 4000000 in
theorem mL_X5_feuding_1 : ∀ w ∈ wsX5_feuding_r2, w ∈ wsL_law := mem_c _ [(4, 16), (18, 13), (18, 14), (18, 15), (18, 16), (4, 18), (18, 17), (18, 18), (18, 19), (18, 20), (23, 15), (23, 16), (23, 17), (23, 18), (5, 6), (5, 16), (23, 19), (23, 20), (23, 21), (23, 22), (21, 3), (23, 23), (21, 4), (21, 5)] rfl
set_option maxRecDepth 100000 in
set_option maxHeartbeats 4000000 in
theorem mL_X5_feuding_2 : ∀ w ∈ wsX5_feuding_r3, w ∈ wsL_law := mem_c _ [(21, 6), (21, 7), (5, 17), (4, 20), (21, 8), (21, 9), (21, 10), (21, 11), (21, 12), (21, 13), (21, 14), (21, 15), (21, 16), (21, 17), (21, 18), (24, 0), (24, 1), (24, 2), (24, 3), (24, 4), (24, 5), (24, 6), (24, 7), (26, 8)] rfl
set_option maxRecDepth 100000 in
set_option maxHeartbeats 4000000 in
theorem mL_X5_feuding_3 : ∀ w ∈ wsX5_feuding_r4, w ∈ wsL_law := mem_c _ [(26, 9), (26, 10), (26, 11)] rfl
set_option maxRecDepth 100000 in
set_option maxHeartbeats 4000000 in
theorem ggL_law_X5_feuding : GoodIn wsL_law wsX5_feuding := goodIn_sub (fun w hw => by
  unfold wsX5_feuding at hw
  rcases List.mem_cons.mp hw with hw | hw
  · exact mL_X5_feuding_h w (List.mem_singleton.mpr hw)
  · repeat' first | exact mL_X5_feuding_h w (List.mem_singleton.mpr hw) | exact mL_X5_feuding_0 w hw | exact mL_X5_feuding_1 w hw | exact mL_X5_feuding_2 w hw | exact mL_X5_feuding_3 w hw | exact lwC_in _ (List.mem_of_getElem? (i := 39) rfl) w hw | exact absurd hw List.not_mem_nil | (rcases List.mem_append.mp hw with hw | hw)) (by decide +kernel)
set_option maxRecDepth 100000 in
set_option maxHeartbeats 4000000 in
theorem mL_X4_nearest_h : ∀ w ∈ ([.code yX4_nearest cX4_nearest 6 (some .int)] : List Cond), w ∈ wsL_law := mem_c _ [(32, 14)] rfl
set_option maxRecDepth 100000 in
set_option maxHeartbeats 4000000 in
theorem mL_X4_nearest_0 : ∀ w ∈ wsX4_nearest_r1, w ∈ wsL_law := mem_c _ [(1, 1), (1, 2), (1, 9), (32, 15), (28, 12), (28, 13), (28, 14), (0, 2), (28, 15), (19, 5), (19, 6), (19, 7), (19, 8), (0, 16), (19, 9), (32, 16), (28, 21), (28, 22), (1, 0), (28, 23), (3, 10), (17, 23), (18, 0), (18, 1)] rfl
set_option maxRecDepth 100000 in
set_option maxHeartbeats 4000000 in
theorem mL_X4_nearest_1 : ∀ w ∈ wsX4_nearest_r2, w ∈ wsL_law := mem_c _ [(18, 2), (18, 3), (3, 7), (18, 4), (11, 17), (11, 18), (0, 15), (11, 19), (11, 20), (11, 21), (11, 22), (11, 23), (2, 8), (29, 0), (29, 1), (29, 2), (29, 3), (12, 0), (12, 1), (12, 2), (12, 3), (25, 1), (25, 2), (25, 3)] rfl
set_option maxRecDepth 100000 in
set_option maxHeartbeats 4000000 in
theorem mL_X4_nearest_2 : ∀ w ∈ wsX4_nearest_r3, w ∈ wsL_law := mem_c _ [(25, 4), (3, 16), (3, 17), (3, 18), (3, 19), (3, 8), (3, 21), (3, 22), (3, 23), (4, 1), (4, 2), (32, 17), (32, 18), (32, 19), (1, 8), (32, 20), (32, 21), (32, 22), (32, 23), (4, 10), (33, 0), (33, 1), (2, 14), (33, 2)] rfl
set_option maxRecDepth 100000 in
set_option maxHeartbeats 4000000 in
theorem mL_X4_nearest_3 : ∀ w ∈ wsX4_nearest_r4, w ∈ wsL_law := mem_c _ [(33, 3), (33, 4), (4, 11), (33, 5), (33, 6), (33, 7), (33, 8), (26, 21), (26, 22), (26, 23), (17, 22), (33, 9), (33, 10), (33, 11), (33, 12), (33, 13), (33, 14), (33, 15), (4, 9), (33, 16), (33, 17), (20, 2), (20, 3), (20, 4)] rfl
set_option maxRecDepth 100000 in
set_option maxHeartbeats 4000000 in
theorem mL_X4_nearest_4 : ∀ w ∈ wsX4_nearest_r5, w ∈ wsL_law := mem_c _ [(20, 5), (20, 6), (20, 7), (20, 8), (20, 9), (20, 10), (20, 11), (20, 12), (20, 13), (20, 14), (20, 15), (20, 16), (20, 17), (20, 18), (20, 19), (20, 20), (20, 21), (20, 22), (2, 0), (2, 1), (33, 18), (23, 7), (23, 8), (23, 9)] rfl
set_option maxRecDepth 100000 in
set_option maxHeartbeats 4000000 in
theorem mL_X4_nearest_5 : ∀ w ∈ wsX4_nearest_r6, w ∈ wsL_law := mem_c _ [(33, 19), (33, 20)] rfl
set_option maxRecDepth 100000 in
set_option maxHeartbeats 4000000 in
theorem ggL_law_X4_nearest : GoodIn wsL_law wsX4_nearest := goodIn_sub (fun w hw => by
  unfold wsX4_nearest at hw
  rcases List.mem_cons.mp hw with hw | hw
  · exact mL_X4_nearest_h w (List.mem_singleton.mpr hw)
  · repeat' first | exact mL_X4_nearest_h w (List.mem_singleton.mpr hw) | exact mL_X4_nearest_0 w hw | exact mL_X4_nearest_1 w hw | exact mL_X4_nearest_2 w hw | exact mL_X4_nearest_3 w hw | exact mL_X4_nearest_4 w hw | exact mL_X4_nearest_5 w hw | exact lwC_in _ (List.mem_of_getElem? (i := 38) rfl) w hw | exact lwC_in _ (List.mem_of_getElem? (i := 43) rfl) w hw | exact lwC_in _ (List.mem_of_getElem? (i := 40) rfl) w hw | exact lwC_in _ (List.mem_of_getElem? (i := 42) rfl) w hw | exact absurd hw List.not_mem_nil | (rcases List.mem_append.mp hw with hw | hw)) (by decide +kernel)
set_option maxRecDepth 100000 in
set_option maxHeartbeats 4000000 in
theorem mL_X5_nearest_h : ∀ w ∈ ([.code yX5_nearest cX5_nearest 9 (some .int)] : List Cond), w ∈ wsL_law := mem_c _ [(34, 0)] rfl
set_option maxRecDepth 100000 in
set_option maxHeartbeats 4000000 in
theorem mL_X5_nearest_0 : ∀ w ∈ wsX5_nearest_r1, w ∈ wsL_law := mem_c _ [(6, 17), (6, 18), (0, 5), (6, 19), (29, 17), (29, 18), (29, 19), (29, 20), (19, 14), (19, 15), (19, 16), (19, 17), (5, 16), (26, 4), (26, 5), (26, 6), (26, 7), (5, 1), (5, 2), (5, 19), (23, 14), (25, 9), (25, 10), (25, 11)] rfl
set_option maxRecDepth 100000 in
set_option maxHeartbeats 4000000 in
theorem mL_X5_nearest_1 : ∀ w ∈ wsX5_nearest_r2, w ∈ wsL_law := mem_c _ [(34, 1), (34, 2), (34, 3), (34, 4), (5, 9), (5, 10), (21, 3), (5, 6), (5, 11), (30, 1), (30, 2), (30, 3), (30, 4), (4, 16), (18, 13), (18, 14), (18, 15), (18, 16), (4, 18), (18, 17), (18, 18), (18, 19), (18, 20), (34, 5)] rfl
set_option maxRecDepth 100000 in
set_option maxHeartbeats 4000000 in
theorem mL_X5_nearest_2 : ∀ w ∈ wsX5_nearest_r3, w ∈ wsL_law := mem_c _ [(34, 6), (34, 7), (34, 8), (5, 8), (34, 9), (34, 10), (34, 11), (34, 12), (21, 4), (21, 5), (21, 6), (21, 7), (5, 17), (4, 20), (21, 8), (21, 9), (21, 10), (21, 11), (21, 12), (21, 13), (21, 14), (21, 15), (21, 16), (21, 17)] rfl
set_option maxRecDepth 100000 in
set_option maxHeartbeats 4000000 in
theorem mL_X5_nearest_3 : ∀ w ∈ wsX5_nearest_r4, w ∈ wsL_law := mem_c _ [(21, 18), (26, 8), (26, 9), (26, 10), (26, 11)] rfl
set_option maxRecDepth 100000 in
set_option maxHeartbeats 4000000 in
theorem ggL_law_X5_nearest : GoodIn wsL_law wsX5_nearest := goodIn_sub (fun w hw => by
  unfold wsX5_nearest at hw
  rcases List.mem_cons.mp hw with hw | hw
  · exact mL_X5_nearest_h w (List.mem_singleton.mpr hw)
  · repeat' first | exact mL_X5_nearest_h w (List.mem_singleton.mpr hw) | exact mL_X5_nearest_0 w hw | exact mL_X5_nearest_1 w hw | exact mL_X5_nearest_2 w hw | exact mL_X5_nearest_3 w hw | exact lwC_in _ (List.mem_of_getElem? (i := 39) rfl) w hw | exact absurd hw List.not_mem_nil | (rcases List.mem_append.mp hw with hw | hw)) (by decide +kernel)
set_option maxRecDepth 100000 in
set_option maxHeartbeats 4000000 in
theorem mL_X4_mends_h : ∀ w ∈ ([.code yX4_mends cX4_mends 12 (some .int)] : List Cond), w ∈ wsL_law := mem_c _ [(34, 16)] rfl
set_option maxRecDepth 100000 in
set_option maxHeartbeats 4000000 in
theorem mL_X4_mends_0 : ∀ w ∈ wsX4_mends_r1, w ∈ wsL_law := mem_c _ [(0, 16), (1, 2), (1, 1), (34, 17), (28, 12), (28, 13), (28, 14), (0, 2), (28, 15), (19, 5), (19, 6), (19, 7), (19, 8), (19, 9), (34, 18), (34, 19), (34, 20), (0, 15), (34, 21), (2, 20), (1, 22), (34, 22), (34, 23), (35, 0)] rfl
set_option maxRecDepth 100000 in
set_option maxHeartbeats 4000000 in
theorem mL_X4_mends_1 : ∀ w ∈ wsX4_mends_r2, w ∈ wsL_law := mem_c _ [(25, 1), (25, 2), (25, 3), (1, 0), (25, 4), (3, 7), (3, 16), (3, 17), (3, 18), (3, 19), (3, 8), (3, 21), (3, 22), (3, 23), (4, 1), (4, 2), (30, 9), (30, 10), (30, 11), (30, 12), (22, 7), (28, 16), (28, 17), (28, 18)] rfl
set_option maxRecDepth 100000 in
set_option maxHeartbeats 4000000 in
theorem mL_X4_mends_2 : ∀ w ∈ wsX4_mends_r3, w ∈ wsL_law := mem_c _ [(28, 19), (28, 20), (28, 21), (28, 22), (28, 23), (3, 10), (17, 23), (18, 0), (18, 1), (18, 2), (18, 3), (18, 4), (11, 17), (11, 18), (11, 19), (11, 20), (11, 21), (11, 22), (11, 23), (2, 8), (29, 0), (29, 1), (29, 2), (29, 3)] rfl
set_option maxRecDepth 100000 in
set_option maxHeartbeats 4000000 in
theorem mL_X4_mends_3 : ∀ w ∈ wsX4_mends_r4, w ∈ wsL_law := mem_c _ [(12, 0), (12, 1), (12, 2), (12, 3), (29, 4), (29, 5), (29, 6), (29, 7), (29, 8), (29, 9), (29, 10), (29, 11), (29, 12), (22, 8), (22, 9), (22, 10), (22, 11), (22, 12), (22, 13), (22, 14), (22, 15), (17, 22), (3, 9), (22, 16)] rfl
set_option maxRecDepth 100000 in
set_option maxHeartbeats 4000000 in
theorem mL_X4_mends_4 : ∀ w ∈ wsX4_mends_r5, w ∈ wsL_law := mem_c _ [(20, 2), (20, 3), (20, 4), (20, 5), (20, 6), (20, 7), (20, 8), (20, 9), (20, 10), (20, 11), (20, 12), (20, 13), (20, 14), (20, 15), (20, 16), (20, 17), (20, 18), (20, 19), (20, 20), (20, 21), (20, 22), (2, 0), (2, 1), (22, 17)] rfl
set_option maxRecDepth 100000 in
set_option maxHeartbeats 4000000 in
theorem mL_X4_mends_5 : ∀ w ∈ wsX4_mends_r6, w ∈ wsL_law := mem_c _ [(22, 18), (22, 19), (22, 20), (22, 21), (22, 22), (22, 23), (23, 0), (23, 1), (23, 2), (23, 3), (23, 4), (23, 5), (23, 6), (23, 7), (23, 8), (23, 9)] rfl
set_option maxRecDepth 100000 in
set_option maxHeartbeats 4000000 in
theorem ggL_law_X4_mends : GoodIn wsL_law wsX4_mends := goodIn_sub (fun w hw => by
  unfold wsX4_mends at hw
  rcases List.mem_cons.mp hw with hw | hw
  · exact mL_X4_mends_h w (List.mem_singleton.mpr hw)
  · repeat' first | exact mL_X4_mends_h w (List.mem_singleton.mpr hw) | exact mL_X4_mends_0 w hw | exact mL_X4_mends_1 w hw | exact mL_X4_mends_2 w hw | exact mL_X4_mends_3 w hw | exact mL_X4_mends_4 w hw | exact mL_X4_mends_5 w hw | exact lwC_in _ (List.mem_of_getElem? (i := 38) rfl) w hw | exact lwC_in _ (List.mem_of_getElem? (i := 42) rfl) w hw | exact lwC_in _ (List.mem_of_getElem? (i := 40) rfl) w hw | exact absurd hw List.not_mem_nil | (rcases List.mem_append.mp hw with hw | hw)) (by decide +kernel)
set_option maxRecDepth 100000 in
set_option maxHeartbeats 4000000 in
theorem mL_X5_mends_h : ∀ w ∈ ([.code yX5_mends cX5_mends 12 (some .int)] : List Cond), w ∈ wsL_law := mem_c _ [(35, 4)] rfl
set_option maxRecDepth 100000 in
set_option maxHeartbeats 4000000 in
theorem mL_X5_mends_0 : ∀ w ∈ wsX5_mends_r1, w ∈ wsL_law := mem_c _ [(5, 16), (4, 18), (6, 17), (6, 18), (0, 5), (6, 19), (29, 17), (29, 18), (29, 19), (29, 20), (19, 14), (19, 15), (19, 16), (19, 17), (21, 12), (21, 13), (21, 14), (35, 5), (35, 6), (35, 7), (35, 8), (35, 9), (35, 10), (35, 11)] rfl
set_option maxRecDepth 100000 in
set_option maxHeartbeats 4000000 in
theorem mL_X5_mends_1 : ∀ w ∈ wsX5_mends_r2, w ∈ wsL_law := mem_c _ [(35, 12), (26, 4), (26, 5), (26, 6), (26, 7), (5, 1), (5, 2), (5, 19), (23, 14), (25, 9), (25, 10), (25, 11), (30, 1), (30, 2), (30, 3), (30, 4), (4, 16), (18, 13), (18, 14), (18, 15), (18, 16), (18, 17), (18, 18), (18, 19)] rfl
set_option maxRecDepth 100000 in
set_option maxHeartbeats 4000000 in
theorem mL_X5_mends_2 : ∀ w ∈ wsX5_mends_r3, w ∈ wsL_law := mem_c _ [(18, 20), (23, 15), (23, 16), (23, 17), (23, 18), (5, 6), (23, 19), (23, 20), (23, 21), (23, 22), (21, 3), (23, 23), (21, 4), (21, 5), (21, 6), (21, 7), (5, 17), (4, 20), (21, 8), (21, 9), (21, 10), (21, 11), (21, 15), (21, 16)] rfl
set_option maxRecDepth 100000 in
set_option maxHeartbeats 4000000 in
theorem mL_X5_mends_3 : ∀ w ∈ wsX5_mends_r4, w ∈ wsL_law := mem_c _ [(21, 17), (21, 18), (24, 0), (24, 1), (24, 2), (24, 3), (24, 4), (24, 5), (24, 6), (24, 7), (26, 8), (26, 9), (26, 10), (26, 11)] rfl
set_option maxRecDepth 100000 in
set_option maxHeartbeats 4000000 in
theorem ggL_law_X5_mends : GoodIn wsL_law wsX5_mends := goodIn_sub (fun w hw => by
  unfold wsX5_mends at hw
  rcases List.mem_cons.mp hw with hw | hw
  · exact mL_X5_mends_h w (List.mem_singleton.mpr hw)
  · repeat' first | exact mL_X5_mends_h w (List.mem_singleton.mpr hw) | exact mL_X5_mends_0 w hw | exact mL_X5_mends_1 w hw | exact mL_X5_mends_2 w hw | exact mL_X5_mends_3 w hw | exact lwC_in _ (List.mem_of_getElem? (i := 39) rfl) w hw | exact absurd hw List.not_mem_nil | (rcases List.mem_append.mp hw with hw | hw)) (by decide +kernel)
set_option maxRecDepth 100000 in
set_option maxHeartbeats 4000000 in
theorem mL_X4_seen_h : ∀ w ∈ ([.code yX4_seen cX4_seen 4 (some .int)] : List Cond), w ∈ wsL_law := mem_c _ [(35, 16)] rfl
set_option maxRecDepth 100000 in
set_option maxHeartbeats 4000000 in
theorem mL_X4_seen_0 : ∀ w ∈ ([.fieldLink RX4 90 "NightPlots" "seenSoFar" "I", .fieldLink RX4 63 "NightPlots" "seenHouse" "[I", .fieldLink RX4 66 "NightPlots" "seenPlot" "[I", .fieldLink RX4 69 "NightPlots" "seenNight" "[I", .methodLink RX4 107 yX4_isHouse, .instanceMethod yX4_isHouse, .selects RX4 yX4_isHouse yX4_isHouse, .initialized RX4, .code yX4_isHouse cX4_isHouse 2 (some .boolean), .fieldLink RX4 12 "NightPlots" "told" "LNightPlots$Told;", .fieldLink RX4 206 "NightPlots$Told" "houses" "I", .methodLink RX4 96 yX4_isPlot, .instanceMethod yX4_isPlot, .selects RX4 yX4_isPlot yX4_isPlot, .code yX4_isPlot cX4_isPlot 2 (some .boolean), .fieldLink RX4 203 "NightPlots$Told" "plots" "I"] : List Cond), w ∈ wsL_law := mem_c _ [(16, 20), (1, 14), (1, 15), (1, 16), (19, 5), (19, 6), (19, 7), (0, 2), (19, 8), (0, 16), (19, 9), (17, 13), (17, 14), (17, 15), (17, 16), (17, 17)] rfl
set_option maxRecDepth 100000 in
set_option maxHeartbeats 4000000 in
theorem ggL_law_X4_seen : GoodIn wsL_law wsX4_seen := goodIn_sub (fun w hw => by
  unfold wsX4_seen at hw
  rcases List.mem_cons.mp hw with hw | hw
  · exact mL_X4_seen_h w (List.mem_singleton.mpr hw)
  · repeat' first | exact mL_X4_seen_h w (List.mem_singleton.mpr hw) | exact mL_X4_seen_0 w hw | exact lwC_in _ (List.mem_of_getElem? (i := 38) rfl) w hw | exact lwC_in _ (List.mem_of_getElem? (i := 40) rfl) w hw | exact absurd hw List.not_mem_nil | (rcases List.mem_append.mp hw with hw | hw)) (by decide +kernel)
set_option maxRecDepth 100000 in
set_option maxHeartbeats 4000000 in
theorem mL_X5_seen_h : ∀ w ∈ ([.code yX5_seen cX5_seen 4 (some .int)] : List Cond), w ∈ wsL_law := mem_c _ [(35, 20)] rfl
set_option maxRecDepth 100000 in
set_option maxHeartbeats 4000000 in
theorem mL_X5_seen_0 : ∀ w ∈ ([.fieldLink RX5 212 "NightPlotsModel" "sights" "I", .fieldLink RX5 51 "NightPlotsModel" "sight" "[I", .methodLink RX5 239 yX5_isHouse, .instanceMethod yX5_isHouse, .selects RX5 yX5_isHouse yX5_isHouse, .initialized RX5, .code yX5_isHouse cX5_isHouse 2 (some .boolean), .fieldLink RX5 78 "NightPlotsModel" "houses" "I", .methodLink RX5 81 yX5_in, .static yX5_in, .code yX5_in cX5_in 3 (some .boolean), .methodLink RX5 219 yX5_isPlot, .instanceMethod yX5_isPlot, .selects RX5 yX5_isPlot yX5_isPlot, .code yX5_isPlot cX5_isPlot 2 (some .boolean), .fieldLink RX5 7 "NightPlotsModel" "plots" "I"] : List Cond), w ∈ wsL_law := mem_c _ [(17, 3), (5, 5), (19, 14), (19, 15), (19, 16), (0, 5), (19, 17), (5, 16), (6, 17), (6, 18), (6, 19), (18, 9), (18, 10), (18, 11), (18, 12), (4, 16)] rfl
set_option maxRecDepth 100000 in
set_option maxHeartbeats 4000000 in
theorem ggL_law_X5_seen : GoodIn wsL_law wsX5_seen := goodIn_sub (fun w hw => by
  unfold wsX5_seen at hw
  rcases List.mem_cons.mp hw with hw | hw
  · exact mL_X5_seen_h w (List.mem_singleton.mpr hw)
  · repeat' first | exact mL_X5_seen_h w (List.mem_singleton.mpr hw) | exact mL_X5_seen_0 w hw | exact lwC_in _ (List.mem_of_getElem? (i := 39) rfl) w hw | exact absurd hw List.not_mem_nil | (rcases List.mem_append.mp hw with hw | hw)) (by decide +kernel)
set_option maxRecDepth 100000 in
set_option maxHeartbeats 4000000 in
theorem mL_X4_forget_h : ∀ w ∈ ([.code yX4_forget cX4_forget 2 (some .int)] : List Cond), w ∈ wsL_law := mem_c _ [(36, 0)] rfl
set_option maxRecDepth 100000 in
set_option maxHeartbeats 4000000 in
theorem mL_X4_forget_0 : ∀ w ∈ ([.fieldLink RX4 90 "NightPlots" "seenSoFar" "I"] : List Cond), w ∈ wsL_law := mem_c _ [(16, 20)] rfl
set_option maxRecDepth 100000 in
set_option maxHeartbeats 4000000 in
theorem ggL_law_X4_forget : GoodIn wsL_law wsX4_forget := goodIn_sub (fun w hw => by
  unfold wsX4_forget at hw
  rcases List.mem_cons.mp hw with hw | hw
  · exact mL_X4_forget_h w (List.mem_singleton.mpr hw)
  · repeat' first | exact mL_X4_forget_h w (List.mem_singleton.mpr hw) | exact mL_X4_forget_0 w hw | exact lwC_in _ (List.mem_of_getElem? (i := 38) rfl) w hw | exact absurd hw List.not_mem_nil | (rcases List.mem_append.mp hw with hw | hw)) (by decide +kernel)
set_option maxRecDepth 100000 in
set_option maxHeartbeats 4000000 in
theorem mL_X5_forget_h : ∀ w ∈ ([.code yX5_forget cX5_forget 2 (some .int)] : List Cond), w ∈ wsL_law := mem_c _ [(36, 4)] rfl
set_option maxRecDepth 100000 in
set_option maxHeartbeats 4000000 in
theorem mL_X5_forget_0 : ∀ w ∈ ([.fieldLink RX5 212 "NightPlotsModel" "sights" "I"] : List Cond), w ∈ wsL_law := mem_c _ [(17, 3)] rfl
set_option maxRecDepth 100000 in
set_option maxHeartbeats 4000000 in
theorem ggL_law_X5_forget : GoodIn wsL_law wsX5_forget := goodIn_sub (fun w hw => by
  unfold wsX5_forget at hw
  rcases List.mem_cons.mp hw with hw | hw
  · exact mL_X5_forget_h w (List.mem_singleton.mpr hw)
  · repeat' first | exact mL_X5_forget_h w (List.mem_singleton.mpr hw) | exact mL_X5_forget_0 w hw | exact lwC_in _ (List.mem_of_getElem? (i := 39) rfl) w hw | exact absurd hw List.not_mem_nil | (rcases List.mem_append.mp hw with hw | hw)) (by decide +kernel)
set_option maxRecDepth 100000 in
set_option maxHeartbeats 4000000 in
theorem mL_X4_laws_h : ∀ w ∈ ([.code yX4_laws cX4_laws 3 (some .int)] : List Cond), w ∈ wsL_law := mem_c _ [(36, 8)] rfl
set_option maxRecDepth 100000 in
set_option maxHeartbeats 4000000 in
theorem mL_X4_laws_0 : ∀ w ∈ wsX4_laws_r1, w ∈ wsL_law := mem_c _ [(36, 9), (36, 10), (36, 11), (0, 2), (36, 12), (1, 2), (16, 22), (3, 12), (3, 13), (1, 0), (3, 14), (3, 10), (3, 15), (3, 7), (3, 16), (3, 17), (3, 18), (3, 19), (3, 8), (3, 20), (3, 21), (3, 22), (3, 23), (4, 0)] rfl
set_option maxRecDepth 100000 in
set_option maxHeartbeats 4000000 in
theorem mL_X4_laws_1 : ∀ w ∈ wsX4_laws_r2, w ∈ wsL_law := mem_c _ [(4, 1), (4, 2), (4, 3), (2, 13), (2, 14), (2, 15), (36, 13), (36, 14), (36, 15), (36, 16), (16, 20), (1, 16), (19, 2), (1, 14), (1, 15), (22, 8), (22, 9), (22, 10), (22, 11), (22, 12), (22, 13), (22, 14), (22, 15), (17, 22)] rfl
set_option maxRecDepth 100000 in
set_option maxHeartbeats 4000000 in
theorem mL_X4_laws_2 : ∀ w ∈ wsX4_laws_r3, w ∈ wsL_law := mem_c _ [(3, 9), (22, 16), (20, 2), (20, 3), (20, 4), (18, 3), (20, 5), (11, 21), (11, 22), (0, 15), (11, 23), (2, 8), (20, 6), (20, 7), (20, 8), (20, 9), (20, 10), (20, 11), (20, 12), (20, 13), (20, 14), (20, 15), (20, 16), (20, 17)] rfl
set_option maxRecDepth 100000 in
set_option maxHeartbeats 4000000 in
theorem mL_X4_laws_3 : ∀ w ∈ wsX4_laws_r4, w ∈ wsL_law := mem_c _ [(20, 18), (20, 19), (20, 20), (20, 21), (20, 22), (2, 0), (2, 1), (22, 17), (22, 18), (22, 19), (22, 20), (22, 21), (22, 22), (22, 23), (23, 0), (23, 1), (23, 2), (23, 3), (23, 4), (23, 5), (23, 6), (23, 7), (23, 8), (23, 9)] rfl
set_option maxRecDepth 100000 in
set_option maxHeartbeats 4000000 in
theorem mL_X4_laws_4 : ∀ w ∈ wsX4_laws_r5, w ∈ wsL_law := mem_c _ [(18, 4), (11, 17), (11, 18), (11, 19), (11, 20)] rfl
set_option maxRecDepth 100000 in
set_option maxHeartbeats 4000000 in
theorem ggL_law_X4_laws : GoodIn wsL_law wsX4_laws := goodIn_sub (fun w hw => by
  unfold wsX4_laws at hw
  rcases List.mem_cons.mp hw with hw | hw
  · exact mL_X4_laws_h w (List.mem_singleton.mpr hw)
  · repeat' first | exact mL_X4_laws_h w (List.mem_singleton.mpr hw) | exact mL_X4_laws_0 w hw | exact mL_X4_laws_1 w hw | exact mL_X4_laws_2 w hw | exact mL_X4_laws_3 w hw | exact mL_X4_laws_4 w hw | exact lwC_in _ (List.mem_of_getElem? (i := 38) rfl) w hw | exact lwC_in _ (List.mem_of_getElem? (i := 42) rfl) w hw | exact lwC_in _ (List.mem_of_getElem? (i := 40) rfl) w hw | exact absurd hw List.not_mem_nil | (rcases List.mem_append.mp hw with hw | hw)) (by decide +kernel)
set_option maxRecDepth 100000 in
set_option maxHeartbeats 4000000 in
theorem mL_X5_laws_h : ∀ w ∈ ([.code yX5_laws cX5_laws 6 (some .int)] : List Cond), w ∈ wsL_law := mem_c _ [(36, 20)] rfl
set_option maxRecDepth 100000 in
set_option maxHeartbeats 4000000 in
theorem mL_X5_laws_0 : ∀ w ∈ wsX5_laws_r1, w ∈ wsL_law := mem_c _ [(23, 14), (17, 3), (5, 5), (5, 1), (26, 4), (26, 5), (26, 6), (0, 5), (26, 7), (5, 2), (5, 19), (25, 9), (25, 10), (25, 11), (5, 20), (5, 21), (5, 22), (5, 23), (4, 19), (4, 22), (23, 15), (23, 16), (23, 17), (23, 18)] rfl
set_option maxRecDepth 100000 in
set_option maxHeartbeats 4000000 in
theorem mL_X5_laws_1 : ∀ w ∈ wsX5_laws_r2, w ∈ wsL_law := mem_c _ [(5, 6), (5, 16), (23, 19), (23, 20), (23, 21), (23, 22), (21, 3), (23, 23), (21, 4), (21, 5), (21, 6), (21, 7), (4, 18), (5, 17), (4, 20), (21, 8), (21, 9), (21, 10), (21, 11), (18, 17), (18, 18), (18, 19), (18, 20), (4, 16)] rfl
set_option maxRecDepth 100000 in
set_option maxHeartbeats 4000000 in
theorem mL_X5_laws_2 : ∀ w ∈ wsX5_laws_r3, w ∈ wsL_law := mem_c _ [(21, 12), (21, 13), (21, 14), (21, 15), (21, 16), (21, 17), (21, 18), (24, 0), (24, 1), (24, 2), (24, 3), (24, 4), (24, 5), (24, 6), (24, 7), (26, 8), (26, 9), (26, 10), (26, 11)] rfl
set_option maxRecDepth 100000 in
set_option maxHeartbeats 4000000 in
theorem ggL_law_X5_laws : GoodIn wsL_law wsX5_laws := goodIn_sub (fun w hw => by
  unfold wsX5_laws at hw
  rcases List.mem_cons.mp hw with hw | hw
  · exact mL_X5_laws_h w (List.mem_singleton.mpr hw)
  · repeat' first | exact mL_X5_laws_h w (List.mem_singleton.mpr hw) | exact mL_X5_laws_0 w hw | exact mL_X5_laws_1 w hw | exact mL_X5_laws_2 w hw | exact lwC_in _ (List.mem_of_getElem? (i := 39) rfl) w hw | exact absurd hw List.not_mem_nil | (rcases List.mem_append.mp hw with hw | hw)) (by decide +kernel)
set_option maxRecDepth 100000 in
set_option maxHeartbeats 4000000 in
theorem mL_X4_count_h : ∀ w ∈ ([.code yX4_count cX4_count 2 (some .int)] : List Cond), w ∈ wsL_law := mem_c _ [(37, 0)] rfl
set_option maxRecDepth 100000 in
set_option maxHeartbeats 4000000 in
theorem mL_X4_count_0 : ∀ w ∈ ([.fieldLink RX4 12 "NightPlots" "told" "LNightPlots$Told;", .fieldLink RX4 203 "NightPlots$Told" "plots" "I", .fieldLink RX4 206 "NightPlots$Told" "houses" "I", .fieldLink RX4 209 "NightPlots$Told" "paths" "I", .fieldLink RX4 212 "NightPlots$Told" "feuds" "I", .fieldLink RX4 130 "NightPlots$Told" "law" "I", .fieldLink RX4 31 "NightPlots" "now" "LNightPlots$Standing;", .fieldLink RX4 119 "NightPlots$Standing" "nights" "I", .fieldLink RX4 215 "NightPlots$Standing" "turn" "I", .fieldLink RX4 218 "NightPlots$Standing" "x" "I", .fieldLink RX4 90 "NightPlots" "seenSoFar" "I", .fieldLink RX4 224 "NightPlots$Standing" "taken" "I", .fieldLink RX4 22 "NightPlots" "text" "LNightPlots$Text;", .fieldLink RX4 76 "NightPlots$Text" "length" "I", .methodLink RX4 221 yX3_allPlots, .instanceMethod yX3_allPlots, .selects RX3 yX3_allPlots yX3_allPlots, .initialized RX3, .code yX3_allPlots cX3_allPlots 1 (some .int), .fieldLink RX3 37 "NightPlots$Told" "plots" "I"] : List Cond), w ∈ wsL_law := mem_c _ [(0, 16), (17, 17), (19, 9), (37, 1), (37, 2), (22, 7), (1, 1), (19, 4), (37, 3), (37, 4), (16, 20), (37, 5), (0, 21), (6, 4), (37, 6), (12, 1), (12, 2), (0, 15), (12, 3), (2, 8)] rfl
set_option maxRecDepth 100000 in
set_option maxHeartbeats 4000000 in
theorem ggL_law_X4_count : GoodIn wsL_law wsX4_count := goodIn_sub (fun w hw => by
  unfold wsX4_count at hw
  rcases List.mem_cons.mp hw with hw | hw
  · exact mL_X4_count_h w (List.mem_singleton.mpr hw)
  · repeat' first | exact mL_X4_count_h w (List.mem_singleton.mpr hw) | exact mL_X4_count_0 w hw | exact lwC_in _ (List.mem_of_getElem? (i := 38) rfl) w hw | exact lwC_in _ (List.mem_of_getElem? (i := 40) rfl) w hw | exact lwC_in _ (List.mem_of_getElem? (i := 42) rfl) w hw | exact lwC_in _ (List.mem_of_getElem? (i := 41) rfl) w hw | exact absurd hw List.not_mem_nil | (rcases List.mem_append.mp hw with hw | hw)) (by decide +kernel)
set_option maxRecDepth 100000 in
set_option maxHeartbeats 4000000 in
theorem mL_X5_count_h : ∀ w ∈ ([.code yX5_count cX5_count 2 (some .int)] : List Cond), w ∈ wsL_law := mem_c _ [(37, 10)] rfl
set_option maxRecDepth 100000 in
set_option maxHeartbeats 4000000 in
theorem mL_X5_count_0 : ∀ w ∈ ([.fieldLink RX5 7 "NightPlotsModel" "plots" "I", .fieldLink RX5 78 "NightPlotsModel" "houses" "I", .fieldLink RX5 85 "NightPlotsModel" "paths" "I", .fieldLink RX5 88 "NightPlotsModel" "feuds" "I", .fieldLink RX5 91 "NightPlotsModel" "law" "I", .fieldLink RX5 38 "NightPlotsModel" "now" "[I", .fieldLink RX5 212 "NightPlotsModel" "sights" "I", .fieldLink RX5 94 "NightPlotsModel" "bytes" "I", .methodLink RX5 228 yX5_full, .instanceMethod yX5_full, .selects RX5 yX5_full yX5_full, .initialized RX5, .code yX5_full cX5_full 3 (some .int), .fieldLink RX5 17 "NightPlotsModel" "kind" "[I", .methodLink RX5 215 yX5_next, .instanceMethod yX5_next, .selects RX5 yX5_next yX5_next, .code yX5_next cX5_next 3 (some .int)] : List Cond), w ∈ wsL_law := mem_c _ [(4, 16), (5, 16), (5, 17), (5, 18), (5, 19), (5, 1), (17, 3), (6, 15), (21, 8), (21, 9), (21, 10), (0, 5), (21, 11), (4, 18), (18, 17), (18, 18), (18, 19), (18, 20)] rfl
set_option maxRecDepth 100000 in
set_option maxHeartbeats 4000000 in
theorem ggL_law_X5_count : GoodIn wsL_law wsX5_count := goodIn_sub (fun w hw => by
  unfold wsX5_count at hw
  rcases List.mem_cons.mp hw with hw | hw
  · exact mL_X5_count_h w (List.mem_singleton.mpr hw)
  · repeat' first | exact mL_X5_count_h w (List.mem_singleton.mpr hw) | exact mL_X5_count_0 w hw | exact lwC_in _ (List.mem_of_getElem? (i := 39) rfl) w hw | exact absurd hw List.not_mem_nil | (rcases List.mem_append.mp hw with hw | hw)) (by decide +kernel)
