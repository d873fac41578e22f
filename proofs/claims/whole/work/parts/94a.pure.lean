/-! the law's words in the tables, by pieces -/
def tbC : List (List Cond) := [k2_sels lw_privs, tables_1_1, tables_1_2, tables_1_3, tables_1_4, tables_1_5]
theorem tbC_in : ∀ c ∈ tbC, ∀ w ∈ c, w ∈ lw_tbl := by
  have e : lw_tbl = tbC.flatten := by
    simp only [lw_tbl, tables_1, tbC, List.flatten_cons, List.flatten_nil, List.append_assoc, List.append_nil]
  intro c hc w hw
  rw [e]
  exact List.mem_flatten.mpr ⟨c, hc, hw⟩
theorem mem_t (ws : List Cond) (ps : List (Nat × Nat)) (hp : ws = ps.filterMap (fun i => tbC[i.1]?.bind (fun c => c[i.2]?))) : ∀ w ∈ ws, w ∈ lw_tbl := by
  intro w hw
  rw [hp] at hw
  obtain ⟨i, -, hi⟩ := List.mem_filterMap.mp hw
  obtain ⟨c, h1, h2⟩ := Option.bind_eq_some_iff.mp hi
  exact tbC_in c (List.mem_of_getElem? h1) w (List.mem_of_getElem? h2)
set_option maxRecDepth 100000 in
set_option maxHeartbeats 4000000 in
theorem tL_wsL_law_r1 : ∀ w ∈ wsL_law_r1, w ∈ lw_tbl := mem_t _ [(1, 14), (1, 15), (1, 1), (3, 231), (3, 232), (1, 8), (5, 163), (1, 16), (1, 17), (1, 18), (1, 19), (1, 20), (1, 21), (1, 22), (1, 23), (1, 2), (1, 223), (1, 224), (1, 105), (1, 106), (1, 4), (1, 225), (1, 129), (1, 130)] rfl
set_option maxRecDepth 100000 in
set_option maxHeartbeats 4000000 in
theorem tL_wsL_law_r2 : ∀ w ∈ wsL_law_r2, w ∈ lw_tbl := mem_t _ [(1, 5), (1, 226), (1, 227), (1, 228), (1, 221), (1, 229), (1, 193), (1, 194), (1, 7), (1, 230), (1, 104), (1, 231), (1, 222), (1, 232), (1, 233), (1, 234), (1, 235), (1, 24), (1, 25), (1, 26), (1, 27), (1, 62), (1, 66), (1, 69)] rfl
set_option maxRecDepth 100000 in
set_option maxHeartbeats 4000000 in
theorem tL_wsL_law_r3 : ∀ w ∈ wsL_law_r3, w ∈ lw_tbl := mem_t _ [(1, 71), (1, 72), (1, 73), (1, 75), (1, 28), (1, 29), (1, 30), (1, 31), (1, 39), (1, 48), (1, 56), (1, 59), (1, 32), (1, 33), (1, 3), (1, 34), (1, 35), (1, 36), (1, 37), (1, 38), (1, 43), (1, 52), (1, 108), (1, 109)] rfl
set_option maxRecDepth 100000 in
set_option maxHeartbeats 4000000 in
theorem tL_wsL_law_r4 : ∀ w ∈ wsL_law_r4, w ∈ lw_tbl := mem_t _ [(1, 110), (1, 111), (1, 131), (1, 132), (1, 133), (1, 134), (1, 157), (1, 160), (1, 162), (1, 155), (1, 135), (1, 136), (1, 137), (1, 138), (1, 70), (1, 139), (1, 141), (1, 140), (1, 6), (1, 163), (1, 165), (1, 167), (1, 60), (1, 169)] rfl
set_option maxRecDepth 100000 in
set_option maxHeartbeats 4000000 in
theorem tL_wsL_law_r5 : ∀ w ∈ wsL_law_r5, w ∈ lw_tbl := mem_t _ [(1, 171), (1, 142), (1, 143), (1, 144), (1, 145), (1, 146), (1, 147), (1, 148), (1, 149), (1, 150), (1, 151), (1, 152), (1, 153), (1, 154), (1, 195), (1, 196), (1, 197), (1, 198), (1, 199), (1, 202), (1, 203), (1, 201), (3, 233), (3, 234)] rfl
set_option maxRecDepth 100000 in
set_option maxHeartbeats 4000000 in
theorem tL_wsL_law_r6 : ∀ w ∈ wsL_law_r6, w ∈ lw_tbl := mem_t _ [(3, 235), (3, 236), (4, 5), (4, 6), (4, 8), (4, 9), (4, 11), (4, 13), (4, 15), (4, 17), (4, 30), (4, 31), (4, 32), (4, 33), (4, 34), (4, 36), (4, 38), (4, 40), (4, 41), (4, 42), (4, 43), (4, 44), (3, 237), (3, 239)] rfl
set_option maxRecDepth 100000 in
set_option maxHeartbeats 4000000 in
theorem tL_wsL_law_r7 : ∀ w ∈ wsL_law_r7, w ∈ lw_tbl := mem_t _ [(0, 32), (4, 0), (4, 7), (4, 10), (4, 12), (4, 14), (4, 1), (4, 3), (0, 33), (4, 4), (2, 26), (2, 27), (2, 28), (2, 29), (1, 113), (2, 30), (2, 31), (2, 32), (2, 33), (1, 112), (2, 34), (4, 126), (4, 127), (4, 128)] rfl
set_option maxRecDepth 100000 in
set_option maxHeartbeats 4000000 in
theorem tL_wsL_law_r8 : ∀ w ∈ wsL_law_r8, w ∈ lw_tbl := mem_t _ [(4, 129), (4, 16), (4, 133), (4, 130), (4, 131), (4, 132), (2, 35), (2, 36), (2, 37), (2, 38), (4, 134), (4, 135), (4, 136), (4, 137), (2, 39), (2, 40), (2, 41), (2, 42), (2, 43), (2, 44), (2, 45), (2, 46), (2, 47), (2, 48)] rfl
set_option maxRecDepth 100000 in
set_option maxHeartbeats 4000000 in
theorem tL_wsL_law_r9 : ∀ w ∈ wsL_law_r9, w ∈ lw_tbl := mem_t _ [(2, 49), (2, 50), (2, 51), (1, 117), (1, 114), (1, 116), (2, 52), (2, 54), (0, 0), (2, 55), (2, 56), (2, 58), (0, 1), (2, 59), (2, 60), (2, 61), (2, 62), (2, 63), (2, 64), (2, 65), (2, 66), (2, 68), (0, 2), (2, 69)] rfl
set_option maxRecDepth 100000 in
set_option maxHeartbeats 4000000 in
theorem tL_wsL_law_r10 : ∀ w ∈ wsL_law_r10, w ∈ lw_tbl := mem_t _ [(2, 71), (2, 73), (0, 3), (2, 74), (2, 75), (2, 76), (2, 77), (1, 9), (2, 78), (5, 164), (2, 79), (2, 80), (2, 81), (2, 82), (2, 83), (5, 165), (2, 85), (2, 86), (2, 87), (2, 88), (2, 89), (2, 90), (2, 91), (2, 92)] rfl
set_option maxRecDepth 100000 in
set_option maxHeartbeats 4000000 in
theorem tL_wsL_law_r11 : ∀ w ∈ wsL_law_r11, w ∈ lw_tbl := mem_t _ [(2, 93), (2, 94), (1, 10), (2, 95), (2, 96), (2, 97), (2, 98), (2, 99), (2, 101), (2, 102), (1, 11), (2, 103), (2, 104), (2, 105), (1, 12), (2, 106), (2, 107), (2, 108), (2, 109), (2, 110), (2, 111), (2, 112), (2, 113), (2, 114)] rfl
set_option maxRecDepth 100000 in
set_option maxHeartbeats 4000000 in
theorem tL_wsL_law_r12 : ∀ w ∈ wsL_law_r12, w ∈ lw_tbl := mem_t _ [(2, 115), (2, 116), (2, 117), (2, 119), (2, 121), (2, 123), (2, 125), (0, 4), (2, 126), (2, 127), (2, 129), (0, 5), (2, 130), (2, 131), (2, 133), (2, 135), (0, 6), (2, 136), (1, 40), (1, 63), (2, 137), (2, 139), (0, 7), (2, 140)] rfl
set_option maxRecDepth 100000 in
set_option maxHeartbeats 4000000 in
theorem tL_wsL_law_r13 : ∀ w ∈ wsL_law_r13, w ∈ lw_tbl := mem_t _ [(2, 145), (2, 147), (0, 8), (2, 148), (1, 46), (2, 149), (2, 150), (2, 151), (2, 152), (2, 153), (2, 154), (2, 155), (2, 156), (2, 157), (2, 159), (2, 161), (0, 9), (2, 162), (1, 49), (2, 163), (2, 164), (2, 165), (2, 166), (2, 168)] rfl
set_option maxRecDepth 100000 in
set_option maxHeartbeats 4000000 in
theorem tL_wsL_law_r14 : ∀ w ∈ wsL_law_r14, w ∈ lw_tbl := mem_t _ [(2, 170), (0, 10), (2, 171), (1, 53), (2, 172), (2, 173), (2, 174), (2, 175), (2, 177), (2, 179), (0, 11), (2, 180), (1, 57), (1, 61), (2, 182), (2, 183), (2, 185), (0, 12), (2, 186), (2, 187), (2, 189), (0, 13), (2, 190), (4, 138)] rfl
set_option maxRecDepth 100000 in
set_option maxHeartbeats 4000000 in
theorem tL_wsL_law_r15 : ∀ w ∈ wsL_law_r15, w ∈ lw_tbl := mem_t _ [(4, 139), (4, 140), (4, 141), (4, 23), (4, 142), (4, 144), (0, 34), (4, 145), (4, 18), (4, 24), (4, 25), (4, 26), (4, 28), (4, 29), (4, 27), (4, 20), (4, 159), (4, 154), (4, 146), (4, 148), (0, 35), (4, 149), (4, 160), (4, 161)] rfl
set_option maxRecDepth 100000 in
set_option maxHeartbeats 4000000 in
theorem tL_wsL_law_r16 : ∀ w ∈ wsL_law_r16, w ∈ lw_tbl := mem_t _ [(4, 162), (4, 163), (4, 164), (4, 165), (4, 166), (4, 167), (4, 168), (4, 169), (4, 170), (4, 171), (4, 172), (4, 150), (4, 152), (0, 36), (4, 153), (4, 19), (4, 21), (4, 22), (4, 155), (4, 156), (4, 157), (4, 158), (4, 173), (4, 175)] rfl
set_option maxRecDepth 100000 in
set_option maxHeartbeats 4000000 in
theorem tL_wsL_law_r17 : ∀ w ∈ wsL_law_r17, w ∈ lw_tbl := mem_t _ [(0, 37), (4, 176), (4, 177), (4, 179), (0, 38), (4, 180), (4, 181), (4, 183), (0, 39), (4, 184), (4, 185), (4, 187), (0, 40), (4, 188), (4, 189), (4, 191), (0, 41), (4, 192), (4, 193), (4, 195), (0, 42), (4, 196), (4, 197), (4, 199)] rfl
set_option maxRecDepth 100000 in
set_option maxHeartbeats 4000000 in
theorem tL_wsL_law_r18 : ∀ w ∈ wsL_law_r18, w ∈ lw_tbl := mem_t _ [(0, 43), (4, 200), (2, 195), (2, 196), (2, 197), (2, 198), (1, 236), (1, 115), (2, 199), (4, 201), (4, 202), (4, 203), (4, 204), (4, 35), (4, 205), (4, 207), (0, 44), (4, 208), (2, 200), (2, 201), (2, 202), (2, 203), (1, 64), (2, 204)] rfl
set_option maxRecDepth 100000 in
set_option maxHeartbeats 4000000 in
theorem tL_wsL_law_r19 : ∀ w ∈ wsL_law_r19, w ∈ lw_tbl := mem_t _ [(2, 206), (0, 14), (2, 207), (1, 42), (2, 208), (2, 209), (2, 210), (2, 211), (1, 45), (2, 212), (2, 213), (2, 214), (2, 215), (1, 67), (2, 216), (4, 209), (4, 210), (4, 211), (4, 212), (4, 213), (4, 215), (0, 45), (4, 216), (4, 217)] rfl
set_option maxRecDepth 100000 in
set_option maxHeartbeats 4000000 in
theorem tL_wsL_law_r20 : ∀ w ∈ wsL_law_r20, w ∈ lw_tbl := mem_t _ [(4, 219), (0, 46), (4, 220), (4, 221), (4, 223), (0, 47), (4, 224), (2, 217), (2, 218), (2, 219), (2, 220), (1, 68), (1, 159), (1, 161), (1, 166), (2, 221), (2, 223), (0, 15), (2, 224), (1, 47), (4, 225), (4, 226), (4, 227), (4, 228)] rfl
set_option maxRecDepth 100000 in
set_option maxHeartbeats 4000000 in
theorem tL_wsL_law_r21 : ∀ w ∈ wsL_law_r21, w ∈ lw_tbl := mem_t _ [(4, 229), (4, 231), (0, 48), (4, 232), (2, 225), (2, 226), (2, 227), (2, 228), (2, 229), (2, 230), (2, 231), (2, 232), (2, 233), (2, 234), (2, 235), (2, 236), (2, 237), (2, 238), (2, 239), (3, 0), (3, 1), (3, 2), (3, 3), (3, 4)] rfl
set_option maxRecDepth 100000 in
set_option maxHeartbeats 4000000 in
theorem tL_wsL_law_r22 : ∀ w ∈ wsL_law_r22, w ∈ lw_tbl := mem_t _ [(3, 5), (3, 7), (0, 16), (3, 8), (1, 50), (3, 9), (3, 10), (3, 11), (3, 12), (4, 233), (4, 234), (4, 235), (4, 236), (4, 37), (4, 237), (4, 239), (0, 49), (5, 0), (5, 1), (5, 3), (0, 50), (5, 4), (5, 5), (5, 6)] rfl
set_option maxRecDepth 100000 in
set_option maxHeartbeats 4000000 in
theorem tL_wsL_law_r23 : ∀ w ∈ wsL_law_r23, w ∈ lw_tbl := mem_t _ [(5, 7), (5, 8), (5, 10), (0, 51), (5, 11), (3, 13), (3, 14), (3, 15), (3, 16), (5, 12), (5, 13), (5, 14), (5, 15), (3, 17), (3, 18), (3, 19), (3, 20), (1, 58), (3, 21), (3, 22), (3, 23), (3, 24), (3, 25), (3, 27)] rfl
set_option maxRecDepth 100000 in
set_option maxHeartbeats 4000000 in
theorem tL_wsL_law_r24 : ∀ w ∈ wsL_law_r24, w ∈ lw_tbl := mem_t _ [(0, 17), (3, 28), (3, 30), (3, 29), (3, 31), (3, 33), (0, 18), (3, 34), (3, 35), (3, 36), (3, 37), (3, 38), (3, 39), (3, 40), (3, 41), (3, 42), (3, 43), (3, 45), (0, 19), (3, 46), (3, 47), (3, 49), (0, 20), (3, 50)] rfl
set_option maxRecDepth 100000 in
set_option maxHeartbeats 4000000 in
theorem tL_wsL_law_r25 : ∀ w ∈ wsL_law_r25, w ∈ lw_tbl := mem_t _ [(3, 51), (3, 53), (0, 21), (3, 54), (5, 16), (5, 17), (5, 18), (5, 19), (4, 39), (5, 20), (5, 22), (0, 52), (5, 23), (5, 24), (5, 26), (0, 53), (5, 27), (5, 28), (5, 29), (5, 31), (0, 54), (5, 32), (5, 33), (5, 35)] rfl
set_option maxRecDepth 100000 in
set_option maxHeartbeats 4000000 in
theorem tL_wsL_law_r26 : ∀ w ∈ wsL_law_r26, w ∈ lw_tbl := mem_t _ [(0, 55), (5, 36), (3, 55), (3, 56), (3, 57), (3, 58), (3, 59), (3, 60), (3, 61), (3, 62), (3, 63), (5, 37), (5, 38), (5, 39), (5, 40), (3, 64), (3, 65), (3, 66), (3, 67), (3, 68), (3, 69), (3, 70), (3, 71), (5, 41)] rfl
set_option maxRecDepth 100000 in
set_option maxHeartbeats 4000000 in
theorem tL_wsL_law_r27 : ∀ w ∈ wsL_law_r27, w ∈ lw_tbl := mem_t _ [(5, 42), (5, 43), (5, 44), (5, 45), (5, 46), (5, 47), (3, 72), (3, 73), (3, 74), (3, 75), (5, 48), (5, 49), (5, 50), (5, 51), (3, 76), (3, 77), (3, 78), (3, 79), (5, 52), (5, 53), (5, 54), (5, 55), (5, 56), (5, 58)] rfl
set_option maxRecDepth 100000 in
set_option maxHeartbeats 4000000 in
theorem tL_wsL_law_r28 : ∀ w ∈ wsL_law_r28, w ∈ lw_tbl := mem_t _ [(0, 56), (5, 59), (5, 60), (5, 62), (0, 57), (5, 63), (3, 80), (3, 81), (3, 82), (3, 83), (3, 84), (3, 85), (3, 86), (3, 87), (3, 88), (3, 89), (3, 90), (3, 91), (3, 92), (3, 94), (0, 22), (3, 95), (3, 96), (3, 98)] rfl
set_option maxRecDepth 100000 in
set_option maxHeartbeats 4000000 in
theorem tL_wsL_law_r29 : ∀ w ∈ wsL_law_r29, w ∈ lw_tbl := mem_t _ [(0, 23), (3, 99), (3, 100), (3, 102), (0, 24), (3, 103), (5, 64), (5, 65), (5, 66), (5, 67), (5, 68), (5, 70), (0, 58), (5, 71), (5, 72), (5, 74), (0, 59), (5, 75), (5, 76), (5, 78), (0, 60), (5, 79), (5, 80), (5, 82)] rfl
set_option maxRecDepth 100000 in
set_option maxHeartbeats 4000000 in
theorem tL_wsL_law_r30 : ∀ w ∈ wsL_law_r30, w ∈ lw_tbl := mem_t _ [(0, 61), (5, 83), (3, 104), (3, 105), (3, 106), (3, 107), (3, 108), (3, 110), (0, 25), (3, 111), (3, 112), (3, 113), (3, 114), (3, 115), (3, 116), (3, 117), (3, 118), (3, 119), (3, 120), (3, 121), (3, 122), (3, 123), (3, 124), (3, 126)] rfl
set_option maxRecDepth 100000 in
set_option maxHeartbeats 4000000 in
theorem tL_wsL_law_r31 : ∀ w ∈ wsL_law_r31, w ∈ lw_tbl := mem_t _ [(0, 26), (3, 127), (3, 128), (3, 129), (1, 13), (3, 130), (1, 41), (5, 84), (5, 85), (5, 86), (5, 87), (5, 88), (5, 90), (0, 62), (5, 91), (5, 92), (5, 94), (0, 63), (5, 95), (5, 96), (5, 98), (0, 64), (5, 99), (3, 131)] rfl
set_option maxRecDepth 100000 in
set_option maxHeartbeats 4000000 in
theorem tL_wsL_law_r32 : ∀ w ∈ wsL_law_r32, w ∈ lw_tbl := mem_t _ [(3, 132), (3, 133), (3, 134), (3, 135), (3, 137), (0, 27), (3, 138), (5, 100), (5, 101), (5, 102), (5, 103), (3, 139), (3, 140), (3, 141), (3, 142), (3, 143), (3, 144), (3, 145), (5, 104), (5, 105), (5, 106), (5, 107), (5, 108), (5, 109)] rfl
set_option maxRecDepth 100000 in
set_option maxHeartbeats 4000000 in
theorem tL_wsL_law_r33 : ∀ w ∈ wsL_law_r33, w ∈ lw_tbl := mem_t _ [(5, 110), (3, 146), (3, 147), (3, 148), (3, 149), (3, 150), (3, 151), (3, 152), (3, 153), (1, 65), (5, 111), (5, 112), (5, 113), (5, 114), (3, 154), (3, 155), (3, 156), (3, 157), (3, 158), (3, 159), (3, 160), (3, 161), (1, 54), (1, 74)] rfl
set_option maxRecDepth 100000 in
set_option maxHeartbeats 4000000 in
theorem tL_wsL_law_r34 : ∀ w ∈ wsL_law_r34, w ∈ lw_tbl := mem_t _ [(1, 76), (5, 115), (5, 116), (5, 117), (5, 118), (3, 162), (3, 163), (3, 164), (3, 165), (1, 207), (3, 166), (3, 167), (3, 168), (3, 169), (3, 170), (1, 204), (1, 205), (1, 206), (3, 171), (3, 172), (3, 173), (3, 175), (3, 176), (3, 178)] rfl
set_option maxRecDepth 100000 in
set_option maxHeartbeats 4000000 in
theorem tL_wsL_law_r35 : ∀ w ∈ wsL_law_r35, w ∈ lw_tbl := mem_t _ [(3, 179), (1, 44), (3, 177), (3, 180), (3, 182), (0, 28), (3, 183), (3, 184), (3, 185), (3, 186), (1, 158), (3, 187), (3, 188), (3, 189), (3, 190), (5, 119), (5, 120), (5, 121), (5, 122), (5, 123), (5, 125), (0, 65), (5, 126), (5, 127)] rfl
set_option maxRecDepth 100000 in
set_option maxHeartbeats 4000000 in
theorem tL_wsL_law_r36 : ∀ w ∈ wsL_law_r36, w ∈ lw_tbl := mem_t _ [(5, 129), (0, 66), (5, 130), (5, 131), (5, 133), (0, 67), (5, 134), (3, 191), (3, 192), (3, 193), (3, 194), (3, 195), (3, 196), (3, 197), (3, 198), (3, 199), (3, 200), (3, 201), (3, 202), (3, 204), (0, 29), (3, 205), (1, 172), (5, 135)] rfl
set_option maxRecDepth 100000 in
set_option maxHeartbeats 4000000 in
theorem tL_wsL_law_r37 : ∀ w ∈ wsL_law_r37, w ∈ lw_tbl := mem_t _ [(5, 136), (5, 137), (5, 138), (5, 139), (5, 141), (0, 68), (5, 142), (5, 143), (5, 145), (0, 69), (5, 146), (3, 206), (3, 207), (3, 208), (3, 209), (5, 147), (5, 148), (5, 149), (5, 150), (3, 210), (3, 211), (3, 212), (3, 213), (5, 151)] rfl
set_option maxRecDepth 100000 in
set_option maxHeartbeats 4000000 in
theorem tL_wsL_law_r38 : ∀ w ∈ wsL_law_r38, w ∈ lw_tbl := mem_t _ [(5, 152), (5, 153), (5, 154), (3, 214), (3, 215), (3, 216), (3, 217), (3, 218), (3, 220), (0, 30), (3, 221), (3, 222), (3, 224), (0, 31), (3, 225), (5, 155), (5, 156), (5, 157), (5, 158), (3, 226), (3, 227), (3, 228), (3, 229), (1, 51)] rfl
set_option maxRecDepth 100000 in
set_option maxHeartbeats 4000000 in
theorem tL_wsL_law_r39 : ∀ w ∈ wsL_law_r39, w ∈ lw_tbl := mem_t _ [(1, 55), (1, 168), (1, 170), (1, 164), (3, 230), (5, 159), (5, 160), (5, 161), (5, 162)] rfl
set_option maxRecDepth 100000 in
set_option maxHeartbeats 4000000 in
theorem tL_wsX40 : ∀ w ∈ wsX40, w ∈ lw_tbl := mem_t _ [(1, 237), (1, 239), (2, 1), (2, 3), (2, 5), (2, 7), (2, 9), (2, 11), (2, 13), (2, 15), (2, 17), (2, 19), (2, 21), (2, 23)] rfl
set_option maxRecDepth 100000 in
set_option maxHeartbeats 4000000 in
theorem tL_wsX50 : ∀ w ∈ wsX50, w ∈ lw_tbl := mem_t _ [(4, 45), (4, 47), (4, 49), (4, 51), (4, 53), (4, 55), (4, 57), (4, 59), (4, 61), (4, 63), (4, 65), (4, 67), (4, 69), (4, 71), (4, 73), (4, 75), (4, 77), (4, 79), (4, 81), (4, 83), (4, 85), (4, 87), (4, 89), (4, 91), (4, 93), (4, 95), (4, 97), (4, 99), (4, 101), (4, 103), (4, 105), (4, 107), (4, 109), (4, 111), (4, 113), (4, 115), (4, 117), (4, 119), (4, 121), (4, 123)] rfl
set_option maxRecDepth 100000 in
set_option maxHeartbeats 4000000 in
theorem tL_wsX30 : ∀ w ∈ wsX30, w ∈ lw_tbl := mem_t _ [(1, 77), (1, 79), (1, 81), (1, 83), (1, 85), (1, 87), (1, 89), (1, 91), (1, 93), (1, 95), (1, 97), (1, 99), (1, 101)] rfl
set_option maxRecDepth 100000 in
set_option maxHeartbeats 4000000 in
theorem tL_wsX20 : ∀ w ∈ wsX20, w ∈ lw_tbl := mem_t _ [(1, 118), (1, 120), (1, 122), (1, 124), (1, 126)] rfl
set_option maxRecDepth 100000 in
set_option maxHeartbeats 4000000 in
theorem tL_wsX10 : ∀ w ∈ wsX10, w ∈ lw_tbl := mem_t _ [(1, 173), (1, 175), (1, 177), (1, 179), (1, 181), (1, 183), (1, 185), (1, 187), (1, 189)] rfl
set_option maxRecDepth 100000 in
set_option maxHeartbeats 4000000 in
theorem tL_wsX00 : ∀ w ∈ wsX00, w ∈ lw_tbl := mem_t _ [(1, 208), (1, 210), (1, 212), (1, 214), (1, 216), (1, 218)] rfl
theorem lwC_t : ∀ c ∈ lwC, ∀ w ∈ c, w ∈ lw_tbl := List.forall_mem_cons.mpr ⟨tL_wsL_law_r1, List.forall_mem_cons.mpr ⟨tL_wsL_law_r2, List.forall_mem_cons.mpr ⟨tL_wsL_law_r3, List.forall_mem_cons.mpr ⟨tL_wsL_law_r4, List.forall_mem_cons.mpr ⟨tL_wsL_law_r5, List.forall_mem_cons.mpr ⟨tL_wsL_law_r6, List.forall_mem_cons.mpr ⟨tL_wsL_law_r7, List.forall_mem_cons.mpr ⟨tL_wsL_law_r8, List.forall_mem_cons.mpr ⟨tL_wsL_law_r9, List.forall_mem_cons.mpr ⟨tL_wsL_law_r10, List.forall_mem_cons.mpr ⟨tL_wsL_law_r11, List.forall_mem_cons.mpr ⟨tL_wsL_law_r12, List.forall_mem_cons.mpr ⟨tL_wsL_law_r13, List.forall_mem_cons.mpr ⟨tL_wsL_law_r14, List.forall_mem_cons.mpr ⟨tL_wsL_law_r15, List.forall_mem_cons.mpr ⟨tL_wsL_law_r16, List.forall_mem_cons.mpr ⟨tL_wsL_law_r17, List.forall_mem_cons.mpr ⟨tL_wsL_law_r18, List.forall_mem_cons.mpr ⟨tL_wsL_law_r19, List.forall_mem_cons.mpr ⟨tL_wsL_law_r20, List.forall_mem_cons.mpr ⟨tL_wsL_law_r21, List.forall_mem_cons.mpr ⟨tL_wsL_law_r22, List.forall_mem_cons.mpr ⟨tL_wsL_law_r23, List.forall_mem_cons.mpr ⟨tL_wsL_law_r24, List.forall_mem_cons.mpr ⟨tL_wsL_law_r25, List.forall_mem_cons.mpr ⟨tL_wsL_law_r26, List.forall_mem_cons.mpr ⟨tL_wsL_law_r27, List.forall_mem_cons.mpr ⟨tL_wsL_law_r28, List.forall_mem_cons.mpr ⟨tL_wsL_law_r29, List.forall_mem_cons.mpr ⟨tL_wsL_law_r30, List.forall_mem_cons.mpr ⟨tL_wsL_law_r31, List.forall_mem_cons.mpr ⟨tL_wsL_law_r32, List.forall_mem_cons.mpr ⟨tL_wsL_law_r33, List.forall_mem_cons.mpr ⟨tL_wsL_law_r34, List.forall_mem_cons.mpr ⟨tL_wsL_law_r35, List.forall_mem_cons.mpr ⟨tL_wsL_law_r36, List.forall_mem_cons.mpr ⟨tL_wsL_law_r37, List.forall_mem_cons.mpr ⟨tL_wsL_law_r38, List.forall_mem_cons.mpr ⟨tL_wsL_law_r39, List.forall_mem_cons.mpr ⟨tL_wsX40, List.forall_mem_cons.mpr ⟨tL_wsX50, List.forall_mem_cons.mpr ⟨tL_wsX30, List.forall_mem_cons.mpr ⟨tL_wsX20, List.forall_mem_cons.mpr ⟨tL_wsX10, List.forall_mem_cons.mpr ⟨tL_wsX00, fun _ h => absurd h List.not_mem_nil⟩⟩⟩⟩⟩⟩⟩⟩⟩⟩⟩⟩⟩⟩⟩⟩⟩⟩⟩⟩⟩⟩⟩⟩⟩⟩⟩⟩⟩⟩⟩⟩⟩⟩⟩⟩⟩⟩⟩⟩⟩⟩⟩⟩⟩
theorem wsL_law_in : ∀ w ∈ wsL_law, w ∈ lw_tbl := by
  have e : wsL_law = lwC.flatten := by
    simp only [wsL_law, lwC, List.flatten_cons, List.flatten_nil, List.append_assoc, List.append_nil]
  intro w hw
  rw [e] at hw
  obtain ⟨c, hc, hw⟩ := List.mem_flatten.mp hw
  exact lwC_t c hc w hw
