/-! the law's words in the tables, by pieces -/
def tbC : List (List Cond) := [k2_sels lw_privs, tables_1_1, tables_1_2, tables_1_3, tables_1_4, tables_1_5]
theorem tbC_in : ∀ c ∈ tbC, ∀ w ∈ c, w ∈ lw_tbl := by
  have e : lw_tbl = tbC.flatten := by
    simp only [lw_tbl, tables_1, tbC, List.flatten_cons, List.flatten_nil, List.append_assoc, List.append_nil]
  intro c hc w hw
  rw [e]
  exact List.mem_flatten.mpr ⟨c, hc, hw⟩
theorem mem_t (ws : List Cond) (ps : List (Nat × Nat)) (hp : ws = ps.filterMap (fun i => tbC[i.1]?.bind (fun c => c[i.2]?))) : ∀ w ∈ ws, w ∈ lw_tbl := by
  intro w hw
  rw [hp] at hw
  obtain ⟨i, -, hi⟩ := List.mem_filterMap.mp hw
  obtain ⟨c, h1, h2⟩ := Option.bind_eq_some_iff.mp hi
  exact tbC_in c (List.mem_of_getElem? h1) w (List.mem_of_getElem? h2)
set_option maxRecDepth 100000 in
set_option maxHeartbeats 4000000 in
theorem tL_wsL_law_r1 : ∀ w ∈ wsL_law_r1, w ∈ lw_tbl := mem_t _ [(1, 14), (1, 15), (1, 1), (3, 211), (3, 212), (1, 8), (5, 143), (1, 16), (1, 17), (1, 18), (1, 19), (1, 20), (1, 21), (1, 22), (1, 23), (1, 2), (1, 215), (1, 216), (1, 109), (1, 110), (1, 4), (1, 217), (1, 133), (1, 134)] rfl
set_option maxRecDepth 100000 in
set_option maxHeartbeats 4000000 in
theorem tL_wsL_law_r2 : ∀ w ∈ wsL_law_r2, w ∈ lw_tbl := mem_t _ [(1, 5), (1, 218), (1, 219), (1, 220), (1, 213), (1, 221), (1, 185), (1, 186), (1, 7), (1, 222), (1, 108), (1, 223), (1, 214), (1, 224), (1, 225), (1, 226), (1, 227), (1, 24), (1, 25), (1, 26), (1, 27), (1, 64), (1, 68), (1, 71)] rfl
set_option maxRecDepth 100000 in
set_option maxHeartbeats 4000000 in
theorem tL_wsL_law_r3 : ∀ w ∈ wsL_law_r3, w ∈ lw_tbl := mem_t _ [(1, 73), (1, 74), (1, 75), (1, 77), (1, 28), (1, 29), (1, 30), (1, 31), (1, 39), (1, 48), (1, 56), (1, 59), (1, 32), (1, 33), (1, 3), (1, 34), (1, 35), (1, 36), (1, 37), (1, 38), (1, 43), (1, 52), (1, 63), (1, 112)] rfl
set_option maxRecDepth 100000 in
set_option maxHeartbeats 4000000 in
theorem tL_wsL_law_r4 : ∀ w ∈ wsL_law_r4, w ∈ lw_tbl := mem_t _ [(1, 113), (1, 114), (1, 115), (1, 135), (1, 136), (1, 137), (1, 138), (1, 149), (1, 152), (1, 154), (1, 147), (1, 139), (1, 140), (1, 141), (1, 142), (1, 72), (1, 143), (1, 145), (1, 144), (1, 6), (1, 62), (1, 155), (1, 157), (1, 159)] rfl
set_option maxRecDepth 100000 in
set_option maxHeartbeats 4000000 in
theorem tL_wsL_law_r5 : ∀ w ∈ wsL_law_r5, w ∈ lw_tbl := mem_t _ [(1, 60), (1, 161), (1, 163), (1, 146), (1, 187), (1, 188), (1, 189), (1, 190), (1, 191), (1, 194), (1, 195), (1, 193), (3, 213), (3, 214), (3, 215), (3, 216), (3, 225), (3, 226), (3, 228), (3, 229), (3, 231), (3, 233), (3, 235), (3, 237)] rfl
set_option maxRecDepth 100000 in
set_option maxHeartbeats 4000000 in
theorem tL_wsL_law_r6 : ∀ w ∈ wsL_law_r6, w ∈ lw_tbl := mem_t _ [(4, 10), (4, 11), (4, 12), (4, 13), (4, 14), (4, 16), (4, 18), (4, 20), (4, 21), (4, 22), (4, 23), (4, 24), (3, 217), (3, 219), (0, 28), (3, 220), (3, 227), (3, 230), (3, 232), (3, 234), (3, 221), (3, 223), (0, 29), (3, 224)] rfl
set_option maxRecDepth 100000 in
set_option maxHeartbeats 4000000 in
theorem tL_wsL_law_r7 : ∀ w ∈ wsL_law_r7, w ∈ lw_tbl := mem_t _ [(2, 18), (2, 19), (2, 20), (2, 21), (1, 117), (2, 22), (2, 23), (2, 24), (2, 25), (1, 116), (2, 26), (4, 106), (4, 107), (4, 108), (4, 109), (3, 236), (4, 113), (4, 110), (4, 111), (4, 112), (2, 27), (2, 28), (2, 29), (2, 30)] rfl
set_option maxRecDepth 100000 in
set_option maxHeartbeats 4000000 in
theorem tL_wsL_law_r8 : ∀ w ∈ wsL_law_r8, w ∈ lw_tbl := mem_t _ [(4, 114), (4, 115), (4, 116), (4, 117), (2, 31), (2, 32), (2, 33), (2, 34), (2, 35), (2, 36), (2, 37), (2, 38), (2, 39), (2, 40), (2, 41), (2, 42), (2, 43), (1, 121), (1, 118), (1, 120), (2, 44), (2, 46), (0, 0), (2, 47)] rfl
set_option maxRecDepth 100000 in
set_option maxHeartbeats 4000000 in
theorem tL_wsL_law_r9 : ∀ w ∈ wsL_law_r9, w ∈ lw_tbl := mem_t _ [(2, 48), (2, 49), (2, 50), (2, 51), (2, 53), (0, 1), (2, 54), (2, 56), (2, 58), (0, 2), (2, 59), (2, 60), (2, 61), (2, 62), (1, 9), (2, 63), (5, 144), (2, 64), (2, 65), (2, 66), (2, 67), (2, 68), (5, 145), (2, 70)] rfl
set_option maxRecDepth 100000 in
set_option maxHeartbeats 4000000 in
theorem tL_wsL_law_r10 : ∀ w ∈ wsL_law_r10, w ∈ lw_tbl := mem_t _ [(2, 71), (2, 72), (2, 73), (2, 74), (2, 75), (2, 76), (2, 77), (2, 78), (2, 79), (1, 10), (2, 80), (2, 81), (2, 82), (2, 83), (2, 84), (2, 86), (2, 87), (1, 11), (2, 88), (2, 89), (2, 90), (1, 12), (2, 91), (2, 92)] rfl
set_option maxRecDepth 100000 in
set_option maxHeartbeats 4000000 in
theorem tL_wsL_law_r11 : ∀ w ∈ wsL_law_r11, w ∈ lw_tbl := mem_t _ [(2, 93), (2, 94), (2, 95), (2, 96), (2, 97), (2, 98), (2, 99), (2, 100), (2, 101), (2, 102), (2, 104), (2, 106), (2, 108), (2, 110), (0, 3), (2, 111), (2, 112), (2, 114), (0, 4), (2, 115), (2, 116), (2, 118), (2, 120), (0, 5)] rfl
set_option maxRecDepth 100000 in
set_option maxHeartbeats 4000000 in
theorem tL_wsL_law_r12 : ∀ w ∈ wsL_law_r12, w ∈ lw_tbl := mem_t _ [(2, 121), (1, 40), (1, 65), (2, 122), (2, 124), (0, 6), (2, 125), (2, 130), (2, 132), (0, 7), (2, 133), (1, 46), (2, 134), (2, 135), (2, 136), (2, 137), (2, 138), (2, 139), (2, 140), (2, 141), (2, 142), (2, 143), (2, 144), (2, 145)] rfl
set_option maxRecDepth 100000 in
set_option maxHeartbeats 4000000 in
theorem tL_wsL_law_r13 : ∀ w ∈ wsL_law_r13, w ∈ lw_tbl := mem_t _ [(2, 146), (2, 147), (2, 148), (2, 149), (2, 151), (2, 153), (0, 8), (2, 154), (1, 49), (2, 155), (2, 156), (2, 157), (2, 158), (2, 160), (2, 162), (0, 9), (2, 163), (1, 53), (2, 164), (2, 165), (2, 166), (2, 167), (2, 169), (2, 171)] rfl
set_option maxRecDepth 100000 in
set_option maxHeartbeats 4000000 in
theorem tL_wsL_law_r14 : ∀ w ∈ wsL_law_r14, w ∈ lw_tbl := mem_t _ [(0, 10), (2, 172), (1, 57), (1, 61), (2, 174), (2, 175), (2, 177), (0, 11), (2, 178), (2, 179), (2, 181), (0, 12), (2, 182), (4, 118), (4, 119), (4, 120), (4, 121), (4, 3), (4, 122), (4, 124), (0, 30), (4, 125), (3, 238), (4, 4)] rfl
set_option maxRecDepth 100000 in
set_option maxHeartbeats 4000000 in
theorem tL_wsL_law_r15 : ∀ w ∈ wsL_law_r15, w ∈ lw_tbl := mem_t _ [(4, 5), (4, 6), (4, 8), (4, 9), (4, 7), (4, 0), (4, 139), (4, 134), (4, 126), (4, 128), (0, 31), (4, 129), (4, 140), (4, 141), (4, 142), (4, 143), (4, 144), (4, 145), (4, 146), (4, 147), (4, 148), (4, 149), (4, 150), (4, 151)] rfl
set_option maxRecDepth 100000 in
set_option maxHeartbeats 4000000 in
theorem tL_wsL_law_r16 : ∀ w ∈ wsL_law_r16, w ∈ lw_tbl := mem_t _ [(4, 152), (4, 130), (4, 132), (0, 32), (4, 133), (3, 239), (4, 1), (4, 2), (4, 135), (4, 136), (4, 137), (4, 138), (4, 153), (4, 155), (0, 33), (4, 156), (4, 157), (4, 159), (0, 34), (4, 160), (4, 161), (4, 163), (0, 35), (4, 164)] rfl
set_option maxRecDepth 100000 in
set_option maxHeartbeats 4000000 in
theorem tL_wsL_law_r17 : ∀ w ∈ wsL_law_r17, w ∈ lw_tbl := mem_t _ [(4, 165), (4, 167), (0, 36), (4, 168), (4, 169), (4, 171), (0, 37), (4, 172), (4, 173), (4, 175), (0, 38), (4, 176), (4, 177), (4, 179), (0, 39), (4, 180), (2, 187), (2, 188), (2, 189), (2, 190), (1, 228), (1, 119), (2, 191), (4, 181)] rfl
set_option maxRecDepth 100000 in
set_option maxHeartbeats 4000000 in
theorem tL_wsL_law_r18 : ∀ w ∈ wsL_law_r18, w ∈ lw_tbl := mem_t _ [(4, 182), (4, 183), (4, 184), (4, 15), (4, 185), (4, 187), (0, 40), (4, 188), (2, 192), (2, 193), (2, 194), (2, 195), (1, 66), (2, 196), (2, 198), (0, 13), (2, 199), (1, 42), (2, 200), (2, 201), (2, 202), (2, 203), (1, 45), (2, 204)] rfl
set_option maxRecDepth 100000 in
set_option maxHeartbeats 4000000 in
theorem tL_wsL_law_r19 : ∀ w ∈ wsL_law_r19, w ∈ lw_tbl := mem_t _ [(2, 205), (2, 206), (2, 207), (1, 69), (2, 208), (4, 189), (4, 190), (4, 191), (4, 192), (4, 193), (4, 195), (0, 41), (4, 196), (4, 197), (4, 199), (0, 42), (4, 200), (4, 201), (4, 203), (0, 43), (4, 204), (2, 209), (2, 210), (2, 211)] rfl
set_option maxRecDepth 100000 in
set_option maxHeartbeats 4000000 in
theorem tL_wsL_law_r20 : ∀ w ∈ wsL_law_r20, w ∈ lw_tbl := mem_t _ [(2, 212), (1, 70), (1, 151), (1, 153), (1, 158), (2, 213), (2, 215), (0, 14), (2, 216), (1, 47), (4, 205), (4, 206), (4, 207), (4, 208), (4, 209), (4, 211), (0, 44), (4, 212), (2, 217), (2, 218), (2, 219), (2, 220), (2, 221), (2, 222)] rfl
set_option maxRecDepth 100000 in
set_option maxHeartbeats 4000000 in
theorem tL_wsL_law_r21 : ∀ w ∈ wsL_law_r21, w ∈ lw_tbl := mem_t _ [(2, 223), (2, 224), (2, 225), (2, 226), (2, 227), (2, 228), (2, 229), (2, 230), (2, 231), (2, 232), (2, 233), (2, 234), (2, 235), (2, 236), (2, 237), (2, 239), (0, 15), (3, 0), (1, 50), (3, 1), (3, 2), (3, 3), (3, 4), (4, 213)] rfl
set_option maxRecDepth 100000 in
set_option maxHeartbeats 4000000 in
theorem tL_wsL_law_r22 : ∀ w ∈ wsL_law_r22, w ∈ lw_tbl := mem_t _ [(4, 214), (4, 215), (4, 216), (4, 17), (4, 217), (4, 219), (0, 45), (4, 220), (4, 221), (4, 223), (0, 46), (4, 224), (4, 225), (4, 226), (4, 227), (4, 228), (4, 230), (0, 47), (4, 231), (3, 5), (3, 6), (3, 7), (3, 8), (4, 232)] rfl
set_option maxRecDepth 100000 in
set_option maxHeartbeats 4000000 in
theorem tL_wsL_law_r23 : ∀ w ∈ wsL_law_r23, w ∈ lw_tbl := mem_t _ [(4, 233), (4, 234), (4, 235), (3, 9), (3, 10), (3, 11), (3, 12), (1, 58), (3, 13), (3, 14), (3, 15), (3, 16), (3, 17), (3, 19), (0, 16), (3, 20), (3, 21), (3, 22), (3, 24), (0, 17), (3, 25), (3, 26), (3, 28), (0, 18)] rfl
set_option maxRecDepth 100000 in
set_option maxHeartbeats 4000000 in
theorem tL_wsL_law_r24 : ∀ w ∈ wsL_law_r24, w ∈ lw_tbl := mem_t _ [(3, 29), (3, 30), (3, 31), (3, 32), (3, 33), (3, 34), (3, 35), (3, 36), (3, 37), (3, 38), (4, 236), (4, 237), (4, 238), (4, 239), (4, 19), (5, 0), (5, 2), (0, 48), (5, 3), (5, 4), (5, 6), (0, 49), (5, 7), (5, 8)] rfl
set_option maxRecDepth 100000 in
set_option maxHeartbeats 4000000 in
theorem tL_wsL_law_r25 : ∀ w ∈ wsL_law_r25, w ∈ lw_tbl := mem_t _ [(5, 9), (5, 11), (0, 50), (5, 12), (5, 13), (5, 15), (0, 51), (5, 16), (3, 39), (3, 40), (3, 41), (3, 42), (3, 43), (3, 44), (3, 45), (3, 46), (3, 47), (5, 17), (5, 18), (5, 19), (5, 20), (3, 48), (3, 49), (3, 50)] rfl
set_option maxRecDepth 100000 in
set_option maxHeartbeats 4000000 in
theorem tL_wsL_law_r26 : ∀ w ∈ wsL_law_r26, w ∈ lw_tbl := mem_t _ [(3, 51), (3, 52), (3, 53), (3, 54), (3, 55), (5, 21), (5, 22), (5, 23), (5, 24), (5, 25), (5, 26), (5, 27), (3, 56), (3, 57), (3, 58), (3, 59), (5, 28), (5, 29), (5, 30), (5, 31), (3, 60), (3, 61), (3, 62), (3, 63)] rfl
set_option maxRecDepth 100000 in
set_option maxHeartbeats 4000000 in
theorem tL_wsL_law_r27 : ∀ w ∈ wsL_law_r27, w ∈ lw_tbl := mem_t _ [(5, 32), (5, 33), (5, 34), (5, 35), (5, 36), (5, 38), (0, 52), (5, 39), (5, 40), (5, 42), (0, 53), (5, 43), (3, 64), (3, 65), (3, 66), (3, 67), (3, 68), (3, 69), (3, 70), (3, 71), (3, 72), (3, 73), (3, 74), (3, 75)] rfl
set_option maxRecDepth 100000 in
set_option maxHeartbeats 4000000 in
theorem tL_wsL_law_r28 : ∀ w ∈ wsL_law_r28, w ∈ lw_tbl := mem_t _ [(3, 76), (3, 78), (0, 19), (3, 79), (3, 80), (3, 82), (0, 20), (3, 83), (3, 84), (3, 86), (0, 21), (3, 87), (5, 44), (5, 45), (5, 46), (5, 47), (5, 48), (5, 50), (0, 54), (5, 51), (5, 52), (5, 54), (0, 55), (5, 55)] rfl
set_option maxRecDepth 100000 in
set_option maxHeartbeats 4000000 in
theorem tL_wsL_law_r29 : ∀ w ∈ wsL_law_r29, w ∈ lw_tbl := mem_t _ [(5, 56), (5, 58), (0, 56), (5, 59), (5, 60), (5, 62), (0, 57), (5, 63), (3, 88), (3, 89), (3, 90), (3, 91), (3, 92), (3, 94), (0, 22), (3, 95), (3, 96), (3, 97), (3, 98), (3, 99), (3, 100), (3, 101), (3, 102), (3, 103)] rfl
set_option maxRecDepth 100000 in
set_option maxHeartbeats 4000000 in
theorem tL_wsL_law_r30 : ∀ w ∈ wsL_law_r30, w ∈ lw_tbl := mem_t _ [(3, 104), (3, 105), (3, 106), (3, 107), (3, 108), (3, 110), (0, 23), (3, 111), (3, 112), (3, 113), (1, 13), (3, 114), (1, 41), (5, 64), (5, 65), (5, 66), (5, 67), (5, 68), (5, 70), (0, 58), (5, 71), (5, 72), (5, 74), (0, 59)] rfl
set_option maxRecDepth 100000 in
set_option maxHeartbeats 4000000 in
theorem tL_wsL_law_r31 : ∀ w ∈ wsL_law_r31, w ∈ lw_tbl := mem_t _ [(5, 75), (5, 76), (5, 78), (0, 60), (5, 79), (3, 115), (3, 116), (3, 117), (3, 118), (3, 119), (3, 121), (0, 24), (3, 122), (5, 80), (5, 81), (5, 82), (5, 83), (3, 123), (3, 124), (3, 125), (3, 126), (3, 127), (3, 128), (3, 129)] rfl
set_option maxRecDepth 100000 in
set_option maxHeartbeats 4000000 in
theorem tL_wsL_law_r32 : ∀ w ∈ wsL_law_r32, w ∈ lw_tbl := mem_t _ [(5, 84), (5, 85), (5, 86), (5, 87), (5, 88), (5, 89), (5, 90), (3, 130), (3, 131), (3, 132), (3, 133), (3, 134), (3, 135), (3, 136), (3, 137), (1, 67), (5, 91), (5, 92), (5, 93), (5, 94), (3, 138), (3, 139), (3, 140), (3, 141)] rfl
set_option maxRecDepth 100000 in
set_option maxHeartbeats 4000000 in
theorem tL_wsL_law_r33 : ∀ w ∈ wsL_law_r33, w ∈ lw_tbl := mem_t _ [(3, 142), (3, 143), (3, 144), (3, 145), (1, 54), (1, 76), (1, 78), (5, 95), (5, 96), (5, 97), (5, 98), (3, 146), (3, 147), (3, 148), (3, 149), (1, 199), (3, 150), (3, 151), (3, 152), (3, 153), (3, 154), (1, 196), (1, 197), (1, 198)] rfl
set_option maxRecDepth 100000 in
set_option maxHeartbeats 4000000 in
theorem tL_wsL_law_r34 : ∀ w ∈ wsL_law_r34, w ∈ lw_tbl := mem_t _ [(3, 155), (3, 156), (3, 157), (3, 159), (3, 160), (3, 162), (3, 163), (1, 44), (3, 161), (3, 164), (3, 166), (0, 25), (3, 167), (3, 168), (3, 169), (3, 170), (1, 150), (3, 171), (3, 172), (3, 173), (3, 174), (5, 99), (5, 100), (5, 101)] rfl
set_option maxRecDepth 100000 in
set_option maxHeartbeats 4000000 in
theorem tL_wsL_law_r35 : ∀ w ∈ wsL_law_r35, w ∈ lw_tbl := mem_t _ [(5, 102), (5, 103), (5, 105), (0, 61), (5, 106), (5, 107), (5, 109), (0, 62), (5, 110), (5, 111), (5, 113), (0, 63), (5, 114), (3, 175), (3, 176), (3, 177), (3, 178), (1, 164), (3, 179), (3, 180), (3, 181), (3, 182), (3, 183), (3, 184)] rfl
set_option maxRecDepth 100000 in
set_option maxHeartbeats 4000000 in
theorem tL_wsL_law_r36 : ∀ w ∈ wsL_law_r36, w ∈ lw_tbl := mem_t _ [(3, 185), (5, 115), (5, 116), (5, 117), (5, 118), (5, 119), (5, 121), (0, 64), (5, 122), (5, 123), (5, 125), (0, 65), (5, 126), (3, 186), (3, 187), (3, 188), (3, 189), (5, 127), (5, 128), (5, 129), (5, 130), (3, 190), (3, 191), (3, 192)] rfl
set_option maxRecDepth 100000 in
set_option maxHeartbeats 4000000 in
theorem tL_wsL_law_r37 : ∀ w ∈ wsL_law_r37, w ∈ lw_tbl := mem_t _ [(3, 193), (5, 131), (5, 132), (5, 133), (5, 134), (3, 194), (3, 195), (3, 196), (3, 197), (3, 198), (3, 200), (0, 26), (3, 201), (3, 202), (3, 204), (0, 27), (3, 205), (5, 135), (5, 136), (5, 137), (5, 138), (3, 206), (3, 207), (3, 208)] rfl
set_option maxRecDepth 100000 in
set_option maxHeartbeats 4000000 in
theorem tL_wsL_law_r38 : ∀ w ∈ wsL_law_r38, w ∈ lw_tbl := mem_t _ [(3, 209), (1, 51), (1, 55), (1, 160), (1, 162), (1, 156), (3, 210), (5, 139), (5, 140), (5, 141), (5, 142)] rfl
set_option maxRecDepth 100000 in
set_option maxHeartbeats 4000000 in
theorem tL_wsX40 : ∀ w ∈ wsX40, w ∈ lw_tbl := mem_t _ [(1, 229), (1, 231), (1, 233), (1, 235), (1, 237), (1, 239), (2, 1), (2, 3), (2, 5), (2, 7), (2, 9), (2, 11), (2, 13), (2, 15)] rfl
set_option maxRecDepth 100000 in
set_option maxHeartbeats 4000000 in
theorem tL_wsX50 : ∀ w ∈ wsX50, w ∈ lw_tbl := mem_t _ [(4, 25), (4, 27), (4, 29), (4, 31), (4, 33), (4, 35), (4, 37), (4, 39), (4, 41), (4, 43), (4, 45), (4, 47), (4, 49), (4, 51), (4, 53), (4, 55), (4, 57), (4, 59), (4, 61), (4, 63), (4, 65), (4, 67), (4, 69), (4, 71), (4, 73), (4, 75), (4, 77), (4, 79), (4, 81), (4, 83), (4, 85), (4, 87), (4, 89), (4, 91), (4, 93), (4, 95), (4, 97), (4, 99), (4, 101), (4, 103)] rfl
set_option maxRecDepth 100000 in
set_option maxHeartbeats 4000000 in
theorem tL_wsX30 : ∀ w ∈ wsX30, w ∈ lw_tbl := mem_t _ [(1, 79), (1, 81), (1, 83), (1, 85), (1, 87), (1, 89), (1, 91), (1, 93), (1, 95), (1, 97), (1, 99), (1, 101), (1, 103), (1, 105)] rfl
set_option maxRecDepth 100000 in
set_option maxHeartbeats 4000000 in
theorem tL_wsX20 : ∀ w ∈ wsX20, w ∈ lw_tbl := mem_t _ [(1, 122), (1, 124), (1, 126), (1, 128), (1, 130)] rfl
set_option maxRecDepth 100000 in
set_option maxHeartbeats 4000000 in
theorem tL_wsX10 : ∀ w ∈ wsX10, w ∈ lw_tbl := mem_t _ [(1, 165), (1, 167), (1, 169), (1, 171), (1, 173), (1, 175), (1, 177), (1, 179), (1, 181)] rfl
set_option maxRecDepth 100000 in
set_option maxHeartbeats 4000000 in
theorem tL_wsX00 : ∀ w ∈ wsX00, w ∈ lw_tbl := mem_t _ [(1, 200), (1, 202), (1, 204), (1, 206), (1, 208), (1, 210)] rfl
theorem lwC_t : ∀ c ∈ lwC, ∀ w ∈ c, w ∈ lw_tbl := List.forall_mem_cons.mpr ⟨tL_wsL_law_r1, List.forall_mem_cons.mpr ⟨tL_wsL_law_r2, List.forall_mem_cons.mpr ⟨tL_wsL_law_r3, List.forall_mem_cons.mpr ⟨tL_wsL_law_r4, List.forall_mem_cons.mpr ⟨tL_wsL_law_r5, List.forall_mem_cons.mpr ⟨tL_wsL_law_r6, List.forall_mem_cons.mpr ⟨tL_wsL_law_r7, List.forall_mem_cons.mpr ⟨tL_wsL_law_r8, List.forall_mem_cons.mpr ⟨tL_wsL_law_r9, List.forall_mem_cons.mpr ⟨tL_wsL_law_r10, List.forall_mem_cons.mpr ⟨tL_wsL_law_r11, List.forall_mem_cons.mpr ⟨tL_wsL_law_r12, List.forall_mem_cons.mpr ⟨tL_wsL_law_r13, List.forall_mem_cons.mpr ⟨tL_wsL_law_r14, List.forall_mem_cons.mpr ⟨tL_wsL_law_r15, List.forall_mem_cons.mpr ⟨tL_wsL_law_r16, List.forall_mem_cons.mpr ⟨tL_wsL_law_r17, List.forall_mem_cons.mpr ⟨tL_wsL_law_r18, List.forall_mem_cons.mpr ⟨tL_wsL_law_r19, List.forall_mem_cons.mpr ⟨tL_wsL_law_r20, List.forall_mem_cons.mpr ⟨tL_wsL_law_r21, List.forall_mem_cons.mpr ⟨tL_wsL_law_r22, List.forall_mem_cons.mpr ⟨tL_wsL_law_r23, List.forall_mem_cons.mpr ⟨tL_wsL_law_r24, List.forall_mem_cons.mpr ⟨tL_wsL_law_r25, List.forall_mem_cons.mpr ⟨tL_wsL_law_r26, List.forall_mem_cons.mpr ⟨tL_wsL_law_r27, List.forall_mem_cons.mpr ⟨tL_wsL_law_r28, List.forall_mem_cons.mpr ⟨tL_wsL_law_r29, List.forall_mem_cons.mpr ⟨tL_wsL_law_r30, List.forall_mem_cons.mpr ⟨tL_wsL_law_r31, List.forall_mem_cons.mpr ⟨tL_wsL_law_r32, List.forall_mem_cons.mpr ⟨tL_wsL_law_r33, List.forall_mem_cons.mpr ⟨tL_wsL_law_r34, List.forall_mem_cons.mpr ⟨tL_wsL_law_r35, List.forall_mem_cons.mpr ⟨tL_wsL_law_r36, List.forall_mem_cons.mpr ⟨tL_wsL_law_r37, List.forall_mem_cons.mpr ⟨tL_wsL_law_r38, List.forall_mem_cons.mpr ⟨tL_wsX40, List.forall_mem_cons.mpr ⟨tL_wsX50, List.forall_mem_cons.mpr ⟨tL_wsX30, List.forall_mem_cons.mpr ⟨tL_wsX20, List.forall_mem_cons.mpr ⟨tL_wsX10, List.forall_mem_cons.mpr ⟨tL_wsX00, fun _ h => absurd h List.not_mem_nil⟩⟩⟩⟩⟩⟩⟩⟩⟩⟩⟩⟩⟩⟩⟩⟩⟩⟩⟩⟩⟩⟩⟩⟩⟩⟩⟩⟩⟩⟩⟩⟩⟩⟩⟩⟩⟩⟩⟩⟩⟩⟩⟩⟩
theorem wsL_law_in : ∀ w ∈ wsL_law, w ∈ lw_tbl := by
  have e : wsL_law = lwC.flatten := by
    simp only [wsL_law, lwC, List.flatten_cons, List.flatten_nil, List.append_assoc, List.append_nil]
  intro w hw
  rw [e] at hw
  obtain ⟨c, hc, hw⟩ := List.mem_flatten.mp hw
  exact lwC_t c hc w hw
