def lw_ck : List (List Cond) := [(k2_sels lw_privs), tables_1_1, tables_1_2, tables_1_3, tables_1_4, tables_1_5, tables_1_6, tables_1_7]
theorem lw_ckl : lw_tbl = lw_ck.flatten := by
  simp only [lw_tbl, lw_ck, tables_1, List.flatten_cons, List.flatten_nil, List.append_assoc, List.append_nil]
theorem lw_ins {ws : List Cond} (ps : List (Nat × Nat)) (hp : ws = ps.filterMap (fun p => (lw_ck[p.1]?).bind (fun c => c[p.2]?))) : ∀ w ∈ ws, w ∈ lw_tbl := by
  intro w hw
  rw [hp] at hw
  obtain ⟨p, -, hi⟩ := List.mem_filterMap.mp hw
  obtain ⟨c, hc, hi⟩ := Option.bind_eq_some_iff.mp hi
  rw [lw_ckl]
  exact List.mem_flatten.mpr ⟨c, List.mem_of_getElem? hc, List.mem_of_getElem? hi⟩
theorem lw_inp {ws : List Cond} (ps : List Nat) (hp : ws = ps.filterMap (fun i => lw_tbl[i]?)) : ∀ w ∈ ws, w ∈ lw_tbl := by
  intro w hw
  rw [hp] at hw
  obtain ⟨i, _, h⟩ := List.mem_filterMap.mp hw
  exact List.mem_of_getElem? h
set_option maxRecDepth 20000 in
theorem lw_in_r1 : ∀ w ∈ wsL_law0_r1, w ∈ lw_tbl := lw_ins [(1, 19), (1, 20), (1, 1), (5, 108), (5, 109), (1, 11), (7, 80), (1, 21), (1, 22), (1, 23), (1, 24), (1, 25), (1, 26), (1, 27), (1, 28), (1, 2), (2, 128), (1, 48), (1, 49), (1, 3), (2, 129), (1, 90), (1, 91), (1, 4)] rfl
set_option maxRecDepth 20000 in
theorem lw_in_r2 : ∀ w ∈ wsL_law0_r2, w ∈ lw_tbl := lw_ins [(2, 130), (1, 175), (1, 176), (1, 5), (2, 131), (1, 202), (1, 203), (1, 6), (2, 132), (2, 31), (2, 32), (1, 8), (2, 133), (1, 29), (1, 30), (1, 31), (1, 32), (1, 46), (1, 33), (1, 47), (1, 35), (1, 37), (1, 51), (1, 52)] rfl
set_option maxRecDepth 20000 in
theorem lw_in_r3 : ∀ w ∈ wsL_law0_r3, w ∈ lw_tbl := lw_ins [(1, 53), (1, 54), (1, 56), (1, 60), (1, 62), (1, 64), (1, 66), (1, 67), (1, 93), (1, 94), (1, 95), (1, 102), (1, 110), (1, 115), (1, 118), (1, 121), (1, 127), (1, 129), (1, 131), (1, 133), (1, 138), (1, 177), (1, 178), (1, 179)] rfl
set_option maxRecDepth 20000 in
theorem lw_in_r4 : ∀ w ∈ wsL_law0_r4, w ∈ lw_tbl := lw_ins [(1, 180), (1, 181), (1, 182), (1, 183), (1, 186), (1, 187), (1, 188), (1, 204), (1, 205), (1, 206), (1, 207), (1, 219), (1, 221), (1, 223), (1, 225), (1, 227), (1, 229), (1, 230), (1, 231), (1, 232), (1, 233), (1, 234), (1, 235), (1, 211)] rfl
set_option maxRecDepth 20000 in
theorem lw_in_r5 : ∀ w ∈ wsL_law0_r5, w ∈ lw_tbl := lw_ins [(1, 212), (1, 208), (1, 209), (1, 7), (1, 210), (2, 33), (2, 34), (2, 35), (2, 36), (2, 109), (2, 110), (2, 111), (2, 112), (2, 37), (2, 38), (1, 9), (2, 113), (2, 90), (2, 91), (1, 10), (2, 114), (2, 39), (2, 40), (2, 41)] rfl
set_option maxRecDepth 20000 in
theorem lw_in_r6 : ∀ w ∈ wsL_law0_r6, w ∈ lw_tbl := lw_ins [(2, 42), (2, 44), (2, 43), (2, 92), (2, 93), (2, 94), (2, 95), (2, 96), (2, 97), (2, 98), (2, 99), (5, 110), (5, 111), (5, 112), (5, 113), (5, 117), (5, 120), (5, 121), (5, 122), (5, 123), (5, 124), (5, 125), (5, 126), (5, 127)] rfl
set_option maxRecDepth 20000 in
theorem lw_in_r7 : ∀ w ∈ wsL_law0_r7, w ∈ lw_tbl := lw_ins [(5, 128), (5, 131), (5, 135), (5, 139), (5, 140), (5, 141), (5, 142), (5, 143), (5, 114), (5, 144), (5, 145), (5, 146), (5, 147), (5, 148), (5, 149), (5, 150), (5, 153), (5, 154), (5, 155), (5, 156), (5, 157), (5, 159), (5, 160), (5, 161)] rfl
set_option maxRecDepth 20000 in
theorem lw_in_r8 : ∀ w ∈ wsL_law0_r8, w ∈ lw_tbl := lw_ins [(5, 162), (5, 163), (5, 168), (5, 169), (5, 172), (5, 115), (5, 173), (5, 175), (5, 176), (5, 177), (4, 78), (4, 79), (1, 0), (4, 80), (4, 81), (4, 82), (4, 83), (4, 84), (4, 85), (4, 86), (4, 91), (1, 15), (4, 158), (1, 16)] rfl
set_option maxRecDepth 20000 in
theorem lw_in_r9 : ∀ w ∈ wsL_law0_r9, w ∈ lw_tbl := lw_ins [(4, 87), (4, 88), (4, 89), (4, 90), (4, 174), (4, 175), (4, 176), (4, 177), (6, 63), (6, 64), (6, 65), (6, 66), (5, 116), (6, 67), (6, 69), (0, 36), (6, 70), (6, 71), (6, 73), (0, 37), (6, 74), (6, 75), (6, 77), (0, 38)] rfl
set_option maxRecDepth 20000 in
theorem lw_in_r10 : ∀ w ∈ wsL_law0_r10, w ∈ lw_tbl := lw_ins [(6, 78), (4, 178), (4, 179), (4, 180), (4, 181), (4, 182), (4, 183), (4, 184), (4, 185), (4, 186), (4, 187), (4, 188), (2, 162), (2, 210), (3, 3), (3, 4), (3, 5), (4, 191), (4, 192), (4, 193), (4, 194), (1, 58), (6, 79), (6, 80)] rfl
set_option maxRecDepth 20000 in
theorem lw_in_r11 : ∀ w ∈ wsL_law0_r11, w ∈ lw_tbl := lw_ins [(6, 81), (6, 82), (5, 118), (6, 83), (6, 85), (0, 39), (6, 86), (6, 87), (6, 88), (4, 195), (4, 196), (4, 197), (4, 198), (4, 199), (4, 200), (4, 201), (4, 202), (4, 203), (4, 204), (4, 205), (4, 206), (4, 210), (4, 211), (4, 212)] rfl
set_option maxRecDepth 20000 in
theorem lw_in_r12 : ∀ w ∈ wsL_law0_r12, w ∈ lw_tbl := lw_ins [(4, 213), (1, 69), (6, 89), (6, 90), (6, 91), (6, 92), (5, 119), (4, 214), (4, 215), (4, 216), (4, 217), (4, 218), (4, 219), (4, 220), (4, 222), (4, 223), (4, 224), (4, 225), (4, 227), (4, 228), (4, 229), (4, 230), (6, 93), (6, 94)] rfl
set_option maxRecDepth 20000 in
theorem lw_in_r13 : ∀ w ∈ wsL_law0_r13, w ∈ lw_tbl := lw_ins [(6, 95), (6, 96), (4, 231), (4, 232), (4, 233), (4, 234), (4, 235), (4, 236), (4, 237), (5, 0), (5, 1), (5, 2), (5, 3), (1, 96), (1, 99), (1, 105), (1, 108), (1, 112), (1, 123), (1, 135), (6, 97), (6, 98), (6, 99), (6, 100)] rfl
set_option maxRecDepth 20000 in
theorem lw_in_r14 : ∀ w ∈ wsL_law0_r14, w ∈ lw_tbl := lw_ins [(5, 129), (5, 130), (5, 132), (5, 133), (5, 134), (5, 136), (5, 137), (5, 138), (5, 4), (5, 5), (5, 6), (5, 7), (5, 8), (5, 9), (5, 10), (5, 12), (5, 13), (5, 14), (5, 15), (6, 101), (6, 102), (6, 103), (6, 104), (5, 16)] rfl
set_option maxRecDepth 20000 in
theorem lw_in_r15 : ∀ w ∈ wsL_law0_r15, w ∈ lw_tbl := lw_ins [(5, 17), (5, 18), (5, 19), (5, 20), (5, 21), (5, 22), (5, 23), (5, 25), (0, 34), (5, 26), (5, 27), (5, 28), (5, 29), (5, 30), (2, 207), (2, 208), (2, 209), (2, 211), (5, 31), (5, 32), (5, 34), (0, 35), (5, 35), (5, 36)] rfl
set_option maxRecDepth 20000 in
theorem lw_in_r16 : ∀ w ∈ wsL_law0_r16, w ∈ lw_tbl := lw_ins [(2, 160), (2, 161), (2, 163), (5, 37), (5, 38), (5, 39), (5, 40), (2, 169), (2, 170), (5, 41), (2, 175), (2, 176), (5, 44), (5, 45), (5, 46), (5, 47), (6, 105), (6, 106), (6, 107), (6, 108), (6, 109), (6, 111), (0, 40), (6, 112)] rfl
set_option maxRecDepth 20000 in
theorem lw_in_r17 : ∀ w ∈ wsL_law0_r17, w ∈ lw_tbl := lw_ins [(6, 113), (6, 115), (0, 41), (6, 116), (6, 117), (6, 118), (6, 120), (0, 42), (6, 121), (6, 122), (5, 48), (5, 49), (5, 50), (5, 51), (5, 52), (5, 53), (5, 54), (5, 56), (5, 57), (5, 58), (5, 59), (2, 177), (2, 178), (2, 179)] rfl
set_option maxRecDepth 20000 in
theorem lw_in_r18 : ∀ w ∈ wsL_law0_r18, w ∈ lw_tbl := lw_ins [(5, 61), (5, 62), (5, 63), (5, 64), (5, 65), (3, 27), (3, 28), (3, 29), (3, 30), (3, 31), (3, 32), (3, 33), (3, 35), (3, 36), (3, 37), (1, 17), (3, 38), (3, 39), (3, 41), (3, 40), (1, 18), (6, 123), (6, 124), (6, 125)] rfl
set_option maxRecDepth 20000 in
theorem lw_in_r19 : ∀ w ∈ wsL_law0_r19, w ∈ lw_tbl := lw_ins [(6, 126), (5, 66), (5, 67), (5, 68), (5, 69), (5, 70), (5, 71), (5, 72), (5, 75), (5, 76), (5, 77), (5, 78), (6, 127), (6, 128), (6, 129), (6, 130), (2, 147), (2, 148), (2, 149), (2, 150), (3, 43), (2, 151), (2, 152), (2, 153)] rfl
set_option maxRecDepth 20000 in
theorem lw_in_r20 : ∀ w ∈ wsL_law0_r20, w ∈ lw_tbl := lw_ins [(2, 154), (2, 155), (2, 157), (0, 0), (2, 158), (2, 159), (2, 164), (2, 166), (0, 1), (2, 167), (2, 168), (2, 171), (2, 172), (2, 173), (2, 174), (2, 180), (2, 182), (0, 2), (2, 183), (2, 184), (2, 185), (2, 186), (2, 187), (1, 213)] rfl
set_option maxRecDepth 20000 in
theorem lw_in_r21 : ∀ w ∈ wsL_law0_r21, w ∈ lw_tbl := lw_ins [(1, 215), (1, 217), (2, 188), (2, 189), (2, 190), (2, 191), (2, 192), (2, 193), (2, 194), (2, 195), (2, 196), (2, 197), (2, 198), (2, 199), (2, 200), (2, 201), (2, 202), (2, 203), (2, 48), (2, 55), (2, 51), (2, 57), (2, 61), (2, 65)] rfl
set_option maxRecDepth 20000 in
theorem lw_in_r22 : ∀ w ∈ wsL_law0_r22, w ∈ lw_tbl := lw_ins [(2, 67), (2, 204), (2, 205), (2, 206), (2, 212), (2, 213), (2, 214), (2, 215), (2, 63), (2, 216), (2, 217), (2, 218), (2, 219), (2, 220), (2, 222), (0, 3), (2, 223), (2, 224), (2, 225), (2, 226), (2, 227), (2, 228), (2, 229), (2, 230)] rfl
set_option maxRecDepth 20000 in
theorem lw_in_r23 : ∀ w ∈ wsL_law0_r23, w ∈ lw_tbl := lw_ins [(2, 231), (2, 232), (2, 233), (2, 234), (2, 235), (2, 236), (2, 237), (2, 238), (2, 239), (3, 0), (3, 1), (3, 2), (3, 6), (3, 8), (0, 4), (3, 9), (3, 10), (3, 12), (0, 5), (3, 13), (3, 14), (3, 15), (3, 16), (3, 17)] rfl
set_option maxRecDepth 20000 in
theorem lw_in_r24 : ∀ w ∈ wsL_law0_r24, w ∈ lw_tbl := lw_ins [(3, 18), (3, 19), (3, 20), (3, 21), (3, 42), (3, 22), (3, 24), (0, 6), (3, 25), (3, 26), (3, 44), (3, 45), (3, 46), (3, 47), (3, 48), (3, 49), (3, 50), (3, 51), (3, 52), (3, 53), (3, 54), (3, 55), (3, 56), (3, 57)] rfl
set_option maxRecDepth 20000 in
theorem lw_in_r25 : ∀ w ∈ wsL_law0_r25, w ∈ lw_tbl := lw_ins [(3, 58), (3, 59), (3, 60), (3, 61), (3, 63), (0, 7), (3, 64), (3, 65), (3, 67), (0, 8), (3, 68), (3, 69), (3, 70), (3, 71), (3, 72), (3, 73), (3, 75), (0, 9), (3, 76), (3, 77), (3, 78), (3, 79), (3, 80), (3, 81)] rfl
set_option maxRecDepth 20000 in
theorem lw_in_r26 : ∀ w ∈ wsL_law0_r26, w ∈ lw_tbl := lw_ins [(3, 183), (3, 82), (3, 84), (0, 10), (3, 85), (3, 95), (3, 86), (3, 87), (3, 88), (3, 89), (3, 90), (3, 91), (3, 92), (3, 93), (3, 94), (3, 97), (3, 99), (0, 11), (3, 100), (3, 105), (3, 101), (3, 102), (3, 103), (3, 104)] rfl
set_option maxRecDepth 20000 in
theorem lw_in_r27 : ∀ w ∈ wsL_law0_r27, w ∈ lw_tbl := lw_ins [(3, 108), (3, 109), (3, 110), (3, 112), (0, 12), (3, 113), (3, 127), (3, 128), (3, 114), (3, 115), (3, 116), (3, 117), (3, 118), (3, 119), (3, 120), (3, 121), (3, 126), (3, 122), (3, 123), (3, 124), (3, 125), (3, 130), (3, 132), (0, 13)] rfl
set_option maxRecDepth 20000 in
theorem lw_in_r28 : ∀ w ∈ wsL_law0_r28, w ∈ lw_tbl := lw_ins [(3, 133), (3, 134), (3, 135), (3, 136), (3, 137), (3, 139), (0, 14), (3, 140), (3, 141), (3, 142), (3, 143), (3, 145), (0, 15), (3, 146), (3, 147), (3, 148), (3, 149), (3, 150), (3, 158), (3, 151), (3, 152), (3, 153), (3, 154), (3, 155)] rfl
set_option maxRecDepth 20000 in
theorem lw_in_r29 : ∀ w ∈ wsL_law0_r29, w ∈ lw_tbl := lw_ins [(3, 156), (3, 157), (3, 159), (3, 161), (0, 16), (3, 162), (3, 167), (3, 169), (3, 163), (3, 164), (3, 165), (3, 166), (3, 171), (3, 172), (3, 173), (3, 174), (3, 175), (3, 176), (3, 177), (3, 178), (3, 179), (3, 181), (0, 17), (3, 182)] rfl
set_option maxRecDepth 20000 in
theorem lw_in_r30 : ∀ w ∈ wsL_law0_r30, w ∈ lw_tbl := lw_ins [(3, 185), (3, 187), (0, 18), (3, 188), (3, 189), (3, 191), (0, 19), (3, 192), (3, 193), (3, 194), (3, 195), (3, 196), (3, 197), (3, 198), (3, 199), (3, 201), (0, 20), (3, 202), (3, 203), (3, 204), (3, 206), (0, 21), (3, 207), (3, 208)] rfl
set_option maxRecDepth 20000 in
theorem lw_in_r31 : ∀ w ∈ wsL_law0_r31, w ∈ lw_tbl := lw_ins [(3, 210), (0, 22), (3, 211), (3, 212), (3, 214), (0, 23), (3, 215), (3, 216), (3, 217), (3, 218), (3, 219), (3, 220), (3, 222), (0, 24), (3, 223), (3, 224), (3, 225), (3, 226), (3, 227), (3, 228), (3, 229), (3, 231), (0, 25), (3, 232)] rfl
set_option maxRecDepth 20000 in
theorem lw_in_r32 : ∀ w ∈ wsL_law0_r32, w ∈ lw_tbl := lw_ins [(3, 233), (3, 234), (3, 235), (3, 236), (3, 237), (3, 239), (0, 26), (4, 0), (4, 1), (4, 3), (0, 27), (4, 4), (4, 5), (4, 7), (0, 28), (4, 8), (4, 9), (4, 10), (4, 11), (4, 12), (4, 13), (4, 14), (4, 15), (4, 16)] rfl
set_option maxRecDepth 20000 in
theorem lw_in_r33 : ∀ w ∈ wsL_law0_r33, w ∈ lw_tbl := lw_ins [(4, 17), (4, 19), (0, 29), (4, 20), (4, 21), (4, 22), (4, 23), (4, 25), (0, 30), (4, 26), (4, 27), (4, 28), (4, 29), (4, 30), (4, 31), (4, 32), (4, 33), (4, 34), (4, 35), (4, 36), (4, 38), (0, 31), (4, 39), (4, 40)] rfl
set_option maxRecDepth 20000 in
theorem lw_in_r34 : ∀ w ∈ wsL_law0_r34, w ∈ lw_tbl := lw_ins [(4, 42), (0, 32), (4, 43), (4, 44), (4, 45), (4, 46), (4, 47), (6, 152), (6, 153), (6, 154), (6, 155), (5, 165), (5, 166), (5, 167), (5, 164), (5, 174), (6, 156), (6, 158), (0, 46), (6, 159), (6, 160), (6, 161), (6, 162), (6, 163)] rfl
set_option maxRecDepth 20000 in
theorem lw_in_r35 : ∀ w ∈ wsL_law0_r35, w ∈ lw_tbl := lw_ins [(6, 164), (6, 165), (6, 166), (6, 167), (6, 169), (0, 47), (6, 170), (5, 158), (5, 170), (5, 171), (5, 151), (5, 152), (6, 171), (6, 173), (0, 48), (6, 174), (6, 175), (6, 177), (0, 49), (6, 178), (6, 179), (6, 181), (0, 50), (6, 182)] rfl
set_option maxRecDepth 20000 in
theorem lw_in_r36 : ∀ w ∈ wsL_law0_r36, w ∈ lw_tbl := lw_ins [(6, 183), (6, 185), (0, 51), (6, 186), (6, 187), (6, 189), (0, 52), (6, 190), (6, 147), (6, 149), (0, 45), (6, 150), (6, 151), (6, 139), (6, 141), (0, 44), (6, 142), (6, 191), (6, 193), (0, 53), (6, 194), (6, 195), (6, 197), (0, 54)] rfl
set_option maxRecDepth 20000 in
theorem lw_in_r37 : ∀ w ∈ wsL_law0_r37, w ∈ lw_tbl := lw_ins [(6, 198), (6, 199), (6, 201), (0, 55), (6, 202), (6, 203), (6, 205), (0, 56), (6, 206), (6, 207), (6, 209), (0, 57), (6, 210), (7, 49), (6, 211), (6, 213), (0, 58), (6, 214), (6, 218), (6, 215), (6, 216), (6, 217), (6, 220), (6, 222)] rfl
set_option maxRecDepth 20000 in
theorem lw_in_r38 : ∀ w ∈ wsL_law0_r38, w ∈ lw_tbl := lw_ins [(0, 59), (6, 223), (6, 232), (6, 224), (6, 226), (0, 60), (6, 227), (6, 228), (6, 230), (0, 61), (6, 231), (6, 233), (6, 235), (0, 62), (6, 236), (6, 237), (6, 239), (0, 63), (7, 0), (7, 1), (7, 3), (0, 64), (7, 4), (7, 5)] rfl
set_option maxRecDepth 20000 in
theorem lw_in_r39 : ∀ w ∈ wsL_law0_r39, w ∈ lw_tbl := lw_ins [(7, 7), (0, 65), (7, 8), (6, 135), (6, 137), (0, 43), (6, 138), (7, 9), (7, 11), (0, 66), (7, 12), (7, 13), (7, 15), (0, 67), (7, 16), (7, 17), (7, 19), (0, 68), (7, 20), (7, 21), (7, 23), (0, 69), (7, 24), (7, 25)] rfl
set_option maxRecDepth 20000 in
theorem lw_in_r40 : ∀ w ∈ wsL_law0_r40, w ∈ lw_tbl := lw_ins [(7, 27), (0, 70), (7, 28), (7, 29), (7, 31), (0, 71), (7, 32), (7, 33), (7, 35), (0, 72), (7, 36), (7, 37), (7, 39), (0, 73), (7, 40), (7, 41), (7, 43), (0, 74), (7, 44), (7, 45), (7, 47), (0, 75), (7, 48), (7, 50)] rfl
set_option maxRecDepth 20000 in
theorem lw_in_r41 : ∀ w ∈ wsL_law0_r41, w ∈ lw_tbl := lw_ins [(7, 52), (0, 76), (7, 53), (7, 54), (7, 56), (0, 77), (7, 57), (5, 79), (5, 80), (5, 81), (5, 82), (5, 83), (5, 84), (5, 85), (4, 74), (4, 75), (4, 76), (4, 77), (7, 58), (7, 59), (7, 60), (7, 61), (7, 62), (7, 64)] rfl
set_option maxRecDepth 20000 in
theorem lw_in_r42 : ∀ w ∈ wsL_law0_r42, w ∈ lw_tbl := lw_ins [(0, 78), (7, 65), (4, 48), (4, 49), (4, 50), (4, 51), (4, 52), (4, 53), (4, 54), (4, 55), (4, 56), (4, 57), (4, 58), (4, 59), (7, 66), (7, 67), (7, 68), (7, 69), (4, 60), (4, 61), (4, 62), (4, 63), (4, 64), (4, 65)] rfl
set_option maxRecDepth 20000 in
theorem lw_in_r43 : ∀ w ∈ wsL_law0_r43, w ∈ lw_tbl := lw_ins [(4, 66), (4, 67), (7, 70), (7, 71), (7, 72), (7, 73), (4, 68), (4, 69), (4, 70), (4, 71), (4, 72), (4, 73), (7, 74), (7, 75), (7, 76), (7, 77), (7, 78), (7, 79), (5, 87), (5, 88), (5, 89), (5, 90), (5, 91), (5, 92)] rfl
set_option maxRecDepth 20000 in
theorem lw_in_r44 : ∀ w ∈ wsL_law0_r44, w ∈ lw_tbl := lw_ins [(5, 93), (5, 94), (6, 131), (6, 132), (6, 133), (6, 134), (5, 95), (5, 96), (5, 97), (5, 98), (5, 99), (5, 100), (5, 101), (5, 103), (6, 143), (6, 144), (6, 145), (6, 146), (5, 104), (5, 105), (5, 106), (5, 107)] rfl
set_option maxRecDepth 20000 in
theorem lw_in_X8 : ∀ w ∈ wsX80, w ∈ lw_tbl := lw_ins [(2, 134), (2, 136), (2, 138), (2, 140), (2, 142), (2, 144)] rfl
set_option maxRecDepth 20000 in
theorem lw_in_X9 : ∀ w ∈ wsX90, w ∈ lw_tbl := lw_ins [(5, 178), (5, 180), (5, 182), (5, 184), (5, 186), (5, 188), (5, 190), (5, 192), (5, 194), (5, 196), (5, 198), (5, 200), (5, 202), (5, 204), (5, 206), (5, 208), (5, 210), (5, 212), (5, 214), (5, 216), (5, 218), (5, 220), (5, 222), (5, 224), (5, 226), (5, 228), (5, 230), (5, 232), (5, 234), (5, 236), (5, 238), (6, 0), (6, 2), (6, 4), (6, 6), (6, 8), (6, 10), (6, 12), (6, 14), (6, 16), (6, 18), (6, 20), (6, 22), (6, 24), (6, 26), (6, 28), (6, 30), (6, 32), (6, 34), (6, 36), (6, 38), (6, 40), (6, 42), (6, 44), (6, 46), (6, 48), (6, 50), (6, 52), (6, 54), (6, 56), (6, 58), (6, 60)] rfl
set_option maxRecDepth 20000 in
theorem lw_in_X7 : ∀ w ∈ wsX70, w ∈ lw_tbl := lw_ins [(1, 39), (1, 41), (1, 43)] rfl
set_option maxRecDepth 20000 in
theorem lw_in_X4 : ∀ w ∈ wsX40, w ∈ lw_tbl := lw_ins [(1, 71), (1, 73), (1, 75), (1, 77), (1, 79), (1, 81), (1, 83), (1, 85), (1, 87)] rfl
set_option maxRecDepth 20000 in
theorem lw_in_X0 : ∀ w ∈ wsX00, w ∈ lw_tbl := lw_ins [(1, 140), (1, 142), (1, 144), (1, 146), (1, 148), (1, 150), (1, 152), (1, 154), (1, 156), (1, 158), (1, 160), (1, 162), (1, 164), (1, 166), (1, 168), (1, 170), (1, 172)] rfl
set_option maxRecDepth 20000 in
theorem lw_in_X1 : ∀ w ∈ wsX10, w ∈ lw_tbl := lw_ins [(1, 189), (1, 191), (1, 193), (1, 195), (1, 197), (1, 199)] rfl
set_option maxRecDepth 20000 in
theorem lw_in_X3 : ∀ w ∈ wsX30, w ∈ lw_tbl := lw_ins [(1, 236), (1, 238), (2, 0), (2, 2), (2, 4), (2, 6), (2, 8), (2, 10), (2, 12), (2, 14), (2, 16), (2, 18), (2, 20), (2, 22), (2, 24), (2, 26), (2, 28)] rfl
set_option maxRecDepth 20000 in
theorem lw_in_X2 : ∀ w ∈ wsX20, w ∈ lw_tbl := lw_ins [(2, 115), (2, 117), (2, 119), (2, 121), (2, 123), (2, 125)] rfl
set_option maxRecDepth 20000 in
theorem lw_in_X5 : ∀ w ∈ wsX50, w ∈ lw_tbl := lw_ins [(2, 69), (2, 71), (2, 73), (2, 75), (2, 77), (2, 79), (2, 81), (2, 83), (2, 85), (2, 87)] rfl
set_option maxRecDepth 20000 in
theorem lw_in_X6 : ∀ w ∈ wsX60, w ∈ lw_tbl := lw_ins [(2, 100), (2, 102), (2, 104), (2, 106)] rfl
theorem wsL_law_in0 : ∀ w ∈ wsL_law0, w ∈ lw_tbl := fun w h => (List.mem_append.mp h).elim (fun h => (List.mem_append.mp h).elim (fun h => (List.mem_append.mp h).elim (fun h => (List.mem_append.mp h).elim (fun h => (List.mem_append.mp h).elim (fun h => (List.mem_append.mp h).elim (fun h => (List.mem_append.mp h).elim (fun h => (List.mem_append.mp h).elim (fun h => (List.mem_append.mp h).elim (fun h => (List.mem_append.mp h).elim (fun h => (List.mem_append.mp h).elim (fun h => (List.mem_append.mp h).elim (fun h => lw_in_r1 w h) (fun h => (List.mem_append.mp h).elim (fun h => lw_in_r2 w h) (fun h => (List.mem_append.mp h).elim (fun h => lw_in_r3 w h) (fun h => (List.mem_append.mp h).elim (fun h => lw_in_r4 w h) (fun h => (List.mem_append.mp h).elim (fun h => lw_in_r5 w h) (fun h => (List.mem_append.mp h).elim (fun h => lw_in_r6 w h) (fun h => (List.mem_append.mp h).elim (fun h => lw_in_r7 w h) (fun h => (List.mem_append.mp h).elim (fun h => lw_in_r8 w h) (fun h => (List.mem_append.mp h).elim (fun h => lw_in_r9 w h) (fun h => (List.mem_append.mp h).elim (fun h => lw_in_r10 w h) (fun h => (List.mem_append.mp h).elim (fun h => lw_in_r11 w h) (fun h => (List.mem_append.mp h).elim (fun h => lw_in_r12 w h) (fun h => (List.mem_append.mp h).elim (fun h => lw_in_r13 w h) (fun h => (List.mem_append.mp h).elim (fun h => lw_in_r14 w h) (fun h => (List.mem_append.mp h).elim (fun h => lw_in_r15 w h) (fun h => (List.mem_append.mp h).elim (fun h => lw_in_r16 w h) (fun h => (List.mem_append.mp h).elim (fun h => lw_in_r17 w h) (fun h => (List.mem_append.mp h).elim (fun h => lw_in_r18 w h) (fun h => (List.mem_append.mp h).elim (fun h => lw_in_r19 w h) (fun h => (List.mem_append.mp h).elim (fun h => lw_in_r20 w h) (fun h => (List.mem_append.mp h).elim (fun h => lw_in_r21 w h) (fun h => (List.mem_append.mp h).elim (fun h => lw_in_r22 w h) (fun h => (List.mem_append.mp h).elim (fun h => lw_in_r23 w h) (fun h => (List.mem_append.mp h).elim (fun h => lw_in_r24 w h) (fun h => (List.mem_append.mp h).elim (fun h => lw_in_r25 w h) (fun h => (List.mem_append.mp h).elim (fun h => lw_in_r26 w h) (fun h => (List.mem_append.mp h).elim (fun h => lw_in_r27 w h) (fun h => (List.mem_append.mp h).elim (fun h => lw_in_r28 w h) (fun h => (List.mem_append.mp h).elim (fun h => lw_in_r29 w h) (fun h => (List.mem_append.mp h).elim (fun h => lw_in_r30 w h) (fun h => (List.mem_append.mp h).elim (fun h => lw_in_r31 w h) (fun h => (List.mem_append.mp h).elim (fun h => lw_in_r32 w h) (fun h => (List.mem_append.mp h).elim (fun h => lw_in_r33 w h) (fun h => (List.mem_append.mp h).elim (fun h => lw_in_r34 w h) (fun h => (List.mem_append.mp h).elim (fun h => lw_in_r35 w h) (fun h => (List.mem_append.mp h).elim (fun h => lw_in_r36 w h) (fun h => (List.mem_append.mp h).elim (fun h => lw_in_r37 w h) (fun h => (List.mem_append.mp h).elim (fun h => lw_in_r38 w h) (fun h => (List.mem_append.mp h).elim (fun h => lw_in_r39 w h) (fun h => (List.mem_append.mp h).elim (fun h => lw_in_r40 w h) (fun h => (List.mem_append.mp h).elim (fun h => lw_in_r41 w h) (fun h => (List.mem_append.mp h).elim (fun h => lw_in_r42 w h) (fun h => (List.mem_append.mp h).elim (fun h => lw_in_r43 w h) (fun h => lw_in_r44 w h)))))))))))))))))))))))))))))))))))))))))))) (fun h => lw_in_X8 w h)) (fun h => lw_in_X9 w h)) (fun h => lw_in_X7 w h)) (fun h => lw_in_X4 w h)) (fun h => lw_in_X0 w h)) (fun h => lw_in_X1 w h)) (fun h => lw_in_X3 w h)) (fun h => lw_in_X2 w h)) (fun h => lw_in_X5 w h)) (fun h => lw_in_X6 w h)) (fun h => absurd h (List.not_mem_nil))
theorem wsL_law_x0 : ∀ w ∈ (vx_atS RX8 67 "java/lang/IllegalArgumentException" ["java/lang/RuntimeException", "java/lang/Exception"]).filter goodWord, w ∈ lw_tbl := by decide +kernel
theorem wsL_law_x1 : ∀ w ∈ (vx_atS RX8 78 "java/lang/IllegalStateException" ["java/lang/RuntimeException", "java/lang/Exception"]).filter goodWord, w ∈ lw_tbl := by decide +kernel
theorem wsL_law_in : ∀ w ∈ wsL_law, w ∈ lw_tbl := fun w h => (List.mem_append.mp h).elim (fun h => (List.mem_append.mp h).elim (fun h => wsL_law_in0 w h) (fun h => wsL_law_x0 w h)) (fun h => wsL_law_x1 w h)
theorem inlX0 : ∀ w ∈ wsX00, w ∈ wsL_law := fun _ h => List.mem_append_left _ (List.mem_append_left _ (List.mem_append_left _ (List.mem_append_left _ (List.mem_append_left _ (List.mem_append_left _ (List.mem_append_left _ (List.mem_append_left _ (List.mem_append_right _ h))))))))
theorem inX0 : ∀ w ∈ wsX00, w ∈ lw_tbl := lw_in_X0
theorem inlX1 : ∀ w ∈ wsX10, w ∈ wsL_law := fun _ h => List.mem_append_left _ (List.mem_append_left _ (List.mem_append_left _ (List.mem_append_left _ (List.mem_append_left _ (List.mem_append_left _ (List.mem_append_left _ (List.mem_append_right _ h)))))))
theorem inX1 : ∀ w ∈ wsX10, w ∈ lw_tbl := lw_in_X1
theorem inlX2 : ∀ w ∈ wsX20, w ∈ wsL_law := fun _ h => List.mem_append_left _ (List.mem_append_left _ (List.mem_append_left _ (List.mem_append_left _ (List.mem_append_left _ (List.mem_append_right _ h)))))
theorem inX2 : ∀ w ∈ wsX20, w ∈ lw_tbl := lw_in_X2
theorem inlX3 : ∀ w ∈ wsX30, w ∈ wsL_law := fun _ h => List.mem_append_left _ (List.mem_append_left _ (List.mem_append_left _ (List.mem_append_left _ (List.mem_append_left _ (List.mem_append_left _ (List.mem_append_right _ h))))))
theorem inX3 : ∀ w ∈ wsX30, w ∈ lw_tbl := lw_in_X3
theorem inlX4 : ∀ w ∈ wsX40, w ∈ wsL_law := fun _ h => List.mem_append_left _ (List.mem_append_left _ (List.mem_append_left _ (List.mem_append_left _ (List.mem_append_left _ (List.mem_append_left _ (List.mem_append_left _ (List.mem_append_left _ (List.mem_append_left _ (List.mem_append_right _ h)))))))))
theorem inX4 : ∀ w ∈ wsX40, w ∈ lw_tbl := lw_in_X4
theorem inlX5 : ∀ w ∈ wsX50, w ∈ wsL_law := fun _ h => List.mem_append_left _ (List.mem_append_left _ (List.mem_append_left _ (List.mem_append_left _ (List.mem_append_right _ h))))
theorem inX5 : ∀ w ∈ wsX50, w ∈ lw_tbl := lw_in_X5
theorem inlX6 : ∀ w ∈ wsX60, w ∈ wsL_law := fun _ h => List.mem_append_left _ (List.mem_append_left _ (List.mem_append_left _ (List.mem_append_right _ h)))
theorem inX6 : ∀ w ∈ wsX60, w ∈ lw_tbl := lw_in_X6
theorem inlX7 : ∀ w ∈ wsX70, w ∈ wsL_law := fun _ h => List.mem_append_left _ (List.mem_append_left _ (List.mem_append_left _ (List.mem_append_left _ (List.mem_append_left _ (List.mem_append_left _ (List.mem_append_left _ (List.mem_append_left _ (List.mem_append_left _ (List.mem_append_left _ (List.mem_append_right _ h))))))))))
theorem inX7 : ∀ w ∈ wsX70, w ∈ lw_tbl := lw_in_X7
theorem inlX8 : ∀ w ∈ wsX80, w ∈ wsL_law := fun _ h => List.mem_append_left _ (List.mem_append_left _ (List.mem_append_left _ (List.mem_append_left _ (List.mem_append_left _ (List.mem_append_left _ (List.mem_append_left _ (List.mem_append_left _ (List.mem_append_left _ (List.mem_append_left _ (List.mem_append_left _ (List.mem_append_left _ (List.mem_append_right _ h))))))))))))
theorem inX8 : ∀ w ∈ wsX80, w ∈ lw_tbl := lw_in_X8
theorem inlX9 : ∀ w ∈ wsX90, w ∈ wsL_law := fun _ h => List.mem_append_left _ (List.mem_append_left _ (List.mem_append_left _ (List.mem_append_left _ (List.mem_append_left _ (List.mem_append_left _ (List.mem_append_left _ (List.mem_append_left _ (List.mem_append_left _ (List.mem_append_left _ (List.mem_append_left _ (List.mem_append_right _ h)))))))))))
theorem inX9 : ∀ w ∈ wsX90, w ∈ lw_tbl := lw_in_X9
