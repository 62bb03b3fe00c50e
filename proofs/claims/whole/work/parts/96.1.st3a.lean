/-! ===== the start: words among the tables ===== -/
theorem goodIn_d (ws : List Cond) (h : ∀ w ∈ ws, w ∈ lw_tbl) (g : ws.all goodWord = true) : GoodIn lw_tbl ws := fun w hw => ⟨h w hw, good_of_word (List.all_eq_true.mp g w hw)⟩
def uL : List Cond := xm_U 330 vwCl xt_zs xt_ys xt_N xt_FL xt_KI xt_KL xt_GS xt_LK
theorem goodIn_td {big l : List Cond} {a b : Nat} (h1 : GoodIn big ((l.drop a).take b)) (h2 : GoodIn big (l.drop (a + b))) : GoodIn big (l.drop a) := by
  rw [← List.drop_drop] at h2
  have := goodIn_app h1 h2
  rwa [List.take_append_drop] at this
def tbs : List (List Cond) := [k2_sels lw_privs, tables_1_1, tables_1_2, tables_1_3, tables_1_4, tables_1_5, tables_1_6, tables_1_7, tables_1_8, tables_1_9, tables_1_10, tables_1_11]
theorem tbs_all : ∀ l ∈ tbs, ∀ w ∈ l, w ∈ lw_tbl := by
  intro l hl w hw
  simp only [tbs, List.mem_cons, List.not_mem_nil, or_false] at hl
  show w ∈ k2_sels lw_privs ++ (tables_1_1 ++ (tables_1_2 ++ (tables_1_3 ++ (tables_1_4 ++ (tables_1_5 ++ (tables_1_6 ++ (tables_1_7 ++ (tables_1_8 ++ (tables_1_9 ++ (tables_1_10 ++ (tables_1_11)))))))))))
  rcases hl with rfl | rfl | rfl | rfl | rfl | rfl | rfl | rfl | rfl | rfl | rfl | rfl
  · exact List.mem_append_left _ hw
  · exact List.mem_append_right _ (List.mem_append_left _ hw)
  · exact List.mem_append_right _ (List.mem_append_right _ (List.mem_append_left _ hw))
  · exact List.mem_append_right _ (List.mem_append_right _ (List.mem_append_right _ (List.mem_append_left _ hw)))
  · exact List.mem_append_right _ (List.mem_append_right _ (List.mem_append_right _ (List.mem_append_right _ (List.mem_append_left _ hw))))
  · exact List.mem_append_right _ (List.mem_append_right _ (List.mem_append_right _ (List.mem_append_right _ (List.mem_append_right _ (List.mem_append_left _ hw)))))
  · exact List.mem_append_right _ (List.mem_append_right _ (List.mem_append_right _ (List.mem_append_right _ (List.mem_append_right _ (List.mem_append_right _ (List.mem_append_left _ hw))))))
  · exact List.mem_append_right _ (List.mem_append_right _ (List.mem_append_right _ (List.mem_append_right _ (List.mem_append_right _ (List.mem_append_right _ (List.mem_append_right _ (List.mem_append_left _ hw)))))))
  · exact List.mem_append_right _ (List.mem_append_right _ (List.mem_append_right _ (List.mem_append_right _ (List.mem_append_right _ (List.mem_append_right _ (List.mem_append_right _ (List.mem_append_right _ (List.mem_append_left _ hw))))))))
  · exact List.mem_append_right _ (List.mem_append_right _ (List.mem_append_right _ (List.mem_append_right _ (List.mem_append_right _ (List.mem_append_right _ (List.mem_append_right _ (List.mem_append_right _ (List.mem_append_right _ (List.mem_append_left _ hw)))))))))
  · exact List.mem_append_right _ (List.mem_append_right _ (List.mem_append_right _ (List.mem_append_right _ (List.mem_append_right _ (List.mem_append_right _ (List.mem_append_right _ (List.mem_append_right _ (List.mem_append_right _ (List.mem_append_right _ (List.mem_append_left _ hw))))))))))
  · exact List.mem_append_right _ (List.mem_append_right _ (List.mem_append_right _ (List.mem_append_right _ (List.mem_append_right _ (List.mem_append_right _ (List.mem_append_right _ (List.mem_append_right _ (List.mem_append_right _ (List.mem_append_right _ (List.mem_append_right _ (hw)))))))))))
theorem tbs_in {j : Nat} {w : Cond} (h : w ∈ tbs.getD j []) : w ∈ lw_tbl := by
  rw [List.getD_eq_getElem?_getD] at h
  cases e : tbs[j]? with
  | none => rw [e] at h; exact (List.not_mem_nil (show w ∈ ([] : List Cond) from h)).elim
  | some l => rw [e] at h; exact tbs_all l (List.mem_of_getElem? e) w h
theorem goodIn_q (ws : List Cond) (ps : List (Nat × Nat)) (hp : ws = ps.filterMap (fun q => (tbs.getD q.1 [])[q.2]?)) (h : ws.all goodWord = true) : GoodIn lw_tbl ws := by
  intro w hw
  have h1 := List.all_eq_true.mp h w hw
  rw [hp] at hw
  obtain ⟨q, -, hq⟩ := List.mem_filterMap.mp hw
  exact ⟨tbs_in (List.mem_of_getElem? hq), good_of_word h1⟩
set_option maxRecDepth 100000 in
set_option maxHeartbeats 4000000 in
theorem uL_0 : GoodIn lw_tbl ((uL.drop 0).take 40) := goodIn_q _ [(5, 163), (1, 5), (6, 27), (1, 5), (6, 51), (1, 5), (5, 159), (1, 5), (6, 59), (1, 5), (6, 23), (1, 5), (5, 215), (1, 5), (5, 195), (1, 5), (6, 39), (1, 5), (5, 151), (1, 5), (5, 219), (1, 5), (5, 203), (1, 5), (5, 191), (1, 5), (6, 35), (1, 5), (5, 231), (1, 5), (5, 207), (1, 5), (5, 239), (1, 5), (6, 7), (1, 5), (5, 167), (1, 5), (5, 175), (1, 5)] rfl rfl
set_option maxRecDepth 100000 in
set_option maxHeartbeats 4000000 in
theorem uL_40 : GoodIn lw_tbl ((uL.drop 40).take 40) := goodIn_q _ [(5, 183), (1, 5), (5, 227), (1, 5), (6, 43), (1, 5), (6, 11), (1, 5), (6, 63), (1, 5), (5, 171), (1, 5), (5, 179), (1, 5), (4, 114), (1, 5), (6, 15), (1, 5), (6, 19), (1, 5), (5, 155), (1, 5), (6, 3), (1, 5), (5, 187), (1, 5), (5, 211), (1, 5), (6, 47), (1, 5), (5, 235), (1, 5), (5, 199), (1, 5), (6, 55), (1, 5), (5, 223), (1, 5), (6, 31), (1, 5)] rfl rfl
set_option maxRecDepth 100000 in
set_option maxHeartbeats 4000000 in
theorem uL_80 : GoodIn lw_tbl ((uL.drop 80).take 40) := goodIn_q _ [(3, 234), (1, 4), (3, 230), (1, 4), (1, 79), (1, 4), (3, 238), (1, 4), (3, 225), (1, 4), (4, 17), (1, 4), (3, 214), (1, 4), (3, 217), (1, 4), (4, 7), (1, 4), (3, 210), (1, 4), (4, 2), (1, 4), (3, 221), (1, 4), (6, 130), (1, 7), (6, 117), (1, 7), (6, 145), (1, 7), (6, 138), (1, 7), (6, 175), (1, 7), (6, 133), (1, 7), (6, 148), (1, 7), (6, 156), (1, 7)] rfl rfl
set_option maxRecDepth 100000 in
set_option maxHeartbeats 4000000 in
theorem uL_120 : GoodIn lw_tbl ((uL.drop 120).take 40) := goodIn_q _ [(6, 160), (1, 7), (6, 125), (1, 7), (6, 102), (1, 7), (6, 141), (1, 7), (6, 108), (1, 7), (6, 113), (1, 7), (6, 121), (1, 7), (6, 152), (1, 7), (6, 170), (1, 7), (3, 171), (1, 9), (3, 183), (1, 9), (3, 187), (1, 9), (3, 159), (1, 9), (3, 175), (1, 9), (3, 143), (1, 9), (4, 65), (1, 9), (4, 60), (1, 9), (6, 80), (1, 6), (6, 98), (1, 6), (6, 184), (1, 6)] rfl rfl
set_option maxRecDepth 100000 in
set_option maxHeartbeats 4000000 in
theorem uL_160 : GoodIn lw_tbl ((uL.drop 160).take 40) := goodIn_q _ [(6, 188), (1, 6), (6, 180), (1, 6), (6, 85), (1, 6), (6, 94), (1, 6), (6, 195), (1, 6), (6, 89), (1, 6), (6, 72), (1, 6), (6, 200), (1, 6), (6, 67), (1, 6), (4, 56), (1, 3), (3, 206), (1, 3), (3, 199), (1, 3), (3, 203), (1, 3), (4, 45), (1, 3), (4, 218), (1, 3), (4, 52), (1, 3), (4, 49), (1, 3), (3, 195), (1, 3), (3, 179), (1, 11), (4, 182), (1, 11)] rfl rfl
set_option maxRecDepth 100000 in
set_option maxHeartbeats 4000000 in
theorem uL_200 : GoodIn lw_tbl ((uL.drop 200).take 40) := goodIn_q _ [(3, 191), (1, 11), (5, 147), (1, 11), (7, 231), (1, 11), (5, 142), (1, 11), (4, 98), (1, 11), (3, 147), (1, 11), (4, 109), (1, 11), (4, 89), (1, 11), (4, 104), (1, 11), (4, 93), (1, 11), (4, 37), (1, 11), (4, 41), (1, 11), (7, 37), (1, 11), (7, 139), (1, 11), (7, 144), (1, 11), (7, 73), (1, 11), (7, 152), (1, 11), (7, 15), (1, 8), (7, 5), (1, 8), (7, 24), (1, 8)] rfl rfl
set_option maxRecDepth 100000 in
set_option maxHeartbeats 4000000 in
theorem uL_240 : GoodIn lw_tbl ((uL.drop 240).take 40) := goodIn_q _ [(7, 45), (1, 8), (4, 118), (1, 8), (7, 9), (1, 8), (7, 1), (1, 8), (7, 18), (1, 8), (7, 41), (1, 8), (3, 167), (1, 2), (3, 163), (1, 2), (3, 135), (1, 2), (3, 151), (1, 2), (4, 200), (1, 2), (4, 83), (1, 2), (5, 9), (1, 2), (4, 236), (1, 2), (4, 232), (1, 2), (5, 13), (1, 2), (7, 148), (1, 2), (7, 136), (1, 2), (5, 5), (1, 2), (7, 78), (1, 2)] rfl rfl
set_option maxRecDepth 100000 in
set_option maxHeartbeats 4000000 in
theorem uL_280 : GoodIn lw_tbl ((uL.drop 280).take 40) := goodIn_q _ [(7, 83), (1, 2), (4, 169), (1, 10), (4, 165), (1, 10), (4, 208), (1, 10), (4, 139), (1, 10), (4, 222), (1, 10), (4, 212), (1, 10), (4, 135), (1, 10), (4, 153), (1, 10), (4, 131), (1, 10), (4, 161), (1, 10), (4, 196), (1, 10), (4, 204), (1, 10), (4, 173), (1, 10), (4, 188), (1, 10), (4, 192), (1, 10), (4, 149), (1, 10), (4, 177), (1, 10), (4, 156), (1, 10), (4, 143), (1, 10)] rfl rfl
set_option maxRecDepth 100000 in
set_option maxHeartbeats 4000000 in
theorem uL_320 : GoodIn lw_tbl ((uL.drop 320).take 40) := goodIn_q _ [(4, 126), (1, 10), (5, 17), (1, 10), (5, 1), (1, 10), (4, 228), (1, 10), (4, 21), (1, 12), (4, 13), (1, 12), (4, 26), (1, 12), (4, 69), (1, 12), (5, 137), (1, 12), (4, 79), (1, 12), (4, 73), (1, 12), (7, 62), (1, 12), (7, 197), (1, 12), (7, 192), (1, 12), (7, 188), (1, 12), (7, 172), (1, 12), (7, 57), (1, 12), (7, 168), (1, 12), (5, 27), (1, 1), (5, 36), (1, 1)] rfl rfl
set_option maxRecDepth 100000 in
set_option maxHeartbeats 4000000 in
theorem uL_360 : GoodIn lw_tbl ((uL.drop 360).take 40) := goodIn_q _ [(6, 213), (1, 1), (3, 139), (1, 1), (7, 222), (1, 1), (7, 227), (1, 1), (6, 209), (1, 1), (7, 213), (1, 1), (5, 22), (1, 1), (6, 236), (1, 1), (5, 127), (1, 1), (4, 122), (1, 1), (7, 69), (1, 1), (7, 164), (1, 1), (7, 184), (1, 1), (7, 52), (1, 1), (7, 33), (1, 1), (7, 160), (1, 1), (3, 131), (1, 1), (5, 133), (1, 1), (7, 180), (1, 1), (7, 206), (1, 1)] rfl rfl
set_option maxRecDepth 100000 in
set_option maxHeartbeats 4000000 in
theorem uL_400 : GoodIn lw_tbl ((uL.drop 400).take 40) := goodIn_q _ [(9, 70), (1, 13), (10, 115), (1, 13), (10, 6), (1, 13), (10, 28), (1, 13), (9, 130), (1, 13), (9, 138), (1, 13), (11, 13), (1, 13), (10, 63), (1, 13), (9, 90), (1, 13), (9, 166), (1, 13), (9, 98), (1, 13), (9, 232), (1, 13), (9, 154), (1, 13), (9, 134), (1, 13), (9, 118), (1, 13), (10, 36), (1, 13), (10, 222), (1, 13), (10, 167), (1, 13), (10, 186), (1, 13), (11, 64), (1, 13)] rfl rfl
set_option maxRecDepth 100000 in
set_option maxHeartbeats 4000000 in
theorem uL_440 : GoodIn lw_tbl ((uL.drop 440).take 40) := goodIn_q _ [(11, 9), (1, 13), (9, 61), (1, 13), (9, 224), (1, 13), (9, 150), (1, 13), (9, 126), (1, 13), (9, 114), (1, 13), (10, 32), (1, 13), (9, 177), (1, 13), (9, 181), (1, 13), (10, 79), (1, 13), (10, 40), (1, 13), (9, 110), (1, 13), (10, 128), (1, 13), (10, 233), (1, 13), (9, 185), (1, 13), (10, 92), (1, 13), (10, 164), (1, 13), (9, 193), (1, 13), (9, 122), (1, 13), (10, 48), (1, 13)] rfl rfl
set_option maxRecDepth 100000 in
set_option maxHeartbeats 4000000 in
theorem uL_480 : GoodIn lw_tbl ((uL.drop 480).take 40) := goodIn_q _ [(11, 29), (1, 13), (9, 162), (1, 13), (9, 146), (1, 13), (11, 41), (1, 13), (9, 197), (1, 13), (9, 201), (1, 13), (11, 25), (1, 13), (9, 235), (1, 13), (9, 209), (1, 13), (10, 44), (1, 13), (8, 7), (1, 13), (9, 78), (1, 13), (10, 190), (1, 13), (11, 21), (1, 13), (10, 148), (1, 13), (10, 198), (1, 13), (10, 202), (1, 13), (10, 206), (1, 13), (10, 160), (1, 13), (10, 210), (1, 13)] rfl rfl
set_option maxRecDepth 100000 in
set_option maxHeartbeats 4000000 in
theorem uL_520 : GoodIn lw_tbl ((uL.drop 520).take 40) := goodIn_q _ [(10, 67), (1, 13), (11, 45), (1, 13), (10, 102), (1, 13), (9, 215), (1, 13), (10, 109), (1, 13), (11, 5), (1, 13), (9, 86), (1, 13), (10, 226), (1, 13), (10, 124), (1, 13), (10, 52), (1, 13), (10, 99), (1, 13), (10, 83), (1, 13), (10, 112), (1, 13), (9, 158), (1, 13), (9, 74), (1, 13), (10, 237), (1, 13), (10, 171), (1, 13), (10, 76), (1, 13), (10, 24), (1, 13), (10, 72), (1, 13)] rfl rfl
set_option maxRecDepth 100000 in
set_option maxHeartbeats 4000000 in
theorem uL_560 : GoodIn lw_tbl ((uL.drop 560).take 40) := goodIn_q _ [(10, 86), (1, 13), (9, 106), (1, 13), (9, 102), (1, 13), (9, 82), (1, 13), (9, 189), (1, 13), (11, 17), (1, 13), (10, 89), (1, 13), (10, 132), (1, 13), (9, 228), (1, 13), (9, 205), (1, 13), (10, 15), (1, 13), (10, 214), (1, 13), (9, 170), (1, 13), (10, 95), (1, 13), (10, 106), (1, 13), (10, 3), (1, 13), (10, 194), (1, 13), (10, 218), (1, 13), (10, 60), (1, 13), (10, 56), (1, 13)] rfl rfl
set_option maxRecDepth 100000 in
set_option maxHeartbeats 4000000 in
theorem uL_600 : GoodIn lw_tbl ((uL.drop 600).take 40) := goodIn_q _ [(10, 183), (1, 13), (11, 37), (1, 13), (11, 33), (1, 13), (10, 179), (1, 13), (10, 19), (1, 13), (9, 94), (1, 13), (9, 239), (1, 13), (10, 120), (1, 13), (10, 152), (1, 13), (9, 57), (1, 13), (11, 1), (1, 13), (9, 218), (1, 13), (10, 140), (1, 13), (10, 144), (1, 13), (9, 174), (1, 13), (10, 136), (1, 13), (9, 142), (1, 13), (10, 156), (1, 13), (9, 66), (1, 13), (8, 10), (1, 13)] rfl rfl
set_option maxRecDepth 100000 in
set_option maxHeartbeats 4000000 in
theorem uL_640 : GoodIn lw_tbl ((uL.drop 640).take 40) := goodIn_q _ [(11, 49), (1, 13), (10, 175), (1, 13), (10, 11), (1, 13), (11, 68), (1, 13), (11, 73), (1, 13), (11, 61), (1, 13), (11, 57), (1, 13), (11, 53), (1, 13), (10, 230), (1, 13), (6, 163), (1, 21), (1, 162), (1, 164), (1, 166), (1, 168), (1, 170), (1, 172), (1, 174), (1, 176), (1, 178), (1, 180), (1, 88), (1, 90), (1, 92), (1, 94), (1, 96), (1, 98), (1, 100), (1, 102), (1, 205), (1, 207)] rfl rfl
set_option maxRecDepth 100000 in
set_option maxHeartbeats 4000000 in
theorem uL_680 : GoodIn lw_tbl ((uL.drop 680).take 40) := goodIn_q _ [(1, 209), (1, 211), (1, 213), (1, 215), (1, 217), (1, 219), (1, 221), (1, 223), (2, 81), (2, 83), (2, 85), (2, 87), (2, 89), (2, 91), (2, 5), (2, 7), (2, 9), (2, 11), (2, 13), (2, 15), (2, 17), (2, 19), (2, 21), (2, 23), (2, 25), (2, 27), (2, 29), (2, 31), (2, 33), (2, 35), (2, 37), (1, 119), (1, 121), (1, 123), (1, 125), (1, 127), (1, 129), (1, 131), (1, 133), (1, 135)] rfl rfl
set_option maxRecDepth 100000 in
set_option maxHeartbeats 4000000 in
theorem uL_720 : GoodIn lw_tbl ((uL.drop 720).take 40) := goodIn_q _ [(1, 137), (3, 43), (3, 45), (3, 47), (3, 49), (3, 51), (3, 53), (3, 55), (3, 57), (3, 59), (3, 61), (3, 63), (3, 65), (3, 67), (3, 69), (3, 71), (3, 73), (2, 54), (2, 56), (2, 58), (2, 60), (2, 62), (2, 64), (2, 66), (1, 54), (1, 56), (1, 58), (1, 60), (2, 118), (2, 120), (2, 122), (2, 124), (2, 126), (2, 128), (2, 130), (2, 132), (2, 134), (2, 136), (2, 138), (2, 140)] rfl rfl
set_option maxRecDepth 100000 in
set_option maxHeartbeats 4000000 in
theorem uL_760 : GoodIn lw_tbl ((uL.drop 760).take 40) := goodIn_q _ [(2, 142), (2, 144), (2, 146), (2, 148), (2, 150), (2, 187), (2, 189), (2, 191), (2, 193), (2, 195), (2, 197), (2, 199), (2, 201), (2, 203), (2, 205), (2, 207), (2, 209), (3, 93), (3, 95), (3, 97), (3, 99), (3, 101), (3, 103), (3, 105), (3, 107), (3, 109), (3, 111), (3, 113), (3, 115), (3, 117), (3, 119), (3, 121), (3, 123), (3, 125), (8, 105), (8, 107), (8, 109), (8, 111), (8, 113), (8, 115)] rfl rfl
set_option maxRecDepth 100000 in
set_option maxHeartbeats 4000000 in
theorem uL_800 : GoodIn lw_tbl ((uL.drop 800).take 40) := goodIn_q _ [(8, 117), (8, 119), (8, 121), (8, 123), (8, 125), (8, 127), (8, 129), (8, 131), (8, 133), (8, 135), (8, 137), (8, 139), (8, 141), (8, 143), (8, 145), (8, 147), (8, 149), (8, 151), (8, 153), (8, 155), (8, 157), (8, 159), (8, 161), (8, 163), (8, 165), (8, 167), (8, 169), (8, 171), (8, 173), (8, 175), (8, 177), (8, 179), (8, 181), (8, 183), (8, 185), (8, 187), (8, 189), (8, 191), (8, 193), (8, 195)] rfl rfl
set_option maxRecDepth 100000 in
set_option maxHeartbeats 4000000 in
theorem uL_840 : GoodIn lw_tbl ((uL.drop 840).take 40) := goodIn_q _ [(8, 197), (8, 199), (8, 201), (8, 203), (8, 205), (8, 207), (8, 209), (8, 211), (8, 213), (8, 215), (8, 217), (8, 219), (8, 221), (8, 223), (8, 225), (8, 227), (8, 229), (8, 231), (8, 233), (8, 235), (8, 237), (8, 239), (9, 1), (9, 3), (9, 5), (9, 7), (9, 9), (9, 11), (9, 13), (9, 15), (9, 17), (9, 19), (9, 21), (9, 23), (9, 25), (9, 27), (9, 29), (9, 31), (9, 33), (9, 35)] rfl rfl
set_option maxRecDepth 100000 in
set_option maxHeartbeats 4000000 in
theorem uL_880 : GoodIn lw_tbl ((uL.drop 880).take 40) := goodIn_q _ [(9, 37), (9, 39), (9, 41), (9, 43), (9, 45), (9, 47), (9, 49), (9, 51), (1, 146), (1, 148), (1, 150), (1, 152), (1, 154), (1, 156), (1, 158), (1, 159), (1, 160), (1, 161), (1, 80), (1, 81), (1, 82), (1, 83), (1, 84), (1, 85), (1, 86), (3, 35), (2, 221), (3, 10), (3, 14), (2, 229), (2, 236), (3, 2), (1, 87), (1, 195), (1, 196), (1, 202), (1, 203), (1, 204), (1, 197), (1, 198)] rfl rfl
set_option maxRecDepth 100000 in
set_option maxHeartbeats 4000000 in
theorem uL_920 : GoodIn lw_tbl ((uL.drop 920).take 40) := goodIn_q _ [(1, 199), (1, 200), (1, 201), (2, 75), (2, 76), (3, 30), (2, 77), (2, 78), (1, 44), (2, 79), (2, 80), (2, 214), (2, 228), (2, 235), (3, 1), (3, 25), (3, 40), (2, 223), (3, 37), (3, 15), (1, 231), (1, 232), (1, 233), (1, 234), (1, 235), (1, 236), (1, 237), (1, 230), (2, 4), (2, 1), (2, 0), (2, 217), (1, 47), (1, 238), (1, 227), (1, 229), (1, 239), (2, 2), (2, 3), (3, 31)] rfl rfl
set_option maxRecDepth 100000 in
set_option maxHeartbeats 4000000 in
theorem uL_960 : GoodIn lw_tbl ((uL.drop 960).take 40) := goodIn_q _ [(1, 153), (1, 147), (1, 155), (1, 149), (1, 151), (1, 157), (1, 106), (1, 108), (1, 112), (1, 113), (1, 114), (1, 115), (1, 116), (1, 117), (1, 118), (1, 110), (2, 227), (2, 234), (2, 220), (3, 27), (3, 5), (3, 12), (3, 16), (2, 219), (2, 226), (2, 233), (3, 0), (3, 7), (3, 9), (3, 13), (3, 18), (3, 20), (3, 22), (3, 24), (3, 29), (3, 33), (2, 213), (3, 42), (3, 39), (2, 178)] rfl rfl
set_option maxRecDepth 100000 in
set_option maxHeartbeats 4000000 in
theorem uL_1000 : GoodIn lw_tbl ((uL.drop 1000).take 40) := goodIn_q _ [(2, 173), (2, 176), (1, 52), (2, 47), (2, 48), (2, 49), (2, 50), (2, 52), (2, 53), (2, 215), (3, 34), (2, 168), (2, 51), (2, 222), (3, 26), (3, 3), (2, 230), (2, 237), (2, 170), (2, 172), (2, 175), (1, 41), (1, 42), (1, 53), (1, 48), (2, 103), (2, 104), (2, 105), (2, 106), (2, 107), (2, 102), (2, 110), (2, 111), (2, 100), (2, 117), (2, 114), (2, 108), (1, 111), (1, 49), (2, 112)] rfl rfl
set_option maxRecDepth 100000 in
set_option maxHeartbeats 4000000 in
theorem uL_1040 : GoodIn lw_tbl ((uL.drop 1040).take 40) := goodIn_q _ [(2, 115), (2, 113), (2, 116), (1, 45), (2, 109), (2, 218), (3, 6), (3, 8), (3, 28), (1, 107), (2, 232), (2, 239), (1, 109), (2, 225), (3, 38), (3, 17), (2, 169), (2, 171), (2, 174), (2, 177), (2, 179), (2, 180), (2, 181), (2, 183), (2, 184), (2, 185), (2, 167), (2, 186), (1, 46), (1, 50), (3, 76), (3, 77), (3, 78), (3, 80), (3, 81), (3, 82), (3, 83), (3, 84), (3, 85), (3, 86)] rfl rfl
set_option maxRecDepth 100000 in
set_option maxHeartbeats 4000000 in
theorem uL_1080 : GoodIn lw_tbl ((uL.drop 1080).take 40) := goodIn_q _ [(1, 43), (3, 87), (2, 216), (3, 36), (3, 11), (2, 224), (3, 4), (3, 88), (1, 226), (3, 89), (1, 228), (3, 90), (3, 91), (2, 231), (2, 238), (3, 19), (3, 21), (3, 23), (2, 182), (2, 101), (3, 92), (1, 51), (3, 32), (3, 41), (8, 12), (8, 14), (8, 17), (8, 18), (8, 19), (8, 20), (8, 21), (8, 22), (8, 23), (8, 24), (8, 26), (8, 27), (8, 28), (8, 29), (8, 31), (8, 32)] rfl rfl
set_option maxRecDepth 100000 in
set_option maxHeartbeats 4000000 in
theorem uL_1120 : GoodIn lw_tbl ((uL.drop 1120).take 40) := goodIn_q _ [(8, 33), (8, 34), (8, 35), (8, 36), (8, 37), (8, 38), (8, 39), (8, 40), (8, 41), (8, 42), (8, 52), (8, 53), (8, 54), (8, 55), (8, 56), (8, 57), (8, 58), (8, 59), (8, 60), (8, 62), (8, 63), (8, 64), (8, 65), (8, 66), (8, 67), (8, 68), (8, 69), (8, 70), (8, 71), (8, 73), (8, 74), (8, 75), (8, 79), (8, 80), (8, 81), (8, 82), (8, 83), (8, 84), (8, 97), (8, 98)] rfl rfl
set_option maxRecDepth 100000 in
set_option maxHeartbeats 4000000 in
theorem uL_1160 : GoodIn lw_tbl ((uL.drop 1160).take 40) := goodIn_q _ [(8, 100), (8, 101), (8, 102), (8, 104), (8, 11), (8, 13), (8, 15), (8, 16), (8, 25), (8, 61), (8, 51), (8, 72), (8, 78), (8, 76), (8, 77), (8, 44), (8, 30), (8, 43), (8, 45), (8, 85), (8, 91), (8, 87), (8, 89), (8, 88), (8, 90), (8, 86), (8, 46), (8, 48), (8, 49), (8, 50), (8, 47), (8, 92), (8, 93), (8, 95), (8, 94), (8, 96), (8, 99), (8, 103), (3, 226), (6, 73)] rfl rfl
set_option maxRecDepth 100000 in
set_option maxHeartbeats 4000000 in
theorem uL_1200 : GoodIn lw_tbl ((uL.drop 1200).take 40) := goodIn_q _ [(4, 53), (4, 100), (4, 22), (4, 27), (4, 74), (5, 143), (11, 69), (6, 103), (6, 126), (6, 134), (6, 74), (6, 81), (7, 232), (4, 99), (7, 26), (4, 157), (8, 4), (10, 7), (9, 62), (10, 64), (10, 68), (10, 80), (10, 20), (10, 116), (6, 164), (6, 165), (6, 166), (11, 74), (4, 3), (4, 8), (6, 104), (6, 171), (7, 132), (7, 10), (7, 19), (4, 144), (8, 2), (9, 219), (9, 210), (5, 160)] rfl rfl
set_option maxRecDepth 100000 in
set_option maxHeartbeats 4000000 in
theorem uL_1240 : GoodIn lw_tbl ((uL.drop 1240).take 40) := goodIn_q _ [(5, 162), (0, 46), (5, 188), (5, 190), (0, 53), (5, 196), (5, 198), (0, 55), (5, 172), (5, 174), (0, 49), (5, 152), (5, 154), (0, 44), (6, 36), (6, 38), (0, 75), (6, 44), (6, 46), (0, 77), (6, 48), (6, 50), (0, 78), (6, 60), (6, 62), (0, 81), (5, 156), (5, 158), (0, 45), (5, 164), (5, 166), (0, 47), (5, 168), (5, 170), (0, 48), (5, 176), (5, 178), (0, 50), (5, 192), (5, 194)] rfl rfl
set_option maxRecDepth 100000 in
set_option maxHeartbeats 4000000 in
theorem uL_1280 : GoodIn lw_tbl ((uL.drop 1280).take 40) := goodIn_q _ [(0, 54), (5, 220), (5, 222), (0, 61), (5, 184), (5, 186), (0, 52), (5, 204), (5, 206), (0, 57), (5, 212), (5, 214), (0, 59), (5, 208), (5, 210), (0, 58), (6, 40), (6, 42), (0, 76), (5, 180), (5, 182), (0, 51), (5, 224), (5, 226), (0, 62), (5, 236), (5, 238), (0, 65), (5, 200), (5, 202), (0, 56), (5, 216), (5, 218), (0, 60), (5, 228), (5, 230), (0, 63), (5, 232), (5, 234), (0, 64)] rfl rfl
set_option maxRecDepth 100000 in
set_option maxHeartbeats 4000000 in
theorem uL_1320 : GoodIn lw_tbl ((uL.drop 1320).take 40) := goodIn_q _ [(6, 0), (6, 2), (0, 66), (6, 8), (6, 10), (0, 68), (6, 12), (6, 14), (0, 69), (6, 20), (6, 22), (0, 71), (6, 24), (6, 26), (0, 72), (6, 28), (6, 30), (0, 73), (6, 4), (6, 6), (0, 67), (6, 16), (6, 18), (0, 70), (6, 32), (6, 34), (0, 74), (6, 52), (6, 54), (0, 79), (6, 56), (6, 58), (0, 80), (3, 211), (3, 213), (0, 6), (4, 10), (4, 11), (4, 12), (4, 14)] rfl rfl
set_option maxRecDepth 100000 in
set_option maxHeartbeats 4000000 in
theorem uL_1360 : GoodIn lw_tbl ((uL.drop 1360).take 40) := goodIn_q _ [(4, 16), (0, 13), (3, 227), (3, 229), (0, 9), (3, 215), (3, 216), (3, 218), (3, 220), (0, 7), (3, 231), (3, 233), (0, 10), (3, 239), (4, 1), (0, 12), (3, 235), (3, 237), (0, 11), (4, 5), (4, 6), (3, 222), (3, 224), (0, 8), (4, 18), (4, 19), (4, 20), (6, 105), (6, 107), (0, 86), (6, 110), (6, 112), (0, 87), (6, 122), (6, 124), (0, 90), (6, 135), (6, 137), (0, 92), (6, 142)] rfl rfl
set_option maxRecDepth 100000 in
set_option maxHeartbeats 4000000 in
theorem uL_1400 : GoodIn lw_tbl ((uL.drop 1400).take 40) := goodIn_q _ [(6, 144), (0, 93), (6, 149), (6, 151), (0, 94), (6, 153), (6, 155), (0, 95), (6, 157), (6, 159), (0, 96), (6, 172), (6, 174), (0, 98), (6, 109), (6, 92), (6, 93), (6, 176), (6, 70), (6, 71), (6, 114), (6, 116), (0, 88), (6, 118), (6, 120), (0, 89), (6, 139), (6, 140), (6, 127), (6, 129), (0, 91), (6, 131), (6, 132), (6, 146), (6, 147), (6, 161), (6, 162), (6, 167), (6, 169), (0, 97)] rfl rfl
set_option maxRecDepth 100000 in
set_option maxHeartbeats 4000000 in
theorem uL_1440 : GoodIn lw_tbl ((uL.drop 1440).take 40) := goodIn_q _ [(3, 144), (3, 145), (3, 146), (3, 148), (3, 149), (3, 150), (3, 156), (3, 158), (0, 1), (3, 172), (3, 174), (0, 3), (3, 192), (3, 193), (3, 194), (3, 196), (3, 197), (3, 198), (3, 200), (3, 201), (3, 202), (4, 42), (4, 43), (4, 44), (4, 57), (4, 59), (0, 16), (3, 168), (3, 170), (0, 2), (3, 176), (3, 177), (3, 178), (3, 180), (3, 182), (0, 4), (3, 184), (3, 186), (0, 5), (3, 188)] rfl rfl
set_option maxRecDepth 100000 in
set_option maxHeartbeats 4000000 in
theorem uL_1480 : GoodIn lw_tbl ((uL.drop 1480).take 40) := goodIn_q _ [(3, 189), (3, 190), (4, 61), (4, 39), (4, 40), (4, 62), (4, 64), (0, 17), (4, 66), (4, 67), (4, 68), (4, 85), (4, 81), (4, 82), (3, 160), (3, 161), (3, 162), (6, 201), (4, 97), (6, 91), (6, 92), (6, 93), (6, 69), (6, 70), (6, 71), (6, 189), (3, 161), (3, 162), (6, 196), (5, 11), (5, 12), (6, 68), (3, 165), (3, 166), (6, 75), (4, 35), (4, 36), (6, 76), (4, 39), (4, 40)] rfl rfl
set_option maxRecDepth 100000 in
set_option maxHeartbeats 4000000 in
theorem uL_1520 : GoodIn lw_tbl ((uL.drop 1520).take 40) := goodIn_q _ [(6, 77), (6, 79), (0, 82), (6, 82), (6, 84), (0, 83), (6, 86), (6, 88), (0, 84), (6, 95), (6, 97), (0, 85), (6, 99), (6, 100), (6, 101), (6, 177), (6, 179), (0, 99), (6, 90), (4, 32), (1, 20), (4, 33), (6, 181), (6, 183), (0, 100), (6, 185), (6, 187), (0, 101), (3, 204), (3, 205), (3, 207), (3, 208), (3, 209), (4, 34), (4, 35), (4, 36), (4, 38), (4, 39), (4, 40), (4, 46)] rfl rfl
set_option maxRecDepth 100000 in
set_option maxHeartbeats 4000000 in
theorem uL_1560 : GoodIn lw_tbl ((uL.drop 1560).take 40) := goodIn_q _ [(4, 48), (0, 15), (4, 50), (4, 51), (4, 54), (4, 55), (4, 183), (3, 177), (3, 178), (4, 94), (4, 35), (4, 36), (4, 95), (4, 39), (4, 40), (4, 96), (4, 97), (4, 90), (4, 92), (0, 19), (4, 101), (4, 103), (0, 20), (4, 105), (4, 32), (1, 20), (4, 33), (4, 110), (4, 77), (4, 78), (4, 111), (4, 112), (4, 113), (7, 74), (4, 234), (4, 235), (7, 75), (7, 76), (7, 77), (7, 80)] rfl rfl
set_option maxRecDepth 100000 in
set_option maxHeartbeats 4000000 in
theorem uL_1600 : GoodIn lw_tbl ((uL.drop 1600).take 40) := goodIn_q _ [(7, 81), (7, 82), (7, 133), (7, 134), (7, 135), (7, 137), (7, 138), (7, 141), (7, 143), (0, 109), (7, 149), (7, 151), (0, 110), (7, 145), (7, 146), (7, 147), (7, 153), (3, 161), (3, 162), (7, 2), (7, 4), (0, 103), (7, 21), (7, 23), (0, 106), (7, 42), (7, 44), (0, 107), (7, 6), (7, 8), (0, 104), (7, 25), (3, 155), (3, 154), (1, 19), (7, 12), (7, 14), (0, 105), (7, 16), (7, 17)] rfl rfl
set_option maxRecDepth 100000 in
set_option maxHeartbeats 4000000 in
theorem uL_1640 : GoodIn lw_tbl ((uL.drop 1640).take 40) := goodIn_q _ [(3, 152), (3, 133), (3, 134), (3, 153), (3, 155), (3, 154), (1, 19), (3, 164), (3, 165), (3, 166), (4, 84), (3, 161), (3, 162), (4, 233), (4, 234), (4, 235), (5, 6), (4, 230), (4, 231), (5, 7), (5, 8), (5, 10), (5, 11), (5, 12), (4, 127), (3, 145), (3, 146), (4, 128), (4, 130), (0, 21), (4, 178), (3, 193), (3, 194), (4, 213), (3, 201), (3, 202), (4, 214), (4, 43), (4, 44), (4, 215)] rfl rfl
set_option maxRecDepth 100000 in
set_option maxHeartbeats 4000000 in
theorem uL_1680 : GoodIn lw_tbl ((uL.drop 1680).take 40) := goodIn_q _ [(4, 216), (4, 217), (4, 219), (4, 221), (0, 37), (4, 224), (3, 133), (3, 134), (4, 238), (5, 0), (0, 39), (4, 132), (4, 134), (0, 22), (4, 146), (4, 148), (0, 24), (4, 150), (4, 152), (0, 25), (4, 158), (4, 160), (0, 26), (4, 209), (4, 211), (0, 36), (4, 136), (3, 165), (3, 166), (4, 137), (4, 138), (4, 140), (4, 142), (0, 23), (4, 154), (4, 155), (4, 162), (4, 164), (0, 27), (4, 205)] rfl rfl
set_option maxRecDepth 100000 in
set_option maxHeartbeats 4000000 in
theorem uL_1720 : GoodIn lw_tbl ((uL.drop 1720).take 40) := goodIn_q _ [(4, 207), (0, 35), (4, 166), (4, 168), (0, 28), (4, 170), (4, 172), (0, 29), (4, 174), (4, 176), (0, 30), (4, 184), (3, 177), (3, 178), (4, 185), (4, 187), (0, 31), (4, 189), (4, 191), (0, 32), (4, 193), (4, 195), (0, 33), (4, 201), (4, 203), (0, 34), (4, 197), (3, 189), (3, 190), (4, 198), (4, 199), (4, 179), (4, 180), (4, 181), (4, 223), (4, 39), (4, 40), (4, 225), (4, 227), (0, 38)] rfl rfl
set_option maxRecDepth 100000 in
set_option maxHeartbeats 4000000 in
theorem uL_1760 : GoodIn lw_tbl ((uL.drop 1760).take 40) := goodIn_q _ [(4, 237), (4, 67), (4, 68), (4, 229), (4, 230), (4, 231), (5, 2), (5, 3), (5, 4), (5, 14), (5, 16), (0, 40), (5, 18), (5, 11), (5, 12), (4, 23), (4, 25), (0, 14), (4, 28), (4, 29), (1, 20), (4, 30), (4, 31), (4, 32), (1, 20), (4, 33), (4, 80), (4, 81), (4, 82), (5, 138), (4, 67), (4, 68), (4, 70), (4, 72), (0, 18), (4, 75), (3, 161), (3, 162), (4, 76), (4, 77)] rfl rfl
set_option maxRecDepth 100000 in
set_option maxHeartbeats 4000000 in
theorem uL_1800 : GoodIn lw_tbl ((uL.drop 1800).take 40) := goodIn_q _ [(4, 78), (7, 58), (4, 234), (4, 235), (7, 59), (7, 61), (0, 108), (7, 169), (7, 171), (0, 112), (7, 173), (7, 146), (7, 147), (7, 189), (7, 191), (0, 114), (7, 193), (3, 165), (3, 166), (7, 194), (4, 230), (4, 231), (7, 195), (7, 196), (7, 199), (5, 11), (5, 12), (7, 198), (4, 199), (5, 120), (4, 234), (4, 235), (3, 132), (3, 133), (3, 134), (3, 140), (3, 141), (3, 142), (4, 86), (4, 87)] rfl rfl
set_option maxRecDepth 100000 in
set_option maxHeartbeats 4000000 in
theorem uL_1840 : GoodIn lw_tbl ((uL.drop 1840).take 40) := goodIn_q _ [(4, 88), (4, 106), (4, 107), (4, 108), (4, 115), (4, 116), (4, 117), (5, 130), (5, 132), (0, 43), (5, 134), (5, 135), (5, 136), (5, 139), (5, 140), (5, 141), (5, 144), (5, 145), (5, 146), (5, 148), (5, 149), (5, 150), (6, 64), (6, 65), (6, 66), (6, 190), (4, 35), (4, 36), (6, 191), (4, 39), (4, 40), (6, 192), (6, 193), (6, 194), (6, 197), (6, 198), (6, 199), (5, 19), (5, 21), (0, 41)] rfl rfl
set_option maxRecDepth 100000 in
set_option maxHeartbeats 4000000 in
theorem uL_1880 : GoodIn lw_tbl ((uL.drop 1880).take 40) := goodIn_q _ [(5, 23), (3, 149), (3, 150), (6, 210), (6, 212), (0, 102), (6, 238), (6, 239), (7, 0), (7, 34), (7, 35), (7, 36), (7, 38), (7, 39), (7, 40), (7, 54), (7, 55), (7, 56), (4, 123), (4, 124), (4, 125), (7, 70), (7, 71), (7, 72), (7, 161), (7, 163), (0, 111), (7, 165), (7, 166), (7, 167), (7, 181), (7, 183), (0, 113), (7, 185), (7, 186), (7, 187), (7, 215), (3, 165), (3, 166), (7, 224)] rfl rfl
set_option maxRecDepth 100000 in
set_option maxHeartbeats 4000000 in
theorem uL_1920 : GoodIn lw_tbl ((uL.drop 1920).take 40) := goodIn_q _ [(7, 226), (0, 115), (7, 228), (7, 229), (7, 230), (8, 5), (8, 6), (8, 8), (8, 9), (9, 115), (9, 117), (0, 125), (9, 131), (9, 133), (0, 129), (9, 147), (9, 149), (0, 133), (9, 163), (9, 165), (0, 137), (9, 155), (9, 157), (0, 135), (9, 143), (9, 145), (0, 132), (9, 151), (9, 153), (0, 134), (9, 159), (9, 161), (0, 136), (9, 175), (9, 176), (9, 171), (9, 173), (0, 139), (9, 127), (9, 129)] rfl rfl
set_option maxRecDepth 100000 in
set_option maxHeartbeats 4000000 in
theorem uL_1960 : GoodIn lw_tbl ((uL.drop 1960).take 40) := goodIn_q _ [(0, 128), (9, 135), (9, 137), (0, 130), (9, 139), (9, 141), (0, 131), (9, 167), (9, 169), (0, 138), (9, 91), (9, 93), (0, 119), (9, 190), (9, 192), (0, 143), (10, 161), (10, 163), (0, 175), (10, 145), (10, 147), (0, 172), (10, 165), (10, 166), (10, 168), (10, 170), (0, 176), (10, 180), (10, 182), (0, 178), (10, 184), (10, 185), (9, 216), (9, 217), (9, 212), (9, 214), (0, 148), (9, 206), (9, 208), (0, 147)] rfl rfl
set_option maxRecDepth 100000 in
set_option maxHeartbeats 4000000 in
theorem uL_2000 : GoodIn lw_tbl ((uL.drop 2000).take 40) := goodIn_q _ [(9, 221), (9, 223), (0, 149), (9, 87), (9, 89), (0, 118), (9, 95), (9, 97), (0, 120), (9, 83), (9, 85), (0, 117), (9, 103), (9, 105), (0, 122), (9, 111), (9, 113), (0, 124), (9, 182), (9, 184), (0, 141), (9, 99), (9, 101), (0, 121), (9, 107), (9, 109), (0, 123), (9, 119), (9, 121), (0, 126), (9, 123), (9, 125), (0, 127), (9, 178), (9, 180), (0, 140), (9, 186), (9, 188), (0, 142), (9, 198)] rfl rfl
set_option maxRecDepth 100000 in
set_option maxHeartbeats 4000000 in
theorem uL_2040 : GoodIn lw_tbl ((uL.drop 2040).take 40) := goodIn_q _ [(9, 200), (0, 145), (9, 202), (9, 204), (0, 146), (9, 225), (9, 227), (0, 150), (9, 229), (9, 231), (0, 151), (9, 233), (9, 234), (9, 236), (9, 238), (0, 152), (10, 0), (10, 2), (0, 153), (10, 4), (10, 5), (9, 79), (9, 81), (0, 116), (9, 194), (9, 196), (0, 144), (10, 61), (10, 62), (10, 84), (10, 85), (10, 65), (10, 66), (10, 69), (10, 71), (0, 165), (10, 77), (10, 78), (10, 87), (10, 88)] rfl rfl
set_option maxRecDepth 100000 in
set_option maxHeartbeats 4000000 in
theorem uL_2080 : GoodIn lw_tbl ((uL.drop 2080).take 40) := goodIn_q _ [(10, 93), (10, 94), (10, 53), (10, 55), (0, 163), (10, 100), (10, 101), (10, 107), (10, 108), (10, 110), (10, 111), (10, 113), (10, 114), (10, 49), (10, 51), (0, 162), (10, 57), (10, 59), (0, 164), (10, 73), (10, 75), (0, 166), (10, 81), (10, 82), (10, 90), (10, 91), (10, 96), (10, 98), (0, 167), (10, 103), (10, 105), (0, 168), (10, 25), (10, 27), (0, 156), (10, 33), (10, 35), (0, 158), (10, 37), (10, 39)] rfl rfl
set_option maxRecDepth 100000 in
set_option maxHeartbeats 4000000 in
theorem uL_2120 : GoodIn lw_tbl ((uL.drop 2120).take 40) := goodIn_q _ [(0, 159), (10, 41), (10, 43), (0, 160), (10, 45), (10, 47), (0, 161), (10, 16), (10, 18), (0, 154), (10, 21), (10, 23), (0, 155), (10, 29), (10, 31), (0, 157), (10, 117), (10, 119), (0, 169), (10, 125), (10, 127), (0, 170), (10, 141), (10, 143), (0, 171), (10, 149), (10, 151), (0, 173), (10, 157), (10, 159), (0, 174), (10, 176), (10, 178), (0, 177), (10, 203), (10, 205), (0, 181), (10, 199), (10, 201), (0, 180)] rfl rfl
set_option maxRecDepth 100000 in
set_option maxHeartbeats 4000000 in
theorem uL_2160 : GoodIn lw_tbl ((uL.drop 2160).take 40) := goodIn_q _ [(10, 207), (10, 209), (0, 182), (10, 195), (10, 197), (0, 179), (10, 227), (10, 229), (0, 186), (10, 231), (10, 232), (10, 223), (10, 225), (0, 185), (10, 234), (10, 236), (0, 187), (10, 238), (11, 0), (0, 188), (11, 2), (11, 4), (0, 189), (11, 18), (11, 20), (0, 193), (11, 26), (11, 28), (0, 195), (11, 30), (11, 32), (0, 196), (11, 34), (11, 36), (0, 197), (11, 14), (11, 16), (0, 192), (11, 22), (11, 24)] rfl rfl
set_option maxRecDepth 100000 in
set_option maxHeartbeats 4000000 in
theorem uL_2200 : GoodIn lw_tbl ((uL.drop 2200).take 40) := goodIn_q _ [(0, 194), (11, 10), (11, 12), (0, 191), (11, 38), (11, 40), (0, 198), (11, 6), (11, 8), (0, 190), (11, 65), (11, 67), (0, 204), (11, 62), (11, 63), (11, 70), (11, 72), (0, 205), (11, 58), (11, 60), (0, 203), (11, 54), (11, 56), (0, 202), (10, 219), (10, 221), (0, 184), (11, 42), (11, 44), (0, 199), (11, 46), (11, 48), (0, 200), (11, 50), (11, 52), (0, 201), (10, 215), (10, 217), (0, 183), (5, 33)] rfl rfl
set_option maxRecDepth 100000 in
set_option maxHeartbeats 4000000 in
theorem uL_2240 : GoodIn lw_tbl ((uL.drop 2240).take 40) := goodIn_q _ [(5, 34), (5, 35), (5, 124), (5, 125), (5, 126), (6, 206), (6, 207), (6, 208), (6, 233), (6, 234), (6, 235), (7, 30), (7, 31), (7, 32), (7, 49), (7, 50), (7, 51), (7, 66), (7, 67), (7, 68), (7, 157), (7, 158), (7, 159), (7, 177), (7, 178), (7, 179), (7, 203), (7, 204), (7, 205), (7, 210), (7, 211), (7, 212), (7, 219), (7, 220), (7, 221), (9, 58), (9, 59), (9, 60), (9, 54), (9, 55)] rfl rfl
set_option maxRecDepth 100000 in
set_option maxHeartbeats 4000000 in
theorem uL_2280 : GoodIn lw_tbl ((uL.drop 2280).take 40) := goodIn_q _ [(9, 56), (3, 128), (3, 129), (3, 130), (9, 63), (9, 64), (9, 65), (3, 136), (3, 137), (3, 138), (9, 75), (9, 76), (9, 77), (10, 12), (10, 13), (10, 14), (10, 121), (10, 122), (10, 123), (10, 129), (10, 130), (10, 131), (10, 133), (10, 134), (10, 135), (10, 137), (10, 138), (10, 139), (4, 119), (4, 120), (4, 121), (10, 211), (10, 212), (10, 213), (10, 191), (10, 192), (10, 193), (5, 24), (5, 25), (5, 26)] rfl rfl
set_option maxRecDepth 100000 in
set_option maxHeartbeats 4000000 in
theorem uL_2320 : GoodIn lw_tbl ((uL.drop 2320).take 40) := goodIn_q _ [(9, 67), (9, 68), (9, 69), (10, 153), (10, 154), (10, 155), (10, 172), (10, 173), (10, 174), (10, 8), (10, 9), (10, 10), (9, 71), (9, 72), (9, 73), (10, 187), (10, 188), (10, 189)] rfl rfl
set_option maxRecDepth 100000 in
set_option maxHeartbeats 4000000 in
theorem uL_e : GoodIn lw_tbl (uL.drop 2360) := by
  have e : uL.drop 2360 = [] := rfl
  rw [e]
  exact fun w hw => nomatch hw
set_option maxRecDepth 100000 in
theorem hU_g : GoodIn lw_tbl (xm_U 330 vwCl xt_zs xt_ys xt_N xt_FL xt_KI xt_KL xt_GS xt_LK) := by
  have g2320 : GoodIn lw_tbl (uL.drop 2320) := goodIn_td (a := 2320) (b := 40) uL_2320 uL_e
  have g2280 : GoodIn lw_tbl (uL.drop 2280) := goodIn_td (a := 2280) (b := 40) uL_2280 g2320
  have g2240 : GoodIn lw_tbl (uL.drop 2240) := goodIn_td (a := 2240) (b := 40) uL_2240 g2280
  have g2200 : GoodIn lw_tbl (uL.drop 2200) := goodIn_td (a := 2200) (b := 40) uL_2200 g2240
  have g2160 : GoodIn lw_tbl (uL.drop 2160) := goodIn_td (a := 2160) (b := 40) uL_2160 g2200
  have g2120 : GoodIn lw_tbl (uL.drop 2120) := goodIn_td (a := 2120) (b := 40) uL_2120 g2160
  have g2080 : GoodIn lw_tbl (uL.drop 2080) := goodIn_td (a := 2080) (b := 40) uL_2080 g2120
  have g2040 : GoodIn lw_tbl (uL.drop 2040) := goodIn_td (a := 2040) (b := 40) uL_2040 g2080
  have g2000 : GoodIn lw_tbl (uL.drop 2000) := goodIn_td (a := 2000) (b := 40) uL_2000 g2040
  have g1960 : GoodIn lw_tbl (uL.drop 1960) := goodIn_td (a := 1960) (b := 40) uL_1960 g2000
  have g1920 : GoodIn lw_tbl (uL.drop 1920) := goodIn_td (a := 1920) (b := 40) uL_1920 g1960
  have g1880 : GoodIn lw_tbl (uL.drop 1880) := goodIn_td (a := 1880) (b := 40) uL_1880 g1920
  have g1840 : GoodIn lw_tbl (uL.drop 1840) := goodIn_td (a := 1840) (b := 40) uL_1840 g1880
  have g1800 : GoodIn lw_tbl (uL.drop 1800) := goodIn_td (a := 1800) (b := 40) uL_1800 g1840
  have g1760 : GoodIn lw_tbl (uL.drop 1760) := goodIn_td (a := 1760) (b := 40) uL_1760 g1800
  have g1720 : GoodIn lw_tbl (uL.drop 1720) := goodIn_td (a := 1720) (b := 40) uL_1720 g1760
  have g1680 : GoodIn lw_tbl (uL.drop 1680) := goodIn_td (a := 1680) (b := 40) uL_1680 g1720
  have g1640 : GoodIn lw_tbl (uL.drop 1640) := goodIn_td (a := 1640) (b := 40) uL_1640 g1680
  have g1600 : GoodIn lw_tbl (uL.drop 1600) := goodIn_td (a := 1600) (b := 40) uL_1600 g1640
  have g1560 : GoodIn lw_tbl (uL.drop 1560) := goodIn_td (a := 1560) (b := 40) uL_1560 g1600
  have g1520 : GoodIn lw_tbl (uL.drop 1520) := goodIn_td (a := 1520) (b := 40) uL_1520 g1560
  have g1480 : GoodIn lw_tbl (uL.drop 1480) := goodIn_td (a := 1480) (b := 40) uL_1480 g1520
  have g1440 : GoodIn lw_tbl (uL.drop 1440) := goodIn_td (a := 1440) (b := 40) uL_1440 g1480
  have g1400 : GoodIn lw_tbl (uL.drop 1400) := goodIn_td (a := 1400) (b := 40) uL_1400 g1440
  have g1360 : GoodIn lw_tbl (uL.drop 1360) := goodIn_td (a := 1360) (b := 40) uL_1360 g1400
  have g1320 : GoodIn lw_tbl (uL.drop 1320) := goodIn_td (a := 1320) (b := 40) uL_1320 g1360
  have g1280 : GoodIn lw_tbl (uL.drop 1280) := goodIn_td (a := 1280) (b := 40) uL_1280 g1320
  have g1240 : GoodIn lw_tbl (uL.drop 1240) := goodIn_td (a := 1240) (b := 40) uL_1240 g1280
  have g1200 : GoodIn lw_tbl (uL.drop 1200) := goodIn_td (a := 1200) (b := 40) uL_1200 g1240
  have g1160 : GoodIn lw_tbl (uL.drop 1160) := goodIn_td (a := 1160) (b := 40) uL_1160 g1200
  have g1120 : GoodIn lw_tbl (uL.drop 1120) := goodIn_td (a := 1120) (b := 40) uL_1120 g1160
  have g1080 : GoodIn lw_tbl (uL.drop 1080) := goodIn_td (a := 1080) (b := 40) uL_1080 g1120
  have g1040 : GoodIn lw_tbl (uL.drop 1040) := goodIn_td (a := 1040) (b := 40) uL_1040 g1080
  have g1000 : GoodIn lw_tbl (uL.drop 1000) := goodIn_td (a := 1000) (b := 40) uL_1000 g1040
  have g960 : GoodIn lw_tbl (uL.drop 960) := goodIn_td (a := 960) (b := 40) uL_960 g1000
  have g920 : GoodIn lw_tbl (uL.drop 920) := goodIn_td (a := 920) (b := 40) uL_920 g960
  have g880 : GoodIn lw_tbl (uL.drop 880) := goodIn_td (a := 880) (b := 40) uL_880 g920
  have g840 : GoodIn lw_tbl (uL.drop 840) := goodIn_td (a := 840) (b := 40) uL_840 g880
  have g800 : GoodIn lw_tbl (uL.drop 800) := goodIn_td (a := 800) (b := 40) uL_800 g840
  have g760 : GoodIn lw_tbl (uL.drop 760) := goodIn_td (a := 760) (b := 40) uL_760 g800
  have g720 : GoodIn lw_tbl (uL.drop 720) := goodIn_td (a := 720) (b := 40) uL_720 g760
  have g680 : GoodIn lw_tbl (uL.drop 680) := goodIn_td (a := 680) (b := 40) uL_680 g720
  have g640 : GoodIn lw_tbl (uL.drop 640) := goodIn_td (a := 640) (b := 40) uL_640 g680
  have g600 : GoodIn lw_tbl (uL.drop 600) := goodIn_td (a := 600) (b := 40) uL_600 g640
  have g560 : GoodIn lw_tbl (uL.drop 560) := goodIn_td (a := 560) (b := 40) uL_560 g600
  have g520 : GoodIn lw_tbl (uL.drop 520) := goodIn_td (a := 520) (b := 40) uL_520 g560
  have g480 : GoodIn lw_tbl (uL.drop 480) := goodIn_td (a := 480) (b := 40) uL_480 g520
  have g440 : GoodIn lw_tbl (uL.drop 440) := goodIn_td (a := 440) (b := 40) uL_440 g480
  have g400 : GoodIn lw_tbl (uL.drop 400) := goodIn_td (a := 400) (b := 40) uL_400 g440
  have g360 : GoodIn lw_tbl (uL.drop 360) := goodIn_td (a := 360) (b := 40) uL_360 g400
  have g320 : GoodIn lw_tbl (uL.drop 320) := goodIn_td (a := 320) (b := 40) uL_320 g360
  have g280 : GoodIn lw_tbl (uL.drop 280) := goodIn_td (a := 280) (b := 40) uL_280 g320
  have g240 : GoodIn lw_tbl (uL.drop 240) := goodIn_td (a := 240) (b := 40) uL_240 g280
  have g200 : GoodIn lw_tbl (uL.drop 200) := goodIn_td (a := 200) (b := 40) uL_200 g240
  have g160 : GoodIn lw_tbl (uL.drop 160) := goodIn_td (a := 160) (b := 40) uL_160 g200
  have g120 : GoodIn lw_tbl (uL.drop 120) := goodIn_td (a := 120) (b := 40) uL_120 g160
  have g80 : GoodIn lw_tbl (uL.drop 80) := goodIn_td (a := 80) (b := 40) uL_80 g120
  have g40 : GoodIn lw_tbl (uL.drop 40) := goodIn_td (a := 40) (b := 40) uL_40 g80
  have g0 : GoodIn lw_tbl (uL.drop 0) := goodIn_td (a := 0) (b := 40) uL_0 g40
  exact g0
set_option maxRecDepth 100000 in
theorem hV0_g : GoodIn lw_tbl xv_V0 := goodIn_d _ (by decide +kernel) (by decide +kernel)
theorem hV_g : GoodIn lw_tbl xv_V := goodIn_app hV0_g (goodIn_app gw_x0 (goodIn_app gw_x1 gw_x2))
set_option maxRecDepth 100000 in
theorem hT_g : GoodIn lw_tbl wsX8_putText := goodIn_d _ (by decide +kernel) (by decide +kernel)
set_option maxRecDepth 100000 in
theorem gH_feed {sc : xm_Sc} : GoodIn lw_tbl (va_wsS RL 66 yL_feed (xm_wsH (XE sc) xv_V vh_feed [(0, 11, 14, 13), (0, 11, 18, 15)] 333 179 7)) := goodIn_app (a := [.methodLink RL 66 yL_feed, .static yL_feed, .initialized RL]) (goodIn_d _ (by decide +kernel) (by decide +kernel)) (goodIn_app (a := [Cond.codeWith yL_feed cL_feed 6 (some .int) [(0, 11, 14, 13), (0, 11, 18, 15)]]) (goodIn_d _ (by decide +kernel) (by decide +kernel)) (goodIn_app (goodIn_d vh_feed (by decide +kernel) (by decide +kernel)) (goodIn_app hU_g hV_g)))
set_option maxRecDepth 100000 in
theorem gH_run {sc : xm_Sc} : GoodIn lw_tbl (va_wsS RL 83 yL_run (xm_wsH (XE sc) xv_V vh_run [(0, 12, 15, 13), (0, 12, 19, 15)] 334 188 17)) := goodIn_app (a := [.methodLink RL 83 yL_run, .static yL_run, .initialized RL]) (goodIn_d _ (by decide +kernel) (by decide +kernel)) (goodIn_app (a := [Cond.codeWith yL_run cL_run 6 (some .int) [(0, 12, 15, 13), (0, 12, 19, 15)]]) (goodIn_d _ (by decide +kernel) (by decide +kernel)) (goodIn_app (goodIn_d vh_run (by decide +kernel) (by decide +kernel)) (goodIn_app hU_g hV_g)))
set_option maxRecDepth 100000 in
theorem gH_node {sc : xm_Sc} : GoodIn lw_tbl (va_wsS RL 87 yL_node (xm_wsH (XE sc) xv_V vh_node [(0, 10, 13, 25)] 335 184 21)) := goodIn_app (a := [.methodLink RL 87 yL_node, .static yL_node, .initialized RL]) (goodIn_d _ (by decide +kernel) (by decide +kernel)) (goodIn_app (a := [Cond.codeWith yL_node cL_node 5 (some .int) [(0, 10, 13, 25)]]) (goodIn_d _ (by decide +kernel) (by decide +kernel)) (goodIn_app (goodIn_d vh_node (by decide +kernel) (by decide +kernel)) (goodIn_app hU_g hV_g)))
set_option maxRecDepth 100000 in
theorem gH_root {sc : xm_Sc} : GoodIn lw_tbl (va_wsS RL 91 yL_root (xm_wsH (XE sc) xv_V vh_root [(0, 9, 12, 25)] 336 187 27)) := goodIn_app (a := [.methodLink RL 91 yL_root, .static yL_root, .initialized RL]) (goodIn_d _ (by decide +kernel) (by decide +kernel)) (goodIn_app (a := [Cond.codeWith yL_root cL_root 5 (some .int) [(0, 9, 12, 25)]]) (goodIn_d _ (by decide +kernel) (by decide +kernel)) (goodIn_app (goodIn_d vh_root (by decide +kernel) (by decide +kernel)) (goodIn_app hU_g hV_g)))
set_option maxRecDepth 100000 in
theorem gH_typeRoot {sc : xm_Sc} : GoodIn lw_tbl (va_wsS RL 94 yL_typeRoot (xm_wsH (XE sc) xv_V vh_typeRoot [(0, 11, 14, 25)] 337 194 31)) := goodIn_app (a := [.methodLink RL 94 yL_typeRoot, .static yL_typeRoot, .initialized RL]) (goodIn_d _ (by decide +kernel) (by decide +kernel)) (goodIn_app (a := [Cond.codeWith yL_typeRoot cL_typeRoot 6 (some .int) [(0, 11, 14, 25)]]) (goodIn_d _ (by decide +kernel) (by decide +kernel)) (goodIn_app (goodIn_d vh_typeRoot (by decide +kernel) (by decide +kernel)) (goodIn_app hU_g hV_g)))
set_option maxRecDepth 100000 in
theorem gH_type {sc : xm_Sc} : GoodIn lw_tbl (va_wsS RL 98 yL_type (xm_wsH (XE sc) xv_V vh_type [(0, 10, 13, 25)] 338 193 35)) := goodIn_app (a := [.methodLink RL 98 yL_type, .static yL_type, .initialized RL]) (goodIn_d _ (by decide +kernel) (by decide +kernel)) (goodIn_app (a := [Cond.codeWith yL_type cL_type 5 (some .int) [(0, 10, 13, 25)]]) (goodIn_d _ (by decide +kernel) (by decide +kernel)) (goodIn_app (goodIn_d vh_type (by decide +kernel) (by decide +kernel)) (goodIn_app hU_g hV_g)))
set_option maxRecDepth 100000 in
theorem gH_value {sc : xm_Sc} : GoodIn lw_tbl (va_wsS RL 114 yL_value (xm_wsH (XE sc) xv_V vh_value [(0, 10, 13, 25)] 340 195 43)) := goodIn_app (a := [.methodLink RL 114 yL_value, .static yL_value, .initialized RL]) (goodIn_d _ (by decide +kernel) (by decide +kernel)) (goodIn_app (a := [Cond.codeWith yL_value cL_value 5 (some .int) [(0, 10, 13, 25)]]) (goodIn_d _ (by decide +kernel) (by decide +kernel)) (goodIn_app (goodIn_d vh_value (by decide +kernel) (by decide +kernel)) (goodIn_app hU_g hV_g)))
set_option maxRecDepth 100000 in
theorem gH_worth {sc : xm_Sc} : GoodIn lw_tbl (va_wsS RL 117 yL_worth (xm_wsH (XE sc) xv_V vh_worth [(0, 10, 13, 25)] 341 198 46)) := goodIn_app (a := [.methodLink RL 117 yL_worth, .static yL_worth, .initialized RL]) (goodIn_d _ (by decide +kernel) (by decide +kernel)) (goodIn_app (a := [Cond.codeWith yL_worth cL_worth 5 (some .int) [(0, 10, 13, 25)]]) (goodIn_d _ (by decide +kernel) (by decide +kernel)) (goodIn_app (goodIn_d vh_worth (by decide +kernel) (by decide +kernel)) (goodIn_app hU_g hV_g)))
set_option maxRecDepth 100000 in
theorem gH_write {sc : xm_Sc} : GoodIn lw_tbl (va_wsS RL 120 yL_write (xm_wsH (XE sc) xv_V vh_write [(0, 8, 11, 15)] 342 199 49)) := goodIn_app (a := [.methodLink RL 120 yL_write, .static yL_write, .initialized RL]) (goodIn_d _ (by decide +kernel) (by decide +kernel)) (goodIn_app (a := [Cond.codeWith yL_write cL_write 3 (some .int) [(0, 8, 11, 15)]]) (goodIn_d _ (by decide +kernel) (by decide +kernel)) (goodIn_app (goodIn_d vh_write (by decide +kernel) (by decide +kernel)) (goodIn_app hU_g hV_g)))
set_option maxRecDepth 100000 in
theorem gH_out {sc : xm_Sc} : GoodIn lw_tbl (va_wsS RL 123 yL_out (xm_wsH (XE sc) xv_V vh_out [(0, 8, 11, 25)] 343 185 52)) := goodIn_app (a := [.methodLink RL 123 yL_out, .static yL_out, .initialized RL]) (goodIn_d _ (by decide +kernel) (by decide +kernel)) (goodIn_app (a := [Cond.codeWith yL_out cL_out 4 (some .int) [(0, 8, 11, 25)]]) (goodIn_d _ (by decide +kernel) (by decide +kernel)) (goodIn_app (goodIn_d vh_out (by decide +kernel) (by decide +kernel)) (goodIn_app hU_g hV_g)))
set_option maxRecDepth 100000 in
theorem gH_look {sc : xm_Sc} : GoodIn lw_tbl (va_wsS RL 127 yL_look (xm_wsH (XE sc) xv_V vh_look [(0, 9, 12, 13)] 344 182 56)) := goodIn_app (a := [.methodLink RL 127 yL_look, .static yL_look, .initialized RL]) (goodIn_d _ (by decide +kernel) (by decide +kernel)) (goodIn_app (a := [Cond.codeWith yL_look cL_look 4 (some .int) [(0, 9, 12, 13)]]) (goodIn_d _ (by decide +kernel) (by decide +kernel)) (goodIn_app (goodIn_d vh_look (by decide +kernel) (by decide +kernel)) (goodIn_app hU_g hV_g)))
theorem lk_h {sc : xm_Sc} {idx z : Nat} (h : xe_lk (XE sc) (xe_cn (XE sc) 330) idx = some z) : (idx, z) ∈ xt_LK.getD 14 [] := by
  obtain ⟨l, hl, hx⟩ := xm_find_of (L := xt_LK) (c := 14) h
  rw [List.getD_eq_getElem?_getD, hl]
  exact hx
set_option maxRecDepth 100000 in
theorem lk_z : ∀ q ∈ xt_LK.getD 14 [], (q.2 = 333 → q.1 = 66) ∧ (q.2 = 334 → q.1 = 83) ∧ (q.2 = 335 → q.1 = 87) ∧ (q.2 = 336 → q.1 = 91) ∧ (q.2 = 337 → q.1 = 94) ∧ (q.2 = 338 → q.1 = 98) ∧ (q.2 = 339 → q.1 = 106) ∧ (q.2 = 340 → q.1 = 114) ∧ (q.2 = 341 → q.1 = 117) ∧ (q.2 = 342 → q.1 = 120) ∧ (q.2 = 343 → q.1 = 123) ∧ (q.2 = 344 → q.1 = 127) := by decide +kernel
