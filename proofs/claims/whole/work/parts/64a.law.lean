/-! words by their places: (part of the tables, place in it) -/
def lookW (q : Nat × Nat) : Option Cond := match q.1 with
  | 0 => (k2_sels lw_privs)[q.2]?
  | 1 => tables_1_1[q.2]?
  | 2 => tables_1_2[q.2]?
  | 3 => tables_1_3[q.2]?
  | 4 => tables_1_4[q.2]?
  | _ => tables_1_5[q.2]?
theorem look_in {q : Nat × Nat} {w : Cond} (h : lookW q = some w) : w ∈ lw_tbl := by
  obtain ⟨a, i⟩ := q
  unfold lw_tbl tables_1
  match a, h with
  | 0, h => exact List.mem_append_left _ (List.mem_of_getElem? h)
  | 1, h => exact List.mem_append_right _ (List.mem_append_left _ (List.mem_of_getElem? h))
  | 2, h => exact List.mem_append_right _ (List.mem_append_right _ (List.mem_append_left _ (List.mem_of_getElem? h)))
  | 3, h => exact List.mem_append_right _ (List.mem_append_right _ (List.mem_append_right _ (List.mem_append_left _ (List.mem_of_getElem? h))))
  | 4, h => exact List.mem_append_right _ (List.mem_append_right _ (List.mem_append_right _ (List.mem_append_right _ (List.mem_append_left _ (List.mem_of_getElem? h)))))
  | a + 5, h => exact List.mem_append_right _ (List.mem_append_right _ (List.mem_append_right _ (List.mem_append_right _ (List.mem_append_right _ (List.mem_of_getElem? h)))))
theorem good_l (ws : List Cond) (ps : List (Nat × Nat)) (hp : ws = ps.filterMap lookW) (h : ws.all goodWord = true) : GoodIn lw_tbl ws := by
  intro w hw
  have h1 := List.all_eq_true.mp h w hw
  rw [hp] at hw
  obtain ⟨i, -, hi⟩ := List.mem_filterMap.mp hw
  exact ⟨look_in hi, good_of_word h1⟩
theorem in_l (ws : List Cond) (ps : List (Nat × Nat)) (hp : ws = ps.filterMap lookW) : ∀ w ∈ ws, w ∈ lw_tbl := by
  intro w hw
  rw [hp] at hw
  obtain ⟨i, -, hi⟩ := List.mem_filterMap.mp hw
  exact look_in hi
set_option maxRecDepth 20000 in
theorem l_X9_init_0 : GoodIn lw_tbl ([.code yX9_init cX9_init 1 none] : List Cond) := good_l _ [(1, 18)] rfl (by decide +kernel)
set_option maxRecDepth 20000 in
theorem l_wsX9_init_r1 : GoodIn lw_tbl wsX9_init_r1 := good_l _ [(1, 19), (1, 20), (1, 21), (1, 22), (1, 23), (1, 2), (2, 95), (2, 65), (2, 66), (1, 8), (2, 96), (2, 75), (2, 76), (1, 9), (2, 97), (2, 85), (2, 86), (1, 10), (2, 98), (1, 24), (1, 25), (1, 26), (1, 27), (1, 28)] rfl (by decide +kernel)
set_option maxRecDepth 20000 in
theorem l_wsX9_init_r2 : GoodIn lw_tbl wsX9_init_r2 := good_l _ [(1, 29), (1, 3), (2, 19), (1, 51), (1, 52), (1, 4), (2, 28), (1, 93), (2, 23), (1, 95), (1, 5), (1, 30), (1, 31), (1, 32), (1, 33), (1, 34), (1, 38), (1, 43), (1, 53), (1, 54), (1, 55), (1, 56), (1, 92), (1, 57)] rfl (by decide +kernel)
set_option maxRecDepth 20000 in
theorem l_wsX9_init_r3 : GoodIn lw_tbl wsX9_init_r3 := good_l _ [(1, 60), (1, 63), (1, 66), (1, 69), (1, 71), (1, 96), (1, 97), (1, 98), (1, 99), (1, 100), (1, 101), (1, 6), (1, 192), (1, 136), (1, 137), (1, 7), (1, 197), (1, 213), (1, 215), (1, 102), (1, 103), (1, 104), (1, 105), (1, 106)] rfl (by decide +kernel)
set_option maxRecDepth 20000 in
theorem l_wsX9_init_r4 : GoodIn lw_tbl wsX9_init_r4 := good_l _ [(1, 108), (1, 110), (1, 138), (1, 139), (1, 140), (1, 141), (1, 142), (1, 145), (1, 148), (1, 151), (1, 166), (1, 168), (2, 67), (2, 68), (2, 69), (2, 70), (2, 71), (2, 77), (2, 78), (2, 79), (2, 80), (2, 81), (2, 87), (2, 88)] rfl (by decide +kernel)
set_option maxRecDepth 20000 in
theorem l_wsX9_init_r5 : GoodIn lw_tbl wsX9_init_r5 := good_l _ [(2, 89), (2, 90), (2, 91)] rfl (by decide +kernel)
set_option maxRecDepth 20000 in
theorem lx_2 : GoodIn lw_tbl wsX20 := good_l _ [(2, 48), (2, 50), (2, 52), (2, 54), (2, 56), (2, 58), (2, 60), (2, 62)] rfl (by decide +kernel)
set_option maxRecDepth 20000 in
theorem lx_9 : GoodIn lw_tbl wsX90 := good_l _ [(2, 99), (2, 101), (2, 103), (2, 105)] rfl (by decide +kernel)
set_option maxRecDepth 20000 in
theorem lx_0 : GoodIn lw_tbl wsX00 := good_l _ [(2, 72)] rfl (by decide +kernel)
set_option maxRecDepth 20000 in
theorem lx_4 : GoodIn lw_tbl wsX40 := good_l _ [(2, 82)] rfl (by decide +kernel)
set_option maxRecDepth 20000 in
theorem lx_1 : GoodIn lw_tbl wsX10 := good_l _ [(2, 92)] rfl (by decide +kernel)
set_option maxRecDepth 20000 in
theorem lx_8 : GoodIn lw_tbl wsX80 := good_l _ [(1, 44), (1, 46), (1, 48)] rfl (by decide +kernel)
set_option maxRecDepth 20000 in
theorem lx_5 : GoodIn lw_tbl wsX50 := good_l _ [(1, 77), (1, 79), (1, 81), (1, 83), (1, 85), (1, 87), (1, 89)] rfl (by decide +kernel)
set_option maxRecDepth 20000 in
theorem lx_3 : GoodIn lw_tbl wsX30 := good_l _ [(1, 232), (1, 234), (1, 236), (1, 238), (2, 0), (2, 2), (2, 4), (2, 6), (2, 8), (2, 10), (2, 12), (2, 14), (2, 16)] rfl (by decide +kernel)
set_option maxRecDepth 20000 in
theorem lx_6 : GoodIn lw_tbl wsX60 := good_l _ [(1, 123), (1, 125), (1, 127), (1, 129), (1, 131), (1, 133)] rfl (by decide +kernel)
set_option maxRecDepth 20000 in
theorem lx_7 : GoodIn lw_tbl wsX70 := good_l _ [(1, 171), (1, 173), (1, 175), (1, 177), (1, 179), (1, 181), (1, 183), (1, 185), (1, 187), (1, 189)] rfl (by decide +kernel)
set_option maxRecDepth 20000 in
theorem gw_X9_init : GoodIn lw_tbl wsX9_init := goodIn_app l_X9_init_0 (goodIn_app (goodIn_app (goodIn_app (goodIn_app (goodIn_app (goodIn_app (goodIn_app (goodIn_app (goodIn_app (goodIn_app (goodIn_app l_wsX9_init_r1 (goodIn_app l_wsX9_init_r2 (goodIn_app l_wsX9_init_r3 (goodIn_app l_wsX9_init_r4 l_wsX9_init_r5)))) lx_2) lx_9) lx_0) lx_4) lx_1) lx_8) lx_5) lx_3) lx_6) lx_7)
set_option maxRecDepth 20000 in
theorem l_X9_file_0 : GoodIn lw_tbl ([.code yX9_file cX9_file 4 (some .boolean)] : List Cond) := good_l _ [(2, 111)] rfl (by decide +kernel)
set_option maxRecDepth 20000 in
theorem l_X9_file_1 : GoodIn lw_tbl ([.fieldLink RX9 10 "PieceSwarm" "crowd" "LPieceSwarm$Crowd;", .fieldLink RX9 39 "PieceSwarm$Crowd" "size" "I", .fieldLink RX9 47 "PieceSwarm$Crowd" "whole" "LPieceSwarm$Whole;", .methodLink RX9 43 yX9_isWithin, .static yX9_isWithin, .initialized RX9, .code yX9_isWithin cX9_isWithin 3 (some .boolean), .methodLink RX9 51 yX8_become, .instanceMethod yX8_become, .selects RX8 yX8_become yX8_become, .initialized RX8, .code yX8_become cX8_become 4 none, .fieldLink RX8 7 "PieceSwarm$Whole" "pieces" "I", .fieldLink RX8 13 "PieceSwarm$Whole" "blocks" "I", .fieldLink RX8 16 "PieceSwarm$Whole" "seed" "I"] : List Cond) := good_l _ [(2, 95), (2, 32), (2, 20), (2, 112), (2, 113), (1, 1), (2, 114), (2, 115), (2, 116), (2, 117), (1, 3), (2, 118), (1, 34), (1, 38), (1, 43)] rfl (by decide +kernel)
set_option maxRecDepth 20000 in
theorem gw_X9_file : GoodIn lw_tbl wsX9_file := goodIn_app l_X9_file_0 (goodIn_app (goodIn_app (goodIn_app l_X9_file_1 lx_9) lx_2) lx_8)
set_option maxRecDepth 20000 in
theorem lv_law_X9_file : GoodIn lw_tbl ([.methodLink RL 13 yX9_file, .instanceMethod yX9_file, .selects RX9 yX9_file yX9_file, .initialized RX9] : List Cond) := good_l _ [(2, 108), (2, 109), (2, 110), (1, 1)] rfl (by decide +kernel)
theorem gL_law_X9_file : GoodIn lw_tbl (wsV RL 13 RX9 yX9_file wsX9_file) := goodIn_app lv_law_X9_file gw_X9_file
set_option maxRecDepth 20000 in
theorem l_X9_value_0 : GoodIn lw_tbl ([.code yX9_value cX9_value 3 (some .int)] : List Cond) := good_l _ [(2, 122)] rfl (by decide +kernel)
set_option maxRecDepth 20000 in
theorem l_X9_value_1 : GoodIn lw_tbl ([.fieldLink RX9 10 "PieceSwarm" "crowd" "LPieceSwarm$Crowd;", .fieldLink RX9 47 "PieceSwarm$Crowd" "whole" "LPieceSwarm$Whole;", .methodLink RX9 57 yX8_isBlock, .instanceMethod yX8_isBlock, .selects RX8 yX8_isBlock yX8_isBlock, .initialized RX8, .code yX8_isBlock cX8_isBlock 3 (some .boolean), .fieldLink RX8 13 "PieceSwarm$Whole" "blocks" "I", .methodLink RX8 19 yX8_isPiece, .instanceMethod yX8_isPiece, .selects RX8 yX8_isPiece yX8_isPiece, .code yX8_isPiece cX8_isPiece 2 (some .boolean), .fieldLink RX8 7 "PieceSwarm$Whole" "pieces" "I", .methodLink RX9 61 yX8_valueOf, .instanceMethod yX8_valueOf, .selects RX8 yX8_valueOf yX8_valueOf, .code yX8_valueOf cX8_valueOf 4 (some .int), .fieldLink RX8 16 "PieceSwarm$Whole" "seed" "I", .constant RX8 23 (1103515245)] : List Cond) := good_l _ [(2, 95), (2, 20), (2, 123), (2, 124), (2, 125), (1, 3), (2, 126), (1, 38), (2, 127), (2, 128), (2, 129), (2, 130), (1, 34), (2, 131), (2, 132), (2, 133), (2, 134), (1, 43), (2, 135)] rfl (by decide +kernel)
set_option maxRecDepth 20000 in
theorem gw_X9_value : GoodIn lw_tbl wsX9_value := goodIn_app l_X9_value_0 (goodIn_app (goodIn_app (goodIn_app l_X9_value_1 lx_9) lx_2) lx_8)
set_option maxRecDepth 20000 in
theorem lv_law_X9_value : GoodIn lw_tbl ([.methodLink RL 18 yX9_value, .instanceMethod yX9_value, .selects RX9 yX9_value yX9_value, .initialized RX9] : List Cond) := good_l _ [(2, 119), (2, 120), (2, 121), (1, 1)] rfl (by decide +kernel)
theorem gL_law_X9_value : GoodIn lw_tbl (wsV RL 18 RX9 yX9_value wsX9_value) := goodIn_app lv_law_X9_value gw_X9_value
set_option maxRecDepth 20000 in
theorem l_X9_sum_0 : GoodIn lw_tbl ([.code yX9_sum cX9_sum 2 (some .int)] : List Cond) := good_l _ [(2, 139)] rfl (by decide +kernel)
set_option maxRecDepth 20000 in
theorem l_X9_sum_1 : GoodIn lw_tbl ([.fieldLink RX9 10 "PieceSwarm" "crowd" "LPieceSwarm$Crowd;", .fieldLink RX9 47 "PieceSwarm$Crowd" "whole" "LPieceSwarm$Whole;", .methodLink RX9 65 yX8_isPiece, .instanceMethod yX8_isPiece, .selects RX8 yX8_isPiece yX8_isPiece, .initialized RX8, .code yX8_isPiece cX8_isPiece 2 (some .boolean), .fieldLink RX8 7 "PieceSwarm$Whole" "pieces" "I", .methodLink RX9 69 yX8_sumOf, .instanceMethod yX8_sumOf, .selects RX8 yX8_sumOf yX8_sumOf, .code yX8_sumOf cX8_sumOf 4 (some .int), .fieldLink RX8 13 "PieceSwarm$Whole" "blocks" "I", .methodLink RX8 24 yX8_valueOf, .instanceMethod yX8_valueOf, .selects RX8 yX8_valueOf yX8_valueOf, .code yX8_valueOf cX8_valueOf 4 (some .int), .fieldLink RX8 16 "PieceSwarm$Whole" "seed" "I", .constant RX8 23 (1103515245), .static yX9_sumWith, .initialized RX9, .code yX9_sumWith cX9_sumWith 2 (some .int), .constant RX9 271 (69069)] : List Cond) := good_l _ [(2, 95), (2, 20), (2, 140), (2, 128), (2, 129), (1, 3), (2, 130), (1, 34), (2, 141), (2, 142), (2, 143), (2, 144), (1, 38), (2, 145), (2, 132), (2, 133), (2, 134), (1, 43), (2, 135), (2, 147), (1, 1), (2, 148), (2, 149)] rfl (by decide +kernel)
set_option maxRecDepth 20000 in
theorem gw_X9_sum : GoodIn lw_tbl wsX9_sum := goodIn_app l_X9_sum_0 (goodIn_app (goodIn_app (goodIn_app l_X9_sum_1 lx_9) lx_2) lx_8)
set_option maxRecDepth 20000 in
theorem lv_law_X9_sum : GoodIn lw_tbl ([.methodLink RL 23 yX9_sum, .instanceMethod yX9_sum, .selects RX9 yX9_sum yX9_sum, .initialized RX9] : List Cond) := good_l _ [(2, 136), (2, 137), (2, 138), (1, 1)] rfl (by decide +kernel)
theorem gL_law_X9_sum : GoodIn lw_tbl (wsV RL 23 RX9 yX9_sum wsX9_sum) := goodIn_app lv_law_X9_sum gw_X9_sum
set_option maxRecDepth 20000 in
theorem l_X9_peer_0 : GoodIn lw_tbl ([.code yX9_peer cX9_peer 5 (some .int)] : List Cond) := good_l _ [(2, 153)] rfl (by decide +kernel)
set_option maxRecDepth 20000 in
theorem l_wsX9_peer_r1 : GoodIn lw_tbl wsX9_peer_r1 := good_l _ [(2, 95), (2, 32), (2, 112), (2, 113), (1, 1), (2, 114), (2, 154), (2, 155), (2, 156), (1, 2), (2, 157), (2, 33), (2, 23), (1, 204), (1, 207), (1, 210), (1, 195), (2, 19), (1, 216), (2, 39), (2, 158), (2, 159), (2, 160), (1, 6)] rfl (by decide +kernel)
set_option maxRecDepth 20000 in
theorem l_wsX9_peer_r2 : GoodIn lw_tbl wsX9_peer_r2 := good_l _ [(2, 161), (1, 35), (1, 39), (1, 108), (1, 112), (2, 163), (2, 164), (2, 165), (2, 132), (2, 133), (1, 3), (2, 134), (1, 43), (2, 135), (2, 166), (2, 167), (2, 168), (2, 169), (1, 34)] rfl (by decide +kernel)
set_option maxRecDepth 20000 in
theorem gw_X9_peer : GoodIn lw_tbl wsX9_peer := goodIn_app l_X9_peer_0 (goodIn_app (goodIn_app (goodIn_app (goodIn_app (goodIn_app (goodIn_app l_wsX9_peer_r1 l_wsX9_peer_r2) lx_9) lx_2) lx_3) lx_8) lx_6)
set_option maxRecDepth 20000 in
theorem lv_law_X9_peer : GoodIn lw_tbl ([.methodLink RL 28 yX9_peer, .instanceMethod yX9_peer, .selects RX9 yX9_peer yX9_peer, .initialized RX9] : List Cond) := good_l _ [(2, 150), (2, 151), (2, 152), (1, 1)] rfl (by decide +kernel)
theorem gL_law_X9_peer : GoodIn lw_tbl (wsV RL 28 RX9 yX9_peer wsX9_peer) := goodIn_app lv_law_X9_peer gw_X9_peer
set_option maxRecDepth 20000 in
theorem l_X9_often_0 : GoodIn lw_tbl ([.code yX9_often cX9_often 3 (some .boolean)] : List Cond) := good_l _ [(2, 173)] rfl (by decide +kernel)
set_option maxRecDepth 20000 in
theorem l_X9_often_1 : GoodIn lw_tbl ([.fieldLink RX9 10 "PieceSwarm" "crowd" "LPieceSwarm$Crowd;", .fieldLink RX9 80 "PieceSwarm$Crowd" "members" "[LPieceSwarm$Member;", .fieldLink RX9 84 "PieceSwarm$Member" "kind" "I", .fieldLink RX9 89 "PieceSwarm$Member" "everyNth" "I", .methodLink RX9 77 yX2_isMember, .instanceMethod yX2_isMember, .selects RX2 yX2_isMember yX2_isMember, .initialized RX2, .code yX2_isMember cX2_isMember 2 (some .boolean), .fieldLink RX2 32 "PieceSwarm$Crowd" "size" "I", .methodLink RX9 43 yX9_isWithin, .static yX9_isWithin, .initialized RX9, .code yX9_isWithin cX9_isWithin 3 (some .boolean)] : List Cond) := good_l _ [(2, 95), (2, 27), (1, 205), (1, 214), (2, 174), (2, 175), (2, 176), (1, 2), (2, 177), (2, 33), (2, 112), (2, 113), (1, 1), (2, 114)] rfl (by decide +kernel)
set_option maxRecDepth 20000 in
theorem gw_X9_often : GoodIn lw_tbl wsX9_often := goodIn_app l_X9_often_0 (goodIn_app (goodIn_app (goodIn_app l_X9_often_1 lx_9) lx_2) lx_3)
set_option maxRecDepth 20000 in
theorem lv_law_X9_often : GoodIn lw_tbl ([.methodLink RL 33 yX9_often, .instanceMethod yX9_often, .selects RX9 yX9_often yX9_often, .initialized RX9] : List Cond) := good_l _ [(2, 170), (2, 171), (2, 172), (1, 1)] rfl (by decide +kernel)
theorem gL_law_X9_often : GoodIn lw_tbl (wsV RL 33 RX9 yX9_often wsX9_often) := goodIn_app lv_law_X9_often gw_X9_often
set_option maxRecDepth 20000 in
theorem l_X9_meet_0 : GoodIn lw_tbl ([.code yX9_meet cX9_meet 3 (some .boolean)] : List Cond) := good_l _ [(2, 181)] rfl (by decide +kernel)
set_option maxRecDepth 20000 in
theorem l_X9_meet_1 : GoodIn lw_tbl ([.fieldLink RX9 10 "PieceSwarm" "crowd" "LPieceSwarm$Crowd;", .fieldLink RX9 80 "PieceSwarm$Crowd" "members" "[LPieceSwarm$Member;", .fieldLink RX9 95 "PieceSwarm$Member" "ties" "LPieceSwarm$Ties;", .fieldLink RX9 99 "PieceSwarm$Ties" "neighbours" "I", .methodLink RX9 92 yX2_areTwo, .instanceMethod yX2_areTwo, .selects RX2 yX2_areTwo yX2_areTwo, .initialized RX2, .code yX2_areTwo cX2_areTwo 3 (some .boolean), .methodLink RX2 36 yX2_isMember, .instanceMethod yX2_isMember, .selects RX2 yX2_isMember yX2_isMember, .code yX2_isMember cX2_isMember 2 (some .boolean), .fieldLink RX2 32 "PieceSwarm$Crowd" "size" "I", .methodLink RX9 104 yX9_isIn, .static yX9_isIn, .initialized RX9, .code yX9_isIn cX9_isIn 2 (some .boolean)] : List Cond) := good_l _ [(2, 95), (2, 27), (1, 202), (1, 155), (2, 182), (2, 183), (2, 184), (1, 2), (2, 185), (2, 186), (2, 175), (2, 176), (2, 177), (2, 33), (2, 187), (2, 188), (1, 1), (2, 189)] rfl (by decide +kernel)
set_option maxRecDepth 20000 in
theorem gw_X9_meet : GoodIn lw_tbl wsX9_meet := goodIn_app l_X9_meet_0 (goodIn_app (goodIn_app (goodIn_app (goodIn_app l_X9_meet_1 lx_9) lx_2) lx_3) lx_7)
set_option maxRecDepth 20000 in
theorem lv_law_X9_meet : GoodIn lw_tbl ([.methodLink RL 38 yX9_meet, .instanceMethod yX9_meet, .selects RX9 yX9_meet yX9_meet, .initialized RX9] : List Cond) := good_l _ [(2, 178), (2, 179), (2, 180), (1, 1)] rfl (by decide +kernel)
theorem gL_law_X9_meet : GoodIn lw_tbl (wsV RL 38 RX9 yX9_meet wsX9_meet) := goodIn_app lv_law_X9_meet gw_X9_meet
set_option maxRecDepth 20000 in
theorem l_X9_leave_0 : GoodIn lw_tbl ([.code yX9_leave cX9_leave 2 (some .boolean)] : List Cond) := good_l _ [(2, 193)] rfl (by decide +kernel)
set_option maxRecDepth 20000 in
theorem l_wsX9_leave_r1 : GoodIn lw_tbl wsX9_leave_r1 := good_l _ [(2, 95), (2, 40), (2, 174), (2, 175), (2, 176), (1, 2), (2, 177), (2, 33), (2, 187), (2, 188), (1, 1), (2, 189), (2, 194), (2, 195), (2, 196), (2, 197), (2, 39), (2, 23), (1, 200), (1, 164), (2, 198), (2, 200), (0, 0), (2, 201)] rfl (by decide +kernel)
set_option maxRecDepth 20000 in
theorem l_wsX9_leave_r2 : GoodIn lw_tbl wsX9_leave_r2 := good_l _ [(2, 28), (1, 75), (1, 62), (1, 59), (1, 195), (1, 65), (1, 68), (2, 46), (2, 202), (2, 203), (2, 204), (1, 6), (2, 205), (1, 110), (1, 121), (2, 163), (2, 164), (2, 206), (2, 207), (2, 208), (1, 4), (2, 209), (1, 57), (1, 60)] rfl (by decide +kernel)
set_option maxRecDepth 20000 in
theorem l_wsX9_leave_r3 : GoodIn lw_tbl wsX9_leave_r3 := good_l _ [(1, 63), (1, 66), (1, 69), (1, 71)] rfl (by decide +kernel)
set_option maxRecDepth 20000 in
theorem gw_X9_leave : GoodIn lw_tbl wsX9_leave := goodIn_app l_X9_leave_0 (goodIn_app (goodIn_app (goodIn_app (goodIn_app (goodIn_app (goodIn_app (goodIn_app l_wsX9_leave_r1 (goodIn_app l_wsX9_leave_r2 l_wsX9_leave_r3)) lx_9) lx_2) lx_3) lx_7) lx_5) lx_6)
set_option maxRecDepth 20000 in
theorem lv_law_X9_leave : GoodIn lw_tbl ([.methodLink RL 42 yX9_leave, .instanceMethod yX9_leave, .selects RX9 yX9_leave yX9_leave, .initialized RX9] : List Cond) := good_l _ [(2, 190), (2, 191), (2, 192), (1, 1)] rfl (by decide +kernel)
theorem gL_law_X9_leave : GoodIn lw_tbl (wsV RL 42 RX9 yX9_leave wsX9_leave) := goodIn_app lv_law_X9_leave gw_X9_leave
set_option maxRecDepth 20000 in
theorem l_X9_join_0 : GoodIn lw_tbl ([.code yX9_join cX9_join 2 (some .boolean)] : List Cond) := good_l _ [(2, 213)] rfl (by decide +kernel)
set_option maxRecDepth 20000 in
theorem l_X9_join_1 : GoodIn lw_tbl ([.fieldLink RX9 10 "PieceSwarm" "crowd" "LPieceSwarm$Crowd;", .fieldLink RX9 107 "PieceSwarm$Crowd" "here" "I", .methodLink RX9 77 yX2_isMember, .instanceMethod yX2_isMember, .selects RX2 yX2_isMember yX2_isMember, .initialized RX2, .code yX2_isMember cX2_isMember 2 (some .boolean), .fieldLink RX2 32 "PieceSwarm$Crowd" "size" "I", .methodLink RX9 104 yX9_isIn, .static yX9_isIn, .initialized RX9, .code yX9_isIn cX9_isIn 2 (some .boolean)] : List Cond) := good_l _ [(2, 95), (2, 40), (2, 174), (2, 175), (2, 176), (1, 2), (2, 177), (2, 33), (2, 187), (2, 188), (1, 1), (2, 189)] rfl (by decide +kernel)
set_option maxRecDepth 20000 in
theorem gw_X9_join : GoodIn lw_tbl wsX9_join := goodIn_app l_X9_join_0 (goodIn_app (goodIn_app l_X9_join_1 lx_9) lx_2)
set_option maxRecDepth 20000 in
theorem lv_law_X9_join : GoodIn lw_tbl ([.methodLink RL 47 yX9_join, .instanceMethod yX9_join, .selects RX9 yX9_join yX9_join, .initialized RX9] : List Cond) := good_l _ [(2, 210), (2, 211), (2, 212), (1, 1)] rfl (by decide +kernel)
theorem gL_law_X9_join : GoodIn lw_tbl (wsV RL 47 RX9 yX9_join wsX9_join) := goodIn_app lv_law_X9_join gw_X9_join
set_option maxRecDepth 20000 in
theorem l_X9_tick_0 : GoodIn lw_tbl ([.code yX9_tick cX9_tick 4 (some .int)] : List Cond) := good_l _ [(2, 217)] rfl (by decide +kernel)
set_option maxRecDepth 20000 in
theorem l_wsX9_tick_r1 : GoodIn lw_tbl wsX9_tick_r1 := good_l _ [(2, 95), (2, 44), (2, 42), (2, 96), (2, 97), (2, 98), (2, 112), (2, 113), (1, 1), (2, 114), (2, 218), (2, 219), (2, 220), (1, 8), (2, 221), (2, 71), (2, 29), (1, 74), (1, 72), (2, 41), (1, 61), (1, 58), (1, 64), (1, 67)] rfl (by decide +kernel)
set_option maxRecDepth 20000 in
theorem l_wsX9_tick_r2 : GoodIn lw_tbl wsX9_tick_r2 := good_l _ [(1, 70), (2, 222), (2, 224), (0, 1), (2, 225), (2, 25), (1, 194), (1, 219), (1, 199), (1, 143), (1, 224), (2, 22), (1, 40), (2, 226), (2, 203), (2, 204), (1, 6), (2, 205), (1, 110), (1, 121), (2, 163), (2, 164), (2, 227), (2, 229)] rfl (by decide +kernel)
set_option maxRecDepth 20000 in
theorem l_wsX9_tick_r3 : GoodIn lw_tbl wsX9_tick_r3 := good_l _ [(0, 2), (2, 230), (1, 114), (1, 119), (2, 188), (2, 189), (2, 232), (2, 233), (2, 234), (2, 235), (1, 112), (1, 106), (2, 237), (2, 238), (2, 239), (3, 0), (3, 1), (3, 2), (3, 3), (3, 4), (1, 108), (3, 5), (3, 6), (3, 7)] rfl (by decide +kernel)
set_option maxRecDepth 20000 in
theorem l_wsX9_tick_r4 : GoodIn lw_tbl wsX9_tick_r4 := good_l _ [(3, 8), (3, 9), (3, 11), (3, 12), (3, 13), (3, 14), (3, 15), (3, 16), (2, 147), (2, 148), (2, 149), (3, 18), (2, 142), (2, 143), (1, 3), (2, 144), (1, 38), (2, 145), (2, 132), (2, 133), (2, 134), (1, 43), (2, 135), (3, 19)] rfl (by decide +kernel)
set_option maxRecDepth 20000 in
theorem l_wsX9_tick_r5 : GoodIn lw_tbl wsX9_tick_r5 := good_l _ [(3, 21), (0, 3), (3, 22), (1, 217), (3, 23), (2, 167), (2, 168), (2, 169), (1, 34), (3, 24), (3, 26), (0, 4), (3, 27), (2, 36), (1, 152), (1, 227), (3, 28), (3, 30), (0, 5), (3, 31), (1, 157), (1, 160), (1, 163), (3, 32)] rfl (by decide +kernel)
set_option maxRecDepth 20000 in
theorem l_wsX9_tick_r6 : GoodIn lw_tbl wsX9_tick_r6 := good_l _ [(3, 33), (3, 34), (3, 35), (3, 36), (2, 207), (2, 208), (1, 4), (2, 209), (1, 57), (1, 60), (1, 63), (1, 66), (1, 69), (1, 71), (3, 37), (3, 38), (3, 39), (1, 9), (3, 40), (2, 81), (2, 34), (2, 37), (3, 42), (3, 44)] rfl (by decide +kernel)
set_option maxRecDepth 20000 in
theorem l_wsX9_tick_r7 : GoodIn lw_tbl wsX9_tick_r7 := good_l _ [(0, 6), (3, 45), (2, 26), (1, 198), (1, 167), (1, 169), (1, 161), (3, 46), (3, 47), (3, 48), (1, 5), (3, 49), (1, 203), (3, 50), (3, 51), (3, 52), (1, 2), (3, 53), (2, 23), (2, 33), (1, 195), (1, 116), (3, 54), (3, 55)] rfl (by decide +kernel)
set_option maxRecDepth 20000 in
theorem l_wsX9_tick_r8 : GoodIn lw_tbl wsX9_tick_r8 := good_l _ [(3, 56), (3, 57), (1, 192), (1, 115), (3, 58), (3, 59), (3, 60), (3, 61), (3, 62), (1, 200), (2, 39), (1, 154), (1, 156), (1, 159), (3, 64), (3, 66), (0, 7), (3, 67), (3, 68), (3, 69), (3, 70), (3, 71), (1, 197), (1, 146)] rfl (by decide +kernel)
set_option maxRecDepth 20000 in
theorem l_wsX9_tick_r9 : GoodIn lw_tbl wsX9_tick_r9 := good_l _ [(1, 144), (3, 72), (3, 73), (3, 74), (3, 75), (1, 215), (3, 76), (3, 77), (3, 78), (3, 79), (3, 81), (0, 8), (3, 82), (3, 83), (3, 84), (3, 85), (1, 7), (3, 86), (1, 142), (1, 145), (3, 87), (3, 88), (3, 89), (1, 10)] rfl (by decide +kernel)
set_option maxRecDepth 20000 in
theorem l_wsX9_tick_r10 : GoodIn lw_tbl wsX9_tick_r10 := good_l _ [(3, 90), (2, 91), (2, 35), (2, 38), (2, 24), (1, 193), (3, 92), (3, 93), (3, 95), (0, 9), (3, 96), (1, 118), (1, 113), (2, 21), (1, 36), (3, 97), (3, 98), (3, 99), (3, 100), (3, 101), (3, 102), (1, 208), (1, 230), (1, 211)] rfl (by decide +kernel)
set_option maxRecDepth 20000 in
theorem l_wsX9_tick_r11 : GoodIn lw_tbl wsX9_tick_r11 := good_l _ [(1, 231), (3, 103), (3, 105), (0, 10), (3, 106), (2, 30), (1, 41), (3, 107), (3, 108), (3, 109), (3, 110), (3, 111), (1, 73), (3, 112), (3, 114), (0, 11), (3, 115), (1, 201), (1, 162), (3, 116), (3, 118), (0, 12), (3, 119), (3, 120)] rfl (by decide +kernel)
set_option maxRecDepth 20000 in
theorem l_wsX9_tick_r12 : GoodIn lw_tbl wsX9_tick_r12 := good_l _ [(3, 121), (3, 122), (3, 123), (3, 124), (3, 126), (0, 13), (3, 127), (3, 128), (3, 129), (3, 130), (3, 131), (3, 132), (3, 133), (3, 134), (3, 135), (3, 136), (3, 137), (3, 138), (3, 139), (3, 140), (3, 141), (1, 12), (3, 142), (3, 143)] rfl (by decide +kernel)
set_option maxRecDepth 20000 in
theorem l_wsX9_tick_r13 : GoodIn lw_tbl wsX9_tick_r13 := good_l _ [(3, 144), (3, 145), (3, 146), (3, 147), (3, 148), (3, 149), (3, 150), (3, 152), (0, 14), (3, 153), (1, 111), (3, 154), (3, 156), (3, 157), (3, 158), (3, 159), (3, 160), (3, 162), (0, 15), (3, 163), (3, 164), (3, 166), (0, 16), (3, 167)] rfl (by decide +kernel)
set_option maxRecDepth 20000 in
theorem l_wsX9_tick_r14 : GoodIn lw_tbl wsX9_tick_r14 := good_l _ [(1, 222), (1, 149), (1, 147), (2, 45), (2, 43), (1, 206), (3, 168), (3, 169), (3, 170), (3, 171), (3, 172), (3, 173), (3, 174), (3, 175), (3, 176), (1, 213), (1, 221), (3, 177), (3, 178), (3, 179), (3, 180), (3, 181)] rfl (by decide +kernel)
set_option maxRecDepth 20000 in
theorem gw_X9_tick : GoodIn lw_tbl wsX9_tick := goodIn_app l_X9_tick_0 (goodIn_app (goodIn_app (goodIn_app (goodIn_app (goodIn_app (goodIn_app (goodIn_app (goodIn_app (goodIn_app (goodIn_app (goodIn_app l_wsX9_tick_r1 (goodIn_app l_wsX9_tick_r2 (goodIn_app l_wsX9_tick_r3 (goodIn_app l_wsX9_tick_r4 (goodIn_app l_wsX9_tick_r5 (goodIn_app l_wsX9_tick_r6 (goodIn_app l_wsX9_tick_r7 (goodIn_app l_wsX9_tick_r8 (goodIn_app l_wsX9_tick_r9 (goodIn_app l_wsX9_tick_r10 (goodIn_app l_wsX9_tick_r11 (goodIn_app l_wsX9_tick_r12 (goodIn_app l_wsX9_tick_r13 l_wsX9_tick_r14))))))))))))) lx_9) lx_2) lx_0) lx_5) lx_3) lx_7) lx_8) lx_6) lx_4) lx_1)
set_option maxRecDepth 20000 in
theorem lv_law_X9_tick : GoodIn lw_tbl ([.methodLink RL 51 yX9_tick, .instanceMethod yX9_tick, .selects RX9 yX9_tick yX9_tick, .initialized RX9] : List Cond) := good_l _ [(2, 214), (2, 215), (2, 216), (1, 1)] rfl (by decide +kernel)
theorem gL_law_X9_tick : GoodIn lw_tbl (wsV RL 51 RX9 yX9_tick wsX9_tick) := goodIn_app lv_law_X9_tick gw_X9_tick
set_option maxRecDepth 20000 in
theorem l_X9_about_0 : GoodIn lw_tbl ([.code yX9_about cX9_about 4 (some .int)] : List Cond) := good_l _ [(3, 185)] rfl (by decide +kernel)
set_option maxRecDepth 20000 in
theorem l_wsX9_about_r1 : GoodIn lw_tbl wsX9_about_r1 := good_l _ [(2, 95), (2, 27), (1, 205), (2, 40), (1, 196), (1, 117), (1, 220), (1, 223), (1, 225), (1, 228), (1, 120), (1, 218), (1, 122), (1, 202), (1, 158), (1, 165), (1, 155), (2, 174), (2, 175), (2, 176), (1, 2), (2, 177), (2, 33), (2, 187)] rfl (by decide +kernel)
set_option maxRecDepth 20000 in
theorem l_wsX9_about_r2 : GoodIn lw_tbl wsX9_about_r2 := good_l _ [(2, 188), (1, 1), (2, 189), (3, 186), (3, 11), (3, 12), (3, 187), (3, 141), (1, 12), (3, 142), (3, 143), (3, 144), (3, 145), (3, 188), (3, 189), (3, 190), (1, 6), (3, 191), (3, 192), (3, 6), (3, 7), (3, 8), (3, 9), (2, 233)] rfl (by decide +kernel)
set_option maxRecDepth 20000 in
theorem l_wsX9_about_r3 : GoodIn lw_tbl wsX9_about_r3 := good_l _ [(2, 234), (2, 235), (1, 112), (1, 106), (2, 163), (2, 164)] rfl (by decide +kernel)
set_option maxRecDepth 20000 in
theorem gw_X9_about : GoodIn lw_tbl wsX9_about := goodIn_app l_X9_about_0 (goodIn_app (goodIn_app (goodIn_app (goodIn_app (goodIn_app (goodIn_app l_wsX9_about_r1 (goodIn_app l_wsX9_about_r2 l_wsX9_about_r3)) lx_9) lx_2) lx_3) lx_6) lx_7)
set_option maxRecDepth 20000 in
theorem lv_law_X9_about : GoodIn lw_tbl ([.methodLink RL 55 yX9_about, .instanceMethod yX9_about, .selects RX9 yX9_about yX9_about, .initialized RX9] : List Cond) := good_l _ [(3, 182), (3, 183), (3, 184), (1, 1)] rfl (by decide +kernel)
theorem gL_law_X9_about : GoodIn lw_tbl (wsV RL 55 RX9 yX9_about wsX9_about) := goodIn_app lv_law_X9_about gw_X9_about
set_option maxRecDepth 20000 in
theorem l_X9_held_0 : GoodIn lw_tbl ([.code yX9_held cX9_held 4 (some .int)] : List Cond) := good_l _ [(3, 196)] rfl (by decide +kernel)
set_option maxRecDepth 20000 in
theorem l_wsX9_held_r1 : GoodIn lw_tbl wsX9_held_r1 := good_l _ [(2, 95), (2, 20), (2, 27), (1, 196), (1, 117), (1, 42), (2, 174), (2, 175), (2, 176), (1, 2), (2, 177), (2, 33), (2, 140), (2, 128), (2, 129), (1, 3), (2, 130), (1, 34), (2, 187), (2, 188), (1, 1), (2, 189), (3, 197), (3, 6)] rfl (by decide +kernel)
set_option maxRecDepth 20000 in
theorem l_wsX9_held_r2 : GoodIn lw_tbl wsX9_held_r2 := good_l _ [(3, 7), (1, 6), (3, 8), (3, 9), (2, 233), (2, 234), (2, 235), (1, 112), (1, 106), (2, 163), (2, 164), (3, 11), (3, 12)] rfl (by decide +kernel)
set_option maxRecDepth 20000 in
theorem gw_X9_held : GoodIn lw_tbl wsX9_held := goodIn_app l_X9_held_0 (goodIn_app (goodIn_app (goodIn_app (goodIn_app (goodIn_app (goodIn_app l_wsX9_held_r1 l_wsX9_held_r2) lx_9) lx_2) lx_3) lx_6) lx_8)
set_option maxRecDepth 20000 in
theorem lv_law_X9_held : GoodIn lw_tbl ([.methodLink RL 59 yX9_held, .instanceMethod yX9_held, .selects RX9 yX9_held yX9_held, .initialized RX9] : List Cond) := good_l _ [(3, 193), (3, 194), (3, 195), (1, 1)] rfl (by decide +kernel)
theorem gL_law_X9_held : GoodIn lw_tbl (wsV RL 59 RX9 yX9_held wsX9_held) := goodIn_app lv_law_X9_held gw_X9_held
set_option maxRecDepth 20000 in
theorem l_X9_from_0 : GoodIn lw_tbl ([.code yX9_from cX9_from 4 (some .int)] : List Cond) := good_l _ [(3, 201)] rfl (by decide +kernel)
set_option maxRecDepth 20000 in
theorem l_wsX9_from_r1 : GoodIn lw_tbl wsX9_from_r1 := good_l _ [(2, 95), (2, 20), (2, 27), (1, 196), (1, 107), (2, 174), (2, 175), (2, 176), (1, 2), (2, 177), (2, 33), (2, 123), (2, 124), (2, 125), (1, 3), (2, 126), (1, 38), (2, 127), (2, 128), (2, 129), (2, 130), (1, 34), (3, 202), (2, 163)] rfl (by decide +kernel)
set_option maxRecDepth 20000 in
theorem l_wsX9_from_r2 : GoodIn lw_tbl wsX9_from_r2 := good_l _ [(1, 1), (2, 164)] rfl (by decide +kernel)
set_option maxRecDepth 20000 in
theorem gw_X9_from : GoodIn lw_tbl wsX9_from := goodIn_app l_X9_from_0 (goodIn_app (goodIn_app (goodIn_app (goodIn_app (goodIn_app (goodIn_app l_wsX9_from_r1 l_wsX9_from_r2) lx_9) lx_2) lx_3) lx_6) lx_8)
set_option maxRecDepth 20000 in
theorem lv_law_X9_from : GoodIn lw_tbl ([.methodLink RL 63 yX9_from, .instanceMethod yX9_from, .selects RX9 yX9_from yX9_from, .initialized RX9] : List Cond) := good_l _ [(3, 198), (3, 199), (3, 200), (1, 1)] rfl (by decide +kernel)
theorem gL_law_X9_from : GoodIn lw_tbl (wsV RL 63 RX9 yX9_from wsX9_from) := goodIn_app lv_law_X9_from gw_X9_from
set_option maxRecDepth 20000 in
theorem l_X9_got_0 : GoodIn lw_tbl ([.code yX9_got cX9_got 6 (some .int)] : List Cond) := good_l _ [(3, 206)] rfl (by decide +kernel)
set_option maxRecDepth 20000 in
theorem l_wsX9_got_r1 : GoodIn lw_tbl wsX9_got_r1 := good_l _ [(2, 95), (2, 20), (2, 27), (1, 196), (1, 117), (1, 109), (2, 174), (2, 175), (2, 176), (1, 2), (2, 177), (2, 33), (2, 123), (2, 124), (2, 125), (1, 3), (2, 126), (1, 38), (2, 127), (2, 128), (2, 129), (2, 130), (1, 34), (2, 187)] rfl (by decide +kernel)
set_option maxRecDepth 20000 in
theorem l_wsX9_got_r2 : GoodIn lw_tbl wsX9_got_r2 := good_l _ [(2, 188), (1, 1), (2, 189), (3, 207), (2, 233), (2, 234), (1, 6), (2, 235), (1, 112), (1, 106), (2, 163), (2, 164), (3, 202)] rfl (by decide +kernel)
set_option maxRecDepth 20000 in
theorem gw_X9_got : GoodIn lw_tbl wsX9_got := goodIn_app l_X9_got_0 (goodIn_app (goodIn_app (goodIn_app (goodIn_app (goodIn_app (goodIn_app l_wsX9_got_r1 l_wsX9_got_r2) lx_9) lx_2) lx_3) lx_6) lx_8)
set_option maxRecDepth 20000 in
theorem lv_law_X9_got : GoodIn lw_tbl ([.methodLink RL 67 yX9_got, .instanceMethod yX9_got, .selects RX9 yX9_got yX9_got, .initialized RX9] : List Cond) := good_l _ [(3, 203), (3, 204), (3, 205), (1, 1)] rfl (by decide +kernel)
theorem gL_law_X9_got : GoodIn lw_tbl (wsV RL 67 RX9 yX9_got wsX9_got) := goodIn_app lv_law_X9_got gw_X9_got
set_option maxRecDepth 20000 in
theorem l_X9_rare_0 : GoodIn lw_tbl ([.code yX9_rare cX9_rare 3 (some .int)] : List Cond) := good_l _ [(3, 211)] rfl (by decide +kernel)
set_option maxRecDepth 20000 in
theorem l_wsX9_rare_r1 : GoodIn lw_tbl wsX9_rare_r1 := good_l _ [(2, 95), (2, 20), (2, 174), (2, 175), (2, 176), (1, 2), (2, 177), (2, 33), (2, 140), (2, 128), (2, 129), (1, 3), (2, 130), (1, 34), (3, 212), (3, 60), (3, 61), (3, 62), (2, 23), (1, 200), (2, 39), (1, 154), (1, 156), (1, 159)] rfl (by decide +kernel)
set_option maxRecDepth 20000 in
theorem l_wsX9_rare_r2 : GoodIn lw_tbl wsX9_rare_r2 := good_l _ [(2, 188), (1, 1), (2, 189), (3, 213), (3, 129), (3, 130), (3, 131), (3, 54), (3, 55), (3, 56), (1, 5), (3, 57), (1, 203), (1, 192), (1, 115), (3, 58), (3, 187), (3, 141), (1, 12), (3, 142), (3, 143), (3, 144), (3, 145)] rfl (by decide +kernel)
set_option maxRecDepth 20000 in
theorem gw_X9_rare : GoodIn lw_tbl wsX9_rare := goodIn_app l_X9_rare_0 (goodIn_app (goodIn_app (goodIn_app (goodIn_app (goodIn_app (goodIn_app (goodIn_app l_wsX9_rare_r1 l_wsX9_rare_r2) lx_9) lx_2) lx_8) lx_3) lx_7) lx_6)
set_option maxRecDepth 20000 in
theorem lv_law_X9_rare : GoodIn lw_tbl ([.methodLink RL 71 yX9_rare, .instanceMethod yX9_rare, .selects RX9 yX9_rare yX9_rare, .initialized RX9] : List Cond) := good_l _ [(3, 208), (3, 209), (3, 210), (1, 1)] rfl (by decide +kernel)
theorem gL_law_X9_rare : GoodIn lw_tbl (wsV RL 71 RX9 yX9_rare wsX9_rare) := goodIn_app lv_law_X9_rare gw_X9_rare
set_option maxRecDepth 20000 in
theorem l_X9_pair_0 : GoodIn lw_tbl ([.code yX9_pair cX9_pair 5 (some .int)] : List Cond) := good_l _ [(3, 217)] rfl (by decide +kernel)
set_option maxRecDepth 20000 in
theorem l_wsX9_pair_r1 : GoodIn lw_tbl wsX9_pair_r1 := good_l _ [(2, 95), (2, 27), (1, 202), (1, 155), (1, 165), (1, 150), (1, 153), (1, 158), (1, 170), (2, 182), (2, 183), (2, 184), (1, 2), (2, 185), (2, 186), (2, 175), (2, 176), (2, 177), (2, 33), (2, 187), (2, 188), (1, 1), (2, 189), (3, 186)] rfl (by decide +kernel)
set_option maxRecDepth 20000 in
theorem l_wsX9_pair_r2 : GoodIn lw_tbl wsX9_pair_r2 := good_l _ [(3, 11), (3, 12), (3, 212), (3, 60), (3, 61), (3, 62), (2, 23), (1, 200), (2, 39), (1, 154), (1, 156), (1, 159), (3, 218), (3, 51), (3, 52), (3, 53), (1, 195), (1, 116), (3, 54), (3, 55), (3, 56), (1, 5), (3, 57), (1, 203)] rfl (by decide +kernel)
set_option maxRecDepth 20000 in
theorem l_wsX9_pair_r3 : GoodIn lw_tbl wsX9_pair_r3 := good_l _ [(1, 192), (1, 115), (3, 58), (3, 59), (3, 219), (3, 69), (3, 70), (3, 71), (1, 197), (1, 146), (1, 144), (3, 72), (3, 73), (3, 74), (3, 75), (1, 215)] rfl (by decide +kernel)
set_option maxRecDepth 20000 in
theorem gw_X9_pair : GoodIn lw_tbl wsX9_pair := goodIn_app l_X9_pair_0 (goodIn_app (goodIn_app (goodIn_app (goodIn_app (goodIn_app (goodIn_app l_wsX9_pair_r1 (goodIn_app l_wsX9_pair_r2 l_wsX9_pair_r3)) lx_9) lx_2) lx_3) lx_7) lx_6)
set_option maxRecDepth 20000 in
theorem lv_law_X9_pair : GoodIn lw_tbl ([.methodLink RL 75 yX9_pair, .instanceMethod yX9_pair, .selects RX9 yX9_pair yX9_pair, .initialized RX9] : List Cond) := good_l _ [(3, 214), (3, 215), (3, 216), (1, 1)] rfl (by decide +kernel)
theorem gL_law_X9_pair : GoodIn lw_tbl (wsV RL 75 RX9 yX9_pair wsX9_pair) := goodIn_app lv_law_X9_pair gw_X9_pair
set_option maxRecDepth 20000 in
theorem l_X9_alone_0 : GoodIn lw_tbl ([.code yX9_alone cX9_alone 2 (some .int)] : List Cond) := good_l _ [(3, 223)] rfl (by decide +kernel)
set_option maxRecDepth 20000 in
theorem l_wsX9_alone_r1 : GoodIn lw_tbl wsX9_alone_r1 := good_l _ [(2, 95), (2, 20), (2, 27), (1, 196), (1, 117), (3, 224), (2, 167), (2, 168), (1, 3), (2, 169), (1, 34), (3, 225), (3, 226), (3, 227), (1, 2), (3, 228), (2, 33), (2, 39), (2, 23), (1, 195), (1, 116), (2, 188), (1, 1), (2, 189)] rfl (by decide +kernel)
set_option maxRecDepth 20000 in
theorem l_wsX9_alone_r2 : GoodIn lw_tbl wsX9_alone_r2 := good_l _ [(3, 187), (3, 141), (1, 12), (3, 142), (3, 143), (3, 144), (3, 145), (2, 174), (2, 175), (2, 176), (2, 177)] rfl (by decide +kernel)
set_option maxRecDepth 20000 in
theorem gw_X9_alone : GoodIn lw_tbl wsX9_alone := goodIn_app l_X9_alone_0 (goodIn_app (goodIn_app (goodIn_app (goodIn_app (goodIn_app (goodIn_app l_wsX9_alone_r1 l_wsX9_alone_r2) lx_9) lx_2) lx_3) lx_6) lx_8)
set_option maxRecDepth 20000 in
theorem lv_law_X9_alone : GoodIn lw_tbl ([.methodLink RL 79 yX9_alone, .instanceMethod yX9_alone, .selects RX9 yX9_alone yX9_alone, .initialized RX9] : List Cond) := good_l _ [(3, 220), (3, 221), (3, 222), (1, 1)] rfl (by decide +kernel)
theorem gL_law_X9_alone : GoodIn lw_tbl (wsV RL 79 RX9 yX9_alone wsX9_alone) := goodIn_app lv_law_X9_alone gw_X9_alone
set_option maxRecDepth 20000 in
theorem l_X9_bound_0 : GoodIn lw_tbl ([.code yX9_bound cX9_bound 8 (some .int)] : List Cond) := good_l _ [(3, 232)] rfl (by decide +kernel)
set_option maxRecDepth 20000 in
theorem l_wsX9_bound_r1 : GoodIn lw_tbl wsX9_bound_r1 := good_l _ [(2, 95), (2, 40), (2, 27), (2, 20), (1, 37), (1, 42), (1, 209), (2, 32), (1, 196), (1, 212), (4, 2), (4, 3), (1, 13), (4, 4), (2, 174), (2, 175), (2, 176), (1, 2), (2, 177), (2, 33), (2, 187), (2, 188), (1, 1), (2, 189)] rfl (by decide +kernel)
set_option maxRecDepth 20000 in
theorem l_wsX9_bound_r2 : GoodIn lw_tbl wsX9_bound_r2 := good_l _ [(3, 233), (3, 73), (3, 74), (1, 5), (3, 75), (1, 215), (3, 234), (3, 235), (3, 236), (3, 237), (3, 238), (3, 239), (1, 6), (4, 0), (1, 112), (1, 121), (4, 1), (3, 189), (3, 190), (3, 191), (3, 192), (3, 6), (3, 7), (3, 8)] rfl (by decide +kernel)
set_option maxRecDepth 20000 in
theorem l_wsX9_bound_r3 : GoodIn lw_tbl wsX9_bound_r3 := good_l _ [(3, 9), (2, 233), (2, 234), (2, 235), (1, 106), (2, 163), (2, 164), (3, 11), (3, 12)] rfl (by decide +kernel)
set_option maxRecDepth 20000 in
theorem gw_X9_bound : GoodIn lw_tbl wsX9_bound := goodIn_app l_X9_bound_0 (goodIn_app (goodIn_app (goodIn_app (goodIn_app (goodIn_app (goodIn_app l_wsX9_bound_r1 (goodIn_app l_wsX9_bound_r2 l_wsX9_bound_r3)) lx_9) lx_2) lx_8) lx_3) lx_6)
set_option maxRecDepth 20000 in
theorem lv_law_X9_bound : GoodIn lw_tbl ([.methodLink RL 83 yX9_bound, .instanceMethod yX9_bound, .selects RX9 yX9_bound yX9_bound, .initialized RX9] : List Cond) := good_l _ [(3, 229), (3, 230), (3, 231), (1, 1)] rfl (by decide +kernel)
theorem gL_law_X9_bound : GoodIn lw_tbl (wsV RL 83 RX9 yX9_bound wsX9_bound) := goodIn_app lv_law_X9_bound gw_X9_bound
set_option maxRecDepth 20000 in
theorem l_X9_count_0 : GoodIn lw_tbl ([.code yX9_count cX9_count 2 (some .int)] : List Cond) := good_l _ [(4, 8)] rfl (by decide +kernel)
set_option maxRecDepth 20000 in
theorem l_wsX9_count_r1 : GoodIn lw_tbl wsX9_count_r1 := good_l _ [(2, 95), (2, 42), (2, 32), (2, 40), (2, 20), (1, 37), (1, 42), (2, 44), (2, 31), (1, 76), (2, 47), (3, 187), (3, 141), (1, 12), (3, 142), (3, 143), (3, 144), (3, 145), (4, 9), (4, 10), (4, 11), (1, 2), (4, 12), (2, 33)] rfl (by decide +kernel)
set_option maxRecDepth 20000 in
theorem l_wsX9_count_r2 : GoodIn lw_tbl wsX9_count_r2 := good_l _ [(2, 39), (2, 23), (2, 188), (1, 1), (2, 189), (4, 13), (3, 73), (3, 74), (1, 5), (3, 75), (1, 215), (3, 11), (3, 12), (4, 15), (4, 16), (4, 17), (4, 18), (1, 229), (4, 19), (4, 20), (4, 21), (4, 22), (1, 226)] rfl (by decide +kernel)
set_option maxRecDepth 20000 in
theorem gw_X9_count : GoodIn lw_tbl wsX9_count := goodIn_app l_X9_count_0 (goodIn_app (goodIn_app (goodIn_app (goodIn_app (goodIn_app (goodIn_app l_wsX9_count_r1 l_wsX9_count_r2) lx_9) lx_2) lx_8) lx_5) lx_3)
set_option maxRecDepth 20000 in
theorem lv_law_X9_count : GoodIn lw_tbl ([.methodLink RL 87 yX9_count, .instanceMethod yX9_count, .selects RX9 yX9_count yX9_count, .initialized RX9] : List Cond) := good_l _ [(4, 5), (4, 6), (4, 7), (1, 1)] rfl (by decide +kernel)
theorem gL_law_X9_count : GoodIn lw_tbl (wsV RL 87 RX9 yX9_count wsX9_count) := goodIn_app lv_law_X9_count gw_X9_count
set_option maxRecDepth 20000 in
theorem lx_10 : GoodIn lw_tbl wsX100 := good_l _ [(4, 74), (4, 76), (4, 78), (4, 80), (4, 82), (4, 84), (4, 86), (4, 88), (4, 90), (4, 92), (4, 94), (4, 96), (4, 98), (4, 100), (4, 102), (4, 104), (4, 106), (4, 108), (4, 110), (4, 112), (4, 114), (4, 116), (4, 118), (4, 120), (4, 122), (4, 124), (4, 126), (4, 128), (4, 130), (4, 132), (4, 134), (4, 136), (4, 138), (4, 140), (4, 142), (4, 144), (4, 146), (4, 148), (4, 150), (4, 152), (4, 154), (4, 156), (4, 158), (4, 160), (4, 162)] rfl (by decide +kernel)
set_option maxRecDepth 20000 in
theorem nest_in : ∀ w ∈ nestL.map (fun q => Cond.methodLinkNest q.1 q.2.1 q.2.2 "PieceSwarm"), w ∈ lw_tbl := in_l _ [(2, 146), (2, 162), (2, 231), (2, 236), (3, 10), (3, 17), (3, 41), (3, 63), (3, 91), (3, 155), (4, 14)] rfl
theorem over_in : Cond.arrayOver (.object "PieceSwarm$Member") ∈ lw_tbl := look_in (q := (1, 94)) rfl
theorem arrI_in : Cond.arrayClass .int ∈ lw_tbl := look_in (q := (1, 92)) rfl
theorem arrZ_in : Cond.arrayClass .boolean ∈ lw_tbl := look_in (q := (4, 165)) rfl
theorem inst_0 : Cond.instantiable RX0 1 ∈ lw_tbl := look_in (q := (2, 66)) rfl
theorem inst_1 : Cond.instantiable RX1 1 ∈ lw_tbl := look_in (q := (2, 86)) rfl
theorem inst_2 : Cond.instantiable RX2 8 ∈ lw_tbl := look_in (q := (1, 23)) rfl
theorem inst_3 : Cond.instantiable RX3 13 ∈ lw_tbl := look_in (q := (1, 95)) rfl
theorem inst_4 : Cond.instantiable RX4 1 ∈ lw_tbl := look_in (q := (2, 76)) rfl
theorem inst_5 : Cond.instantiable RX5 7 ∈ lw_tbl := look_in (q := (1, 52)) rfl
theorem inst_6 : Cond.instantiable RX6 6 ∈ lw_tbl := look_in (q := (1, 101)) rfl
theorem inst_7 : Cond.instantiable RX7 10 ∈ lw_tbl := look_in (q := (1, 137)) rfl
theorem inst_8 : Cond.instantiable RX8 3 ∈ lw_tbl := look_in (q := (1, 29)) rfl
theorem inst_9 : Cond.instantiable RX9 4 ∈ lw_tbl := look_in (q := (1, 15)) rfl
theorem inst_10 : Cond.instantiable RX10 45 ∈ lw_tbl := look_in (q := (4, 24)) rfl
theorem lk_9 : Cond.classLink RL 7 RX9 ∈ lw_tbl := look_in (q := (1, 14)) rfl
theorem lk_10 : Cond.classLink RL 10 RX10 ∈ lw_tbl := look_in (q := (4, 23)) rfl
theorem ini_9 : Cond.initialized RX9 ∈ lw_tbl := look_in (q := (1, 1)) rfl
theorem ini_10 : Cond.initialized RX10 ∈ lw_tbl := look_in (q := (1, 11)) rfl
theorem ml_9 : Cond.methodLink RL 9 yX9_init ∈ lw_tbl := look_in (q := (1, 16)) rfl
theorem ml_10 : Cond.methodLink RL 12 yX10_init ∈ lw_tbl := look_in (q := (4, 25)) rfl
theorem im_9 : Cond.instanceMethod yX9_init ∈ lw_tbl := look_in (q := (1, 17)) rfl
theorem im_10 : Cond.instanceMethod yX10_init ∈ lw_tbl := look_in (q := (4, 26)) rfl
