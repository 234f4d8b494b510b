theorem wi_RL : kWd (.initialized RL) := ⟨kin1 (List.mem_of_getElem? (i := 0) (by decide +kernel)), by decide +kernel⟩
theorem wi_RX9 : kWd (.initialized RX9) := ⟨kin1 (List.mem_of_getElem? (i := 1) (by decide +kernel)), by decide +kernel⟩
theorem wi_RX7 : kWd (.initialized RX7) := ⟨kin1 (List.mem_of_getElem? (i := 2) (by decide +kernel)), by decide +kernel⟩
theorem wi_RX2 : kWd (.initialized RX2) := ⟨kin1 (List.mem_of_getElem? (i := 3) (by decide +kernel)), by decide +kernel⟩
theorem wi_RX0 : kWd (.initialized RX0) := ⟨kin1 (List.mem_of_getElem? (i := 4) (by decide +kernel)), by decide +kernel⟩
theorem wi_RX3 : kWd (.initialized RX3) := ⟨kin1 (List.mem_of_getElem? (i := 5) (by decide +kernel)), by decide +kernel⟩
theorem wi_RX8 : kWd (.initialized RX8) := ⟨kin1 (List.mem_of_getElem? (i := 6) (by decide +kernel)), by decide +kernel⟩
theorem wi_RX4 : kWd (.initialized RX4) := ⟨kin1 (List.mem_of_getElem? (i := 7) (by decide +kernel)), by decide +kernel⟩
theorem wi_RX10 : kWd (.initialized RX10) := ⟨kin1 (List.mem_of_getElem? (i := 8) (by decide +kernel)), by decide +kernel⟩
theorem wi_RX1 : kWd (.initialized RX1) := ⟨kin1 (List.mem_of_getElem? (i := 9) (by decide +kernel)), by decide +kernel⟩
theorem wi_RJ10 : kWd (.initialized RJ10) := ⟨kin1 (List.mem_of_getElem? (i := 10) (by decide +kernel)), by decide +kernel⟩
theorem wi_RX5 : kWd (.initialized RX5) := ⟨kin1 (List.mem_of_getElem? (i := 11) (by decide +kernel)), by decide +kernel⟩
theorem wi_RJ9 : kWd (.initialized RJ9) := ⟨kin1 (List.mem_of_getElem? (i := 12) (by decide +kernel)), by decide +kernel⟩
theorem wi_RX6 : kWd (.initialized RX6) := ⟨kin1 (List.mem_of_getElem? (i := 13) (by decide +kernel)), by decide +kernel⟩
theorem wi_RJ7 : kWd (.initialized RJ7) := ⟨kin1 (List.mem_of_getElem? (i := 14) (by decide +kernel)), by decide +kernel⟩
set_option maxRecDepth 100000 in
theorem clX0 : kCl 0 RX0 TX0 3 tyX0 := ⟨rfl, fun w h => ⟨(show ∀ w ∈ u_ws RX0 TX0 3, w ∈ lw_tbl by decide +kernel) w h, (show ∀ w ∈ u_ws RX0 TX0 3, goodWord w = true by decide +kernel) w h⟩, tyX0_ok, nmX0, ⟨kin1 (List.mem_of_getElem? (i := 52) (by decide +kernel)), by decide +kernel⟩⟩
set_option maxRecDepth 100000 in
theorem clX2 : kCl 1 RX2 TX2 4 tyX2 := ⟨rfl, fun w h => ⟨(show ∀ w ∈ u_ws RX2 TX2 4, w ∈ lw_tbl by decide +kernel) w h, (show ∀ w ∈ u_ws RX2 TX2 4, goodWord w = true by decide +kernel) w h⟩, tyX2_ok, nmX2, ⟨kin1 (List.mem_of_getElem? (i := 41) (by decide +kernel)), by decide +kernel⟩⟩
set_option maxRecDepth 100000 in
theorem clX3 : kCl 2 RX3 TX3 1 tyX3 := ⟨rfl, fun w h => ⟨(show ∀ w ∈ u_ws RX3 TX3 1, w ∈ lw_tbl by decide +kernel) w h, (show ∀ w ∈ u_ws RX3 TX3 1, goodWord w = true by decide +kernel) w h⟩, tyX3_ok, nmX3, ⟨kin1 (List.mem_of_getElem? (i := 96) (by decide +kernel)), by decide +kernel⟩⟩
set_option maxRecDepth 100000 in
theorem clX4 : kCl 3 RX4 TX4 2 tyX4 := ⟨rfl, fun w h => ⟨(show ∀ w ∈ u_ws RX4 TX4 2, w ∈ lw_tbl by decide +kernel) w h, (show ∀ w ∈ u_ws RX4 TX4 2, goodWord w = true by decide +kernel) w h⟩, tyX4_ok, nmX4, ⟨kin1 (List.mem_of_getElem? (i := 143) (by decide +kernel)), by decide +kernel⟩⟩
set_option maxRecDepth 100000 in
theorem clX6 : kCl 4 RX6 TX6 4 tyX6 := ⟨rfl, fun w h => ⟨(show ∀ w ∈ u_ws RX6 TX6 4, w ∈ lw_tbl by decide +kernel) w h, (show ∀ w ∈ u_ws RX6 TX6 4, goodWord w = true by decide +kernel) w h⟩, tyX6_ok, nmX6, ⟨kin3 (List.mem_of_getElem? (i := 1) (by decide +kernel)), by decide +kernel⟩⟩
set_option maxRecDepth 100000 in
theorem clX7 : kCl 5 RX7 TX7 2 tyX7 := ⟨rfl, fun w h => ⟨(show ∀ w ∈ u_ws RX7 TX7 2, w ∈ lw_tbl by decide +kernel) w h, (show ∀ w ∈ u_ws RX7 TX7 2, goodWord w = true by decide +kernel) w h⟩, tyX7_ok, nmX7, ⟨kin1 (List.mem_of_getElem? (i := 24) (by decide +kernel)), by decide +kernel⟩⟩
set_option maxRecDepth 100000 in
theorem clX8 : kCl 6 RX8 TX8 7 tyX8 := ⟨rfl, fun w h => ⟨(show ∀ w ∈ u_ws RX8 TX8 7, w ∈ lw_tbl by decide +kernel) w h, (show ∀ w ∈ u_ws RX8 TX8 7, goodWord w = true by decide +kernel) w h⟩, tyX8_ok, nmX8, ⟨kin1 (List.mem_of_getElem? (i := 109) (by decide +kernel)), by decide +kernel⟩⟩
set_option maxRecDepth 100000 in
theorem clX9 : kCl 7 RX9 TX9 8 tyX9 := ⟨rfl, fun w h => ⟨(show ∀ w ∈ u_ws RX9 TX9 8, w ∈ lw_tbl by decide +kernel) w h, (show ∀ w ∈ u_ws RX9 TX9 8, goodWord w = true by decide +kernel) w h⟩, tyX9_ok, nmX9, ⟨kin1 (List.mem_of_getElem? (i := 16) (by decide +kernel)), by decide +kernel⟩⟩
set_option maxRecDepth 100000 in
theorem clX10 : kCl 8 RX10 TX10 33 tyX10 := ⟨rfl, fun w h => ⟨(show ∀ w ∈ u_ws RX10 TX10 33, w ∈ lw_tbl by decide +kernel) w h, (show ∀ w ∈ u_ws RX10 TX10 33, goodWord w = true by decide +kernel) w h⟩, tyX10_ok, nmX10, ⟨kin3 (List.mem_of_getElem? (i := 182) (by decide +kernel)), by decide +kernel⟩⟩
def mX9_init : kM := (yX9_init, cX9_init, 2, none)
theorem mtX9_init : kMt mX9_init 0 := ⟨by decide +kernel, ⟨by decide +kernel, by decide +kernel, by decide +kernel⟩, ⟨kin1 (List.mem_of_getElem? (i := 19) (by decide +kernel)), by decide +kernel⟩, wi_RX9, by decide +kernel⟩
def mX7_init : kM := (yX7_init, cX7_init, 1, none)
theorem mtX7_init : kMt mX7_init 0 := ⟨by decide +kernel, ⟨by decide +kernel, by decide +kernel, by decide +kernel⟩, ⟨kin1 (List.mem_of_getElem? (i := 27) (by decide +kernel)), by decide +kernel⟩, wi_RX7, by decide +kernel⟩
def mX2_init : kM := (yX2_init, cX2_init, 2, none)
theorem mtX2_init : kMt mX2_init 0 := ⟨by decide +kernel, ⟨by decide +kernel, by decide +kernel, by decide +kernel⟩, ⟨kin1 (List.mem_of_getElem? (i := 44) (by decide +kernel)), by decide +kernel⟩, wi_RX2, by decide +kernel⟩
def mX0_init : kM := (yX0_init, cX0_init, 1, none)
theorem mtX0_init : kMt mX0_init 0 := ⟨by decide +kernel, ⟨by decide +kernel, by decide +kernel, by decide +kernel⟩, ⟨kin1 (List.mem_of_getElem? (i := 55) (by decide +kernel)), by decide +kernel⟩, wi_RX0, by decide +kernel⟩
def mX3_init : kM := (yX3_init, cX3_init, 4, none)
theorem mtX3_init : kMt mX3_init 0 := ⟨by decide +kernel, ⟨by decide +kernel, by decide +kernel, by decide +kernel⟩, ⟨kin1 (List.mem_of_getElem? (i := 99) (by decide +kernel)), by decide +kernel⟩, wi_RX3, by decide +kernel⟩
def mX8_init : kM := (yX8_init, cX8_init, 2, none)
theorem mtX8_init : kMt mX8_init 1 := ⟨by decide +kernel, ⟨by decide +kernel, by decide +kernel, by decide +kernel⟩, ⟨kin1 (List.mem_of_getElem? (i := 112) (by decide +kernel)), by decide +kernel⟩, wi_RX8, by decide +kernel⟩
def mX4_init : kM := (yX4_init, cX4_init, 2, none)
theorem mtX4_init : kMt mX4_init 1 := ⟨by decide +kernel, ⟨by decide +kernel, by decide +kernel, by decide +kernel⟩, ⟨kin1 (List.mem_of_getElem? (i := 146) (by decide +kernel)), by decide +kernel⟩, wi_RX4, by decide +kernel⟩
def mX9_men : kM := (yX9_men, cX9_men, 6, (some .int))
theorem mtX9_men : kMt mX9_men 3 := ⟨by decide +kernel, ⟨by decide +kernel, by decide +kernel, by decide +kernel⟩, ⟨kin1 (List.mem_of_getElem? (i := 185) (by decide +kernel)), by decide +kernel⟩, wi_RX9, by decide +kernel⟩
def mX2_bookAt : kM := (yX2_bookAt, cX2_bookAt, 2, (some (.object "KingsInches$Book")))
theorem mtX2_bookAt : kMt mX2_bookAt 1 := ⟨by decide +kernel, ⟨by decide +kernel, by decide +kernel, by decide +kernel⟩, ⟨kin1 (List.mem_of_getElem? (i := 189) (by decide +kernel)), by decide +kernel⟩, wi_RX2, by decide +kernel⟩
def mX9_within : kM := (yX9_within, cX9_within, 3, (some .boolean))
theorem mtX9_within : kMt mX9_within 3 := ⟨by decide +kernel, ⟨by decide +kernel, by decide +kernel, by decide +kernel⟩, ⟨kin1 (List.mem_of_getElem? (i := 192) (by decide +kernel)), by decide +kernel⟩, wi_RX9, by decide +kernel⟩
def mX9_isHeight : kM := (yX9_isHeight, cX9_isHeight, 1, (some .boolean))
theorem mtX9_isHeight : kMt mX9_isHeight 1 := ⟨by decide +kernel, ⟨by decide +kernel, by decide +kernel, by decide +kernel⟩, ⟨kin1 (List.mem_of_getElem? (i := 195) (by decide +kernel)), by decide +kernel⟩, wi_RX9, by decide +kernel⟩
def mX0_menAt : kM := (yX0_menAt, cX0_menAt, 2, (some .int))
theorem mtX0_menAt : kMt mX0_menAt 1 := ⟨by decide +kernel, ⟨by decide +kernel, by decide +kernel, by decide +kernel⟩, ⟨kin1 (List.mem_of_getElem? (i := 200) (by decide +kernel)), by decide +kernel⟩, wi_RX0, by decide +kernel⟩
def mX0_put : kM := (yX0_put, cX0_put, 3, none)
theorem mtX0_put : kMt mX0_put 2 := ⟨by decide +kernel, ⟨by decide +kernel, by decide +kernel, by decide +kernel⟩, ⟨kin1 (List.mem_of_getElem? (i := 204) (by decide +kernel)), by decide +kernel⟩, wi_RX0, by decide +kernel⟩
def mX9_set : kM := (yX9_set, cX9_set, 6, (some .int))
theorem mtX9_set : kMt mX9_set 3 := ⟨by decide +kernel, ⟨by decide +kernel, by decide +kernel, by decide +kernel⟩, ⟨kin1 (List.mem_of_getElem? (i := 209) (by decide +kernel)), by decide +kernel⟩, wi_RX9, by decide +kernel⟩
def mX0_entry : kM := (yX0_entry, cX0_entry, 2, (some .int))
theorem mtX0_entry : kMt mX0_entry 1 := ⟨by decide +kernel, ⟨by decide +kernel, by decide +kernel, by decide +kernel⟩, ⟨kin1 (List.mem_of_getElem? (i := 217) (by decide +kernel)), by decide +kernel⟩, wi_RX0, by decide +kernel⟩
def mX0_enter : kM := (yX0_enter, cX0_enter, 3, none)
theorem mtX0_enter : kMt mX0_enter 2 := ⟨by decide +kernel, ⟨by decide +kernel, by decide +kernel, by decide +kernel⟩, ⟨kin1 (List.mem_of_getElem? (i := 222) (by decide +kernel)), by decide +kernel⟩, wi_RX0, by decide +kernel⟩
def mX9_way : kM := (yX9_way, cX9_way, 4, (some .int))
theorem mtX9_way : kMt mX9_way 2 := ⟨by decide +kernel, ⟨by decide +kernel, by decide +kernel, by decide +kernel⟩, ⟨kin1 (List.mem_of_getElem? (i := 226) (by decide +kernel)), by decide +kernel⟩, wi_RX9, by decide +kernel⟩
def mX2_wayOf : kM := (yX2_wayOf, cX2_wayOf, 2, (some .int))
theorem mtX2_wayOf : kMt mX2_wayOf 1 := ⟨by decide +kernel, ⟨by decide +kernel, by decide +kernel, by decide +kernel⟩, ⟨kin1 (List.mem_of_getElem? (i := 231) (by decide +kernel)), by decide +kernel⟩, wi_RX2, by decide +kernel⟩
def mX2_turn : kM := (yX2_turn, cX2_turn, 3, none)
theorem mtX2_turn : kMt mX2_turn 2 := ⟨by decide +kernel, ⟨by decide +kernel, by decide +kernel, by decide +kernel⟩, ⟨kin1 (List.mem_of_getElem? (i := 235) (by decide +kernel)), by decide +kernel⟩, wi_RX2, by decide +kernel⟩
def mX9_say : kM := (yX9_say, cX9_say, 2, (some .int))
theorem mtX9_say : kMt mX9_say 1 := ⟨by decide +kernel, ⟨by decide +kernel, by decide +kernel, by decide +kernel⟩, ⟨kin1 (List.mem_of_getElem? (i := 239) (by decide +kernel)), by decide +kernel⟩, wi_RX9, by decide +kernel⟩
def mX7_add : kM := (yX7_add, cX7_add, 2, (some .boolean))
theorem mtX7_add : kMt mX7_add 1 := ⟨by decide +kernel, ⟨by decide +kernel, by decide +kernel, by decide +kernel⟩, ⟨kin2 (List.mem_of_getElem? (i := 3) (by decide +kernel)), by decide +kernel⟩, wi_RX7, by decide +kernel⟩
def mX9_wipe : kM := (yX9_wipe, cX9_wipe, 2, (some .int))
theorem mtX9_wipe : kMt mX9_wipe 0 := ⟨by decide +kernel, ⟨by decide +kernel, by decide +kernel, by decide +kernel⟩, ⟨kin2 (List.mem_of_getElem? (i := 7) (by decide +kernel)), by decide +kernel⟩, wi_RX9, by decide +kernel⟩
def mX7_clear : kM := (yX7_clear, cX7_clear, 1, none)
theorem mtX7_clear : kMt mX7_clear 0 := ⟨by decide +kernel, ⟨by decide +kernel, by decide +kernel, by decide +kernel⟩, ⟨kin2 (List.mem_of_getElem? (i := 11) (by decide +kernel)), by decide +kernel⟩, wi_RX7, by decide +kernel⟩
def mX9_fault : kM := (yX9_fault, cX9_fault, 2, (some .int))
theorem mtX9_fault : kMt mX9_fault 1 := ⟨by decide +kernel, ⟨by decide +kernel, by decide +kernel, by decide +kernel⟩, ⟨kin2 (List.mem_of_getElem? (i := 15) (by decide +kernel)), by decide +kernel⟩, wi_RX9, by decide +kernel⟩
def mX1_faultOf : kM := (yX1_faultOf, cX1_faultOf, 4, (some .int))
theorem mtX1_faultOf : kMt mX1_faultOf 2 := ⟨by decide +kernel, ⟨by decide +kernel, by decide +kernel, by decide +kernel⟩, ⟨kin2 (List.mem_of_getElem? (i := 18) (by decide +kernel)), by decide +kernel⟩, wi_RX1, by decide +kernel⟩
def mX7_signAt : kM := (yX7_signAt, cX7_signAt, 2, (some .int))
theorem mtX7_signAt : kMt mX7_signAt 1 := ⟨by decide +kernel, ⟨by decide +kernel, by decide +kernel, by decide +kernel⟩, ⟨kin2 (List.mem_of_getElem? (i := 22) (by decide +kernel)), by decide +kernel⟩, wi_RX7, by decide +kernel⟩
def mX1_after : kM := (yX1_after, cX1_after, 2, (some .int))
theorem mtX1_after : kMt mX1_after 2 := ⟨by decide +kernel, ⟨by decide +kernel, by decide +kernel, by decide +kernel⟩, ⟨kin2 (List.mem_of_getElem? (i := 25) (by decide +kernel)), by decide +kernel⟩, wi_RX1, by decide +kernel⟩
def mX1_beginTest : kM := (yX1_beginTest, cX1_beginTest, 1, (some .int))
theorem mtX1_beginTest : kMt mX1_beginTest 1 := ⟨by decide +kernel, ⟨by decide +kernel, by decide +kernel, by decide +kernel⟩, ⟨kin2 (List.mem_of_getElem? (i := 28) (by decide +kernel)), by decide +kernel⟩, wi_RX1, by decide +kernel⟩
def mX1_isDigit : kM := (yX1_isDigit, cX1_isDigit, 1, (some .boolean))
theorem mtX1_isDigit : kMt mX1_isDigit 1 := ⟨by decide +kernel, ⟨by decide +kernel, by decide +kernel, by decide +kernel⟩, ⟨kin2 (List.mem_of_getElem? (i := 31) (by decide +kernel)), by decide +kernel⟩, wi_RX1, by decide +kernel⟩
def mX1_endTest : kM := (yX1_endTest, cX1_endTest, 1, (some .int))
theorem mtX1_endTest : kMt mX1_endTest 1 := ⟨by decide +kernel, ⟨by decide +kernel, by decide +kernel, by decide +kernel⟩, ⟨kin2 (List.mem_of_getElem? (i := 34) (by decide +kernel)), by decide +kernel⟩, wi_RX1, by decide +kernel⟩
def mX1_endPiece : kM := (yX1_endPiece, cX1_endPiece, 2, (some .int))
theorem mtX1_endPiece : kMt mX1_endPiece 2 := ⟨by decide +kernel, ⟨by decide +kernel, by decide +kernel, by decide +kernel⟩, ⟨kin2 (List.mem_of_getElem? (i := 37) (by decide +kernel)), by decide +kernel⟩, wi_RX1, by decide +kernel⟩
def mX1_afterInGrowth : kM := (yX1_afterInGrowth, cX1_afterInGrowth, 2, (some .int))
theorem mtX1_afterInGrowth : kMt mX1_afterInGrowth 2 := ⟨by decide +kernel, ⟨by decide +kernel, by decide +kernel, by decide +kernel⟩, ⟨kin2 (List.mem_of_getElem? (i := 40) (by decide +kernel)), by decide +kernel⟩, wi_RX1, by decide +kernel⟩
def mX1_endAge : kM := (yX1_endAge, cX1_endAge, 1, (some .int))
theorem mtX1_endAge : kMt mX1_endAge 1 := ⟨by decide +kernel, ⟨by decide +kernel, by decide +kernel, by decide +kernel⟩, ⟨kin2 (List.mem_of_getElem? (i := 43) (by decide +kernel)), by decide +kernel⟩, wi_RX1, by decide +kernel⟩
def mX9_take : kM := (yX9_take, cX9_take, 3, (some .int))
theorem mtX9_take : kMt mX9_take 1 := ⟨by decide +kernel, ⟨by decide +kernel, by decide +kernel, by decide +kernel⟩, ⟨kin2 (List.mem_of_getElem? (i := 47) (by decide +kernel)), by decide +kernel⟩, wi_RX9, by decide +kernel⟩
def mX7_copyFrom : kM := (yX7_copyFrom, cX7_copyFrom, 2, none)
theorem mtX7_copyFrom : kMt mX7_copyFrom 1 := ⟨by decide +kernel, ⟨by decide +kernel, by decide +kernel, by decide +kernel⟩, ⟨kin2 (List.mem_of_getElem? (i := 51) (by decide +kernel)), by decide +kernel⟩, wi_RX7, by decide +kernel⟩
def mX7_pieces : kM := (yX7_pieces, cX7_pieces, 3, (some .int))
theorem mtX7_pieces : kMt mX7_pieces 0 := ⟨by decide +kernel, ⟨by decide +kernel, by decide +kernel, by decide +kernel⟩, ⟨kin2 (List.mem_of_getElem? (i := 58) (by decide +kernel)), by decide +kernel⟩, wi_RX7, by decide +kernel⟩
def mX9_line : kM := (yX9_line, cX9_line, 3, (some .int))
theorem mtX9_line : kMt mX9_line 1 := ⟨by decide +kernel, ⟨by decide +kernel, by decide +kernel, by decide +kernel⟩, ⟨kin2 (List.mem_of_getElem? (i := 63) (by decide +kernel)), by decide +kernel⟩, wi_RX9, by decide +kernel⟩
def mX2_lineOf : kM := (yX2_lineOf, cX2_lineOf, 2, (some .int))
theorem mtX2_lineOf : kMt mX2_lineOf 1 := ⟨by decide +kernel, ⟨by decide +kernel, by decide +kernel, by decide +kernel⟩, ⟨kin2 (List.mem_of_getElem? (i := 67) (by decide +kernel)), by decide +kernel⟩, wi_RX2, by decide +kernel⟩
def mX5_lineBy : kM := (yX5_lineBy, cX5_lineBy, 9, (some .int))
theorem mtX5_lineBy : kMt mX5_lineBy 3 := ⟨by decide +kernel, ⟨by decide +kernel, by decide +kernel, by decide +kernel⟩, ⟨kin2 (List.mem_of_getElem? (i := 71) (by decide +kernel)), by decide +kernel⟩, wi_RX5, by decide +kernel⟩
def mX5_holds : kM := (yX5_holds, cX5_holds, 3, (some .boolean))
theorem mtX5_holds : kMt mX5_holds 3 := ⟨by decide +kernel, ⟨by decide +kernel, by decide +kernel, by decide +kernel⟩, ⟨kin2 (List.mem_of_getElem? (i := 76) (by decide +kernel)), by decide +kernel⟩, wi_RX5, by decide +kernel⟩
def mJ9_min_7cf53 : kM := (yJ9_min_7cf53, cJ9_min_7cf53, 2, (some .int))
theorem mkJ9_min_7cf53 : kWd (.code yJ9_min_7cf53 cJ9_min_7cf53 2 (some .int)) := ⟨kin2 (List.mem_of_getElem? (i := 79) (by decide +kernel)), by decide +kernel⟩
def mX9_hump : kM := (yX9_hump, cX9_hump, 4, (some .int))
theorem mtX9_hump : kMt mX9_hump 3 := ⟨by decide +kernel, ⟨by decide +kernel, by decide +kernel, by decide +kernel⟩, ⟨kin2 (List.mem_of_getElem? (i := 83) (by decide +kernel)), by decide +kernel⟩, wi_RX9, by decide +kernel⟩
def mX9_isHump : kM := (yX9_isHump, cX9_isHump, 2, (some .boolean))
theorem mtX9_isHump : kMt mX9_isHump 2 := ⟨by decide +kernel, ⟨by decide +kernel, by decide +kernel, by decide +kernel⟩, ⟨kin2 (List.mem_of_getElem? (i := 86) (by decide +kernel)), by decide +kernel⟩, wi_RX9, by decide +kernel⟩
def mX9_isWidth : kM := (yX9_isWidth, cX9_isWidth, 1, (some .boolean))
theorem mtX9_isWidth : kMt mX9_isWidth 1 := ⟨by decide +kernel, ⟨by decide +kernel, by decide +kernel, by decide +kernel⟩, ⟨kin2 (List.mem_of_getElem? (i := 89) (by decide +kernel)), by decide +kernel⟩, wi_RX9, by decide +kernel⟩
def mX3_menAt : kM := (yX3_menAt, cX3_menAt, 4, (some .int))
theorem mtX3_menAt : kMt mX3_menAt 3 := ⟨by decide +kernel, ⟨by decide +kernel, by decide +kernel, by decide +kernel⟩, ⟨kin2 (List.mem_of_getElem? (i := 93) (by decide +kernel)), by decide +kernel⟩, wi_RX3, by decide +kernel⟩
def mX3_waysOf : kM := (yX3_waysOf, cX3_waysOf, 3, (some .int))
theorem mtX3_waysOf : kMt mX3_waysOf 2 := ⟨by decide +kernel, ⟨by decide +kernel, by decide +kernel, by decide +kernel⟩, ⟨kin2 (List.mem_of_getElem? (i := 97) (by decide +kernel)), by decide +kernel⟩, wi_RX3, by decide +kernel⟩
def mX9_upper : kM := (yX9_upper, cX9_upper, 8, (some .long))
theorem mtX9_upper : kMt mX9_upper 5 := ⟨by decide +kernel, ⟨by decide +kernel, by decide +kernel, by decide +kernel⟩, ⟨kin2 (List.mem_of_getElem? (i := 101) (by decide +kernel)), by decide +kernel⟩, wi_RX9, by decide +kernel⟩
def mX9_isPart : kM := (yX9_isPart, cX9_isPart, 1, (some .boolean))
theorem mtX9_isPart : kMt mX9_isPart 1 := ⟨by decide +kernel, ⟨by decide +kernel, by decide +kernel, by decide +kernel⟩, ⟨kin2 (List.mem_of_getElem? (i := 104) (by decide +kernel)), by decide +kernel⟩, wi_RX9, by decide +kernel⟩
def mX3_countFrom : kM := (yX3_countFrom, cX3_countFrom, 7, (some .long))
theorem mtX3_countFrom : kMt mX3_countFrom 3 := ⟨by decide +kernel, ⟨by decide +kernel, by decide +kernel, by decide +kernel⟩, ⟨kin2 (List.mem_of_getElem? (i := 109) (by decide +kernel)), by decide +kernel⟩, wi_RX3, by decide +kernel⟩
def mJ9_max_7cf53 : kM := (yJ9_max_7cf53, cJ9_max_7cf53, 2, (some .int))
theorem mkJ9_max_7cf53 : kWd (.code yJ9_max_7cf53 cJ9_max_7cf53 2 (some .int)) := ⟨kin2 (List.mem_of_getElem? (i := 112) (by decide +kernel)), by decide +kernel⟩
def mX9_tell : kM := (yX9_tell, cX9_tell, 5, (some .long))
theorem mtX9_tell : kMt mX9_tell 3 := ⟨by decide +kernel, ⟨by decide +kernel, by decide +kernel, by decide +kernel⟩, ⟨kin2 (List.mem_of_getElem? (i := 116) (by decide +kernel)), by decide +kernel⟩, wi_RX9, by decide +kernel⟩
def mJ9_abs_067f4 : kM := (yJ9_abs_067f4, cJ9_abs_067f4, 2, (some .long))
theorem mkJ9_abs_067f4 : kWd (.code yJ9_abs_067f4 cJ9_abs_067f4 2 (some .long)) := ⟨kin2 (List.mem_of_getElem? (i := 119) (by decide +kernel)), by decide +kernel⟩
def mX9_commonDivisor : kM := (yX9_commonDivisor, cX9_commonDivisor, 11, (some .long))
theorem mtX9_commonDivisor : kMt mX9_commonDivisor 2 := ⟨by decide +kernel, ⟨by decide +kernel, by decide +kernel, by decide +kernel⟩, ⟨kin2 (List.mem_of_getElem? (i := 122) (by decide +kernel)), by decide +kernel⟩, wi_RX9, by decide +kernel⟩
def mJ9_max_f86c9 : kM := (yJ9_max_f86c9, cJ9_max_f86c9, 4, (some .long))
theorem mkJ9_max_f86c9 : kWd (.code yJ9_max_f86c9 cJ9_max_f86c9 4 (some .long)) := ⟨kin2 (List.mem_of_getElem? (i := 125) (by decide +kernel)), by decide +kernel⟩
def mX3_sumFrom : kM := (yX3_sumFrom, cX3_sumFrom, 7, (some .long))
theorem mtX3_sumFrom : kMt mX3_sumFrom 3 := ⟨by decide +kernel, ⟨by decide +kernel, by decide +kernel, by decide +kernel⟩, ⟨kin2 (List.mem_of_getElem? (i := 129) (by decide +kernel)), by decide +kernel⟩, wi_RX3, by decide +kernel⟩
def mX9_misfit : kM := (yX9_misfit, cX9_misfit, 6, (some .int))
theorem mtX9_misfit : kMt mX9_misfit 4 := ⟨by decide +kernel, ⟨by decide +kernel, by decide +kernel, by decide +kernel⟩, ⟨kin2 (List.mem_of_getElem? (i := 133) (by decide +kernel)), by decide +kernel⟩, wi_RX9, by decide +kernel⟩
def mX8_misfitOf : kM := (yX8_misfitOf, cX8_misfitOf, 14, (some .int))
theorem mtX8_misfitOf : kMt mX8_misfitOf 5 := ⟨by decide +kernel, ⟨by decide +kernel, by decide +kernel, by decide +kernel⟩, ⟨kin2 (List.mem_of_getElem? (i := 137) (by decide +kernel)), by decide +kernel⟩, wi_RX8, by decide +kernel⟩
def mX9_fit : kM := (yX9_fit, cX9_fit, 5, (some .int))
theorem mtX9_fit : kMt mX9_fit 3 := ⟨by decide +kernel, ⟨by decide +kernel, by decide +kernel, by decide +kernel⟩, ⟨kin2 (List.mem_of_getElem? (i := 146) (by decide +kernel)), by decide +kernel⟩, wi_RX9, by decide +kernel⟩
def mX9_seekMiddle : kM := (yX9_seekMiddle, cX9_seekMiddle, 3, none)
theorem mtX9_seekMiddle : kMt mX9_seekMiddle 2 := ⟨by decide +kernel, ⟨by decide +kernel, by decide +kernel, by decide +kernel⟩, ⟨kin2 (List.mem_of_getElem? (i := 150) (by decide +kernel)), by decide +kernel⟩, wi_RX9, by decide +kernel⟩
def mX8_seekMiddle : kM := (yX8_seekMiddle, cX8_seekMiddle, 6, none)
theorem mtX8_seekMiddle : kMt mX8_seekMiddle 4 := ⟨by decide +kernel, ⟨by decide +kernel, by decide +kernel, by decide +kernel⟩, ⟨kin2 (List.mem_of_getElem? (i := 154) (by decide +kernel)), by decide +kernel⟩, wi_RX8, by decide +kernel⟩
def mX8_offer : kM := (yX8_offer, cX8_offer, 4, none)
theorem mtX8_offer : kMt mX8_offer 3 := ⟨by decide +kernel, ⟨by decide +kernel, by decide +kernel, by decide +kernel⟩, ⟨kin2 (List.mem_of_getElem? (i := 159) (by decide +kernel)), by decide +kernel⟩, wi_RX8, by decide +kernel⟩
def mX9_span : kM := (yX9_span, cX9_span, 6, (some .int))
theorem mtX9_span : kMt mX9_span 4 := ⟨by decide +kernel, ⟨by decide +kernel, by decide +kernel, by decide +kernel⟩, ⟨kin2 (List.mem_of_getElem? (i := 163) (by decide +kernel)), by decide +kernel⟩, wi_RX9, by decide +kernel⟩
def mX9_seekSpan : kM := (yX9_seekSpan, cX9_seekSpan, 4, none)
theorem mtX9_seekSpan : kMt mX9_seekSpan 3 := ⟨by decide +kernel, ⟨by decide +kernel, by decide +kernel, by decide +kernel⟩, ⟨kin2 (List.mem_of_getElem? (i := 167) (by decide +kernel)), by decide +kernel⟩, wi_RX9, by decide +kernel⟩
def mX8_seekSpan : kM := (yX8_seekSpan, cX8_seekSpan, 8, none)
theorem mtX8_seekSpan : kMt mX8_seekSpan 5 := ⟨by decide +kernel, ⟨by decide +kernel, by decide +kernel, by decide +kernel⟩, ⟨kin2 (List.mem_of_getElem? (i := 171) (by decide +kernel)), by decide +kernel⟩, wi_RX8, by decide +kernel⟩
def mX9_found : kM := (yX9_found, cX9_found, 5, (some .int))
theorem mtX9_found : kMt mX9_found 3 := ⟨by decide +kernel, ⟨by decide +kernel, by decide +kernel, by decide +kernel⟩, ⟨kin2 (List.mem_of_getElem? (i := 176) (by decide +kernel)), by decide +kernel⟩, wi_RX9, by decide +kernel⟩
def mX8_seekLine : kM := (yX8_seekLine, cX8_seekLine, 7, none)
theorem mtX8_seekLine : kMt mX8_seekLine 3 := ⟨by decide +kernel, ⟨by decide +kernel, by decide +kernel, by decide +kernel⟩, ⟨kin2 (List.mem_of_getElem? (i := 180) (by decide +kernel)), by decide +kernel⟩, wi_RX8, by decide +kernel⟩
def mX9_written : kM := (yX9_written, cX9_written, 5, (some .long))
theorem mtX9_written : kMt mX9_written 4 := ⟨by decide +kernel, ⟨by decide +kernel, by decide +kernel, by decide +kernel⟩, ⟨kin2 (List.mem_of_getElem? (i := 184) (by decide +kernel)), by decide +kernel⟩, wi_RX9, by decide +kernel⟩
def mX2_hundredths : kM := (yX2_hundredths, cX2_hundredths, 8, (some .int))
theorem mtX2_hundredths : kMt mX2_hundredths 3 := ⟨by decide +kernel, ⟨by decide +kernel, by decide +kernel, by decide +kernel⟩, ⟨kin2 (List.mem_of_getElem? (i := 188) (by decide +kernel)), by decide +kernel⟩, wi_RX2, by decide +kernel⟩
def mX9_nearestInch : kM := (yX9_nearestInch, cX9_nearestInch, 2, (some .int))
theorem mtX9_nearestInch : kMt mX9_nearestInch 1 := ⟨by decide +kernel, ⟨by decide +kernel, by decide +kernel, by decide +kernel⟩, ⟨kin2 (List.mem_of_getElem? (i := 192) (by decide +kernel)), by decide +kernel⟩, wi_RX9, by decide +kernel⟩
def mX9_back : kM := (yX9_back, cX9_back, 11, (some .long))
theorem mtX9_back : kMt mX9_back 6 := ⟨by decide +kernel, ⟨by decide +kernel, by decide +kernel, by decide +kernel⟩, ⟨kin2 (List.mem_of_getElem? (i := 198) (by decide +kernel)), by decide +kernel⟩, wi_RX9, by decide +kernel⟩
def mX9_pile : kM := (yX9_pile, cX9_pile, 4, (some .long))
theorem mtX9_pile : kMt mX9_pile 2 := ⟨by decide +kernel, ⟨by decide +kernel, by decide +kernel, by decide +kernel⟩, ⟨kin2 (List.mem_of_getElem? (i := 202) (by decide +kernel)), by decide +kernel⟩, wi_RX9, by decide +kernel⟩
def mX0_atWholeInches : kM := (yX0_atWholeInches, cX0_atWholeInches, 3, (some .int))
theorem mtX0_atWholeInches : kMt mX0_atWholeInches 0 := ⟨by decide +kernel, ⟨by decide +kernel, by decide +kernel, by decide +kernel⟩, ⟨kin2 (List.mem_of_getElem? (i := 208) (by decide +kernel)), by decide +kernel⟩, wi_RX0, by decide +kernel⟩
def mX9_grown : kM := (yX9_grown, cX9_grown, 5, (some .long))
theorem mtX9_grown : kMt mX9_grown 3 := ⟨by decide +kernel, ⟨by decide +kernel, by decide +kernel, by decide +kernel⟩, ⟨kin2 (List.mem_of_getElem? (i := 212) (by decide +kernel)), by decide +kernel⟩, wi_RX9, by decide +kernel⟩
def mX2_growthFrom : kM := (yX2_growthFrom, cX2_growthFrom, 4, (some .int))
theorem mtX2_growthFrom : kMt mX2_growthFrom 1 := ⟨by decide +kernel, ⟨by decide +kernel, by decide +kernel, by decide +kernel⟩, ⟨kin2 (List.mem_of_getElem? (i := 216) (by decide +kernel)), by decide +kernel⟩, wi_RX2, by decide +kernel⟩
def mX5_growthAt : kM := (yX5_growthAt, cX5_growthAt, 6, (some .int))
theorem mtX5_growthAt : kMt mX5_growthAt 2 := ⟨by decide +kernel, ⟨by decide +kernel, by decide +kernel, by decide +kernel⟩, ⟨kin2 (List.mem_of_getElem? (i := 219) (by decide +kernel)), by decide +kernel⟩, wi_RX5, by decide +kernel⟩
def mX2_tenthsGrown : kM := (yX2_tenthsGrown, cX2_tenthsGrown, 4, (some .int))
theorem mtX2_tenthsGrown : kMt mX2_tenthsGrown 1 := ⟨by decide +kernel, ⟨by decide +kernel, by decide +kernel, by decide +kernel⟩, ⟨kin2 (List.mem_of_getElem? (i := 223) (by decide +kernel)), by decide +kernel⟩, wi_RX2, by decide +kernel⟩
def mX9_right : kM := (yX9_right, cX9_right, 5, (some .long))
theorem mtX9_right : kMt mX9_right 3 := ⟨by decide +kernel, ⟨by decide +kernel, by decide +kernel, by decide +kernel⟩, ⟨kin2 (List.mem_of_getElem? (i := 229) (by decide +kernel)), by decide +kernel⟩, wi_RX9, by decide +kernel⟩
def mX9_mix : kM := (yX9_mix, cX9_mix, 8, (some .long))
theorem mtX9_mix : kMt mX9_mix 6 := ⟨by decide +kernel, ⟨by decide +kernel, by decide +kernel, by decide +kernel⟩, ⟨kin2 (List.mem_of_getElem? (i := 233) (by decide +kernel)), by decide +kernel⟩, wi_RX9, by decide +kernel⟩
def mX9_areSorts : kM := (yX9_areSorts, cX9_areSorts, 4, (some .boolean))
theorem mtX9_areSorts : kMt mX9_areSorts 4 := ⟨by decide +kernel, ⟨by decide +kernel, by decide +kernel, by decide +kernel⟩, ⟨kin2 (List.mem_of_getElem? (i := 236) (by decide +kernel)), by decide +kernel⟩, wi_RX9, by decide +kernel⟩
def mX9_isShare : kM := (yX9_isShare, cX9_isShare, 1, (some .boolean))
theorem mtX9_isShare : kMt mX9_isShare 1 := ⟨by decide +kernel, ⟨by decide +kernel, by decide +kernel, by decide +kernel⟩, ⟨kin2 (List.mem_of_getElem? (i := 239) (by decide +kernel)), by decide +kernel⟩, wi_RX9, by decide +kernel⟩
def mX6_init : kM := (yX6_init, cX6_init, 6, none)
theorem mtX6_init : kMt mX6_init 5 := ⟨by decide +kernel, ⟨by decide +kernel, by decide +kernel, by decide +kernel⟩, ⟨kin3 (List.mem_of_getElem? (i := 4) (by decide +kernel)), by decide +kernel⟩, wi_RX6, by decide +kernel⟩
def mX6_lack : kM := (yX6_lack, cX6_lack, 2, (some .boolean))
theorem mtX6_lack : kMt mX6_lack 1 := ⟨by decide +kernel, ⟨by decide +kernel, by decide +kernel, by decide +kernel⟩, ⟨kin3 (List.mem_of_getElem? (i := 24) (by decide +kernel)), by decide +kernel⟩, wi_RX6, by decide +kernel⟩
def mX6_count : kM := (yX6_count, cX6_count, 2, (some .long))
theorem mtX6_count : kMt mX6_count 1 := ⟨by decide +kernel, ⟨by decide +kernel, by decide +kernel, by decide +kernel⟩, ⟨kin3 (List.mem_of_getElem? (i := 28) (by decide +kernel)), by decide +kernel⟩, wi_RX6, by decide +kernel⟩
def mX6_sum : kM := (yX6_sum, cX6_sum, 2, (some .long))
theorem mtX6_sum : kMt mX6_sum 1 := ⟨by decide +kernel, ⟨by decide +kernel, by decide +kernel, by decide +kernel⟩, ⟨kin3 (List.mem_of_getElem? (i := 33) (by decide +kernel)), by decide +kernel⟩, wi_RX6, by decide +kernel⟩
def mX9_fall : kM := (yX9_fall, cX9_fall, 9, (some .long))
theorem mtX9_fall : kMt mX9_fall 7 := ⟨by decide +kernel, ⟨by decide +kernel, by decide +kernel, by decide +kernel⟩, ⟨kin3 (List.mem_of_getElem? (i := 38) (by decide +kernel)), by decide +kernel⟩, wi_RX9, by decide +kernel⟩
def mX9_tellFall : kM := (yX9_tellFall, cX9_tellFall, 4, (some .long))
theorem mtX9_tellFall : kMt mX9_tellFall 4 := ⟨by decide +kernel, ⟨by decide +kernel, by decide +kernel, by decide +kernel⟩, ⟨kin3 (List.mem_of_getElem? (i := 41) (by decide +kernel)), by decide +kernel⟩, wi_RX9, by decide +kernel⟩
def mX6_gap : kM := (yX6_gap, cX6_gap, 3, (some .long))
theorem mtX6_gap : kMt mX6_gap 2 := ⟨by decide +kernel, ⟨by decide +kernel, by decide +kernel, by decide +kernel⟩, ⟨kin3 (List.mem_of_getElem? (i := 45) (by decide +kernel)), by decide +kernel⟩, wi_RX6, by decide +kernel⟩
def mX9_alone : kM := (yX9_alone, cX9_alone, 14, (some .long))
theorem mtX9_alone : kMt mX9_alone 8 := ⟨by decide +kernel, ⟨by decide +kernel, by decide +kernel, by decide +kernel⟩, ⟨kin3 (List.mem_of_getElem? (i := 50) (by decide +kernel)), by decide +kernel⟩, wi_RX9, by decide +kernel⟩
def mX9_areShares : kM := (yX9_areShares, cX9_areShares, 3, (some .boolean))
theorem mtX9_areShares : kMt mX9_areShares 1 := ⟨by decide +kernel, ⟨by decide +kernel, by decide +kernel, by decide +kernel⟩, ⟨kin3 (List.mem_of_getElem? (i := 53) (by decide +kernel)), by decide +kernel⟩, wi_RX9, by decide +kernel⟩
def mX6_lesser : kM := (yX6_lesser, cX6_lesser, 3, (some .int))
theorem mtX6_lesser : kMt mX6_lesser 2 := ⟨by decide +kernel, ⟨by decide +kernel, by decide +kernel, by decide +kernel⟩, ⟨kin3 (List.mem_of_getElem? (i := 57) (by decide +kernel)), by decide +kernel⟩, wi_RX6, by decide +kernel⟩
def mX6_greater : kM := (yX6_greater, cX6_greater, 3, (some .int))
theorem mtX6_greater : kMt mX6_greater 2 := ⟨by decide +kernel, ⟨by decide +kernel, by decide +kernel, by decide +kernel⟩, ⟨kin3 (List.mem_of_getElem? (i := 62) (by decide +kernel)), by decide +kernel⟩, wi_RX6, by decide +kernel⟩
def mX9_mean : kM := (yX9_mean, cX9_mean, 4, (some .long))
theorem mtX9_mean : kMt mX9_mean 2 := ⟨by decide +kernel, ⟨by decide +kernel, by decide +kernel, by decide +kernel⟩, ⟨kin3 (List.mem_of_getElem? (i := 66) (by decide +kernel)), by decide +kernel⟩, wi_RX9, by decide +kernel⟩
def mX0_sumMoved : kM := (yX0_sumMoved, cX0_sumMoved, 5, (some .long))
theorem mtX0_sumMoved : kMt mX0_sumMoved 1 := ⟨by decide +kernel, ⟨by decide +kernel, by decide +kernel, by decide +kernel⟩, ⟨kin3 (List.mem_of_getElem? (i := 70) (by decide +kernel)), by decide +kernel⟩, wi_RX0, by decide +kernel⟩
def mX9_mode : kM := (yX9_mode, cX9_mode, 3, (some .int))
theorem mtX9_mode : kMt mX9_mode 1 := ⟨by decide +kernel, ⟨by decide +kernel, by decide +kernel, by decide +kernel⟩, ⟨kin3 (List.mem_of_getElem? (i := 76) (by decide +kernel)), by decide +kernel⟩, wi_RX9, by decide +kernel⟩
def mX0_commonest : kM := (yX0_commonest, cX0_commonest, 3, (some .int))
theorem mtX0_commonest : kMt mX0_commonest 0 := ⟨by decide +kernel, ⟨by decide +kernel, by decide +kernel, by decide +kernel⟩, ⟨kin3 (List.mem_of_getElem? (i := 80) (by decide +kernel)), by decide +kernel⟩, wi_RX0, by decide +kernel⟩
def mX9_about : kM := (yX9_about, cX9_about, 6, (some .long))
theorem mtX9_about : kMt mX9_about 4 := ⟨by decide +kernel, ⟨by decide +kernel, by decide +kernel, by decide +kernel⟩, ⟨kin3 (List.mem_of_getElem? (i := 84) (by decide +kernel)), by decide +kernel⟩, wi_RX9, by decide +kernel⟩
def mX9_beside : kM := (yX9_beside, cX9_beside, 9, (some .long))
theorem mtX9_beside : kMt mX9_beside 4 := ⟨by decide +kernel, ⟨by decide +kernel, by decide +kernel, by decide +kernel⟩, ⟨kin3 (List.mem_of_getElem? (i := 89) (by decide +kernel)), by decide +kernel⟩, wi_RX9, by decide +kernel⟩
def mX9_shorter : kM := (yX9_shorter, cX9_shorter, 8, (some .int))
theorem mtX9_shorter : kMt mX9_shorter 4 := ⟨by decide +kernel, ⟨by decide +kernel, by decide +kernel, by decide +kernel⟩, ⟨kin3 (List.mem_of_getElem? (i := 93) (by decide +kernel)), by decide +kernel⟩, wi_RX9, by decide +kernel⟩
def mX9_make : kM := (yX9_make, cX9_make, 7, (some .int))
theorem mtX9_make : kMt mX9_make 5 := ⟨by decide +kernel, ⟨by decide +kernel, by decide +kernel, by decide +kernel⟩, ⟨kin3 (List.mem_of_getElem? (i := 97) (by decide +kernel)), by decide +kernel⟩, wi_RX9, by decide +kernel⟩
def mX9_isWorld : kM := (yX9_isWorld, cX9_isWorld, 4, (some .boolean))
theorem mtX9_isWorld : kMt mX9_isWorld 4 := ⟨by decide +kernel, ⟨by decide +kernel, by decide +kernel, by decide +kernel⟩, ⟨kin3 (List.mem_of_getElem? (i := 100) (by decide +kernel)), by decide +kernel⟩, wi_RX9, by decide +kernel⟩
def mX4_fill : kM := (yX4_fill, cX4_fill, 12, (some .int))
theorem mtX4_fill : kMt mX4_fill 6 := ⟨by decide +kernel, ⟨by decide +kernel, by decide +kernel, by decide +kernel⟩, ⟨kin3 (List.mem_of_getElem? (i := 104) (by decide +kernel)), by decide +kernel⟩, wi_RX4, by decide +kernel⟩
def mX0_clearMen : kM := (yX0_clearMen, cX0_clearMen, 1, none)
theorem mtX0_clearMen : kMt mX0_clearMen 0 := ⟨by decide +kernel, ⟨by decide +kernel, by decide +kernel, by decide +kernel⟩, ⟨kin3 (List.mem_of_getElem? (i := 108) (by decide +kernel)), by decide +kernel⟩, wi_RX0, by decide +kernel⟩
def mJ7_fill_53178 : kM := (yJ7_fill_53178, cJ7_fill_53178, 4, none)
theorem mtJ7_fill_53178 : kMt mJ7_fill_53178 2 := ⟨by decide +kernel, ⟨by decide +kernel, by decide +kernel, by decide +kernel⟩, ⟨kin3 (List.mem_of_getElem? (i := 111) (by decide +kernel)), by decide +kernel⟩, wi_RJ7, by decide +kernel⟩
def mX4_draw : kM := (yX4_draw, cX4_draw, 2, (some .int))
theorem mtX4_draw : kMt mX4_draw 1 := ⟨by decide +kernel, ⟨by decide +kernel, by decide +kernel, by decide +kernel⟩, ⟨kin3 (List.mem_of_getElem? (i := 116) (by decide +kernel)), by decide +kernel⟩, wi_RX4, by decide +kernel⟩
def mX3_heightOf : kM := (yX3_heightOf, cX3_heightOf, 6, (some .int))
theorem mtX3_heightOf : kMt mX3_heightOf 3 := ⟨by decide +kernel, ⟨by decide +kernel, by decide +kernel, by decide +kernel⟩, ⟨kin3 (List.mem_of_getElem? (i := 121) (by decide +kernel)), by decide +kernel⟩, wi_RX3, by decide +kernel⟩
def mX4_placeOf : kM := (yX4_placeOf, cX4_placeOf, 5, (some .int))
theorem mtX4_placeOf : kMt mX4_placeOf 3 := ⟨by decide +kernel, ⟨by decide +kernel, by decide +kernel, by decide +kernel⟩, ⟨kin3 (List.mem_of_getElem? (i := 126) (by decide +kernel)), by decide +kernel⟩, wi_RX4, by decide +kernel⟩
def mX9_off : kM := (yX9_off, cX9_off, 9, (some .int))
theorem mtX9_off : kMt mX9_off 7 := ⟨by decide +kernel, ⟨by decide +kernel, by decide +kernel, by decide +kernel⟩, ⟨kin3 (List.mem_of_getElem? (i := 134) (by decide +kernel)), by decide +kernel⟩, wi_RX9, by decide +kernel⟩
def mX9_offBy : kM := (yX9_offBy, cX9_offBy, 11, (some .int))
theorem mtX9_offBy : kMt mX9_offBy 7 := ⟨by decide +kernel, ⟨by decide +kernel, by decide +kernel, by decide +kernel⟩, ⟨kin3 (List.mem_of_getElem? (i := 138) (by decide +kernel)), by decide +kernel⟩, wi_RX9, by decide +kernel⟩
def mX0_copyEntries : kM := (yX0_copyEntries, cX0_copyEntries, 2, none)
theorem mtX0_copyEntries : kMt mX0_copyEntries 1 := ⟨by decide +kernel, ⟨by decide +kernel, by decide +kernel, by decide +kernel⟩, ⟨kin3 (List.mem_of_getElem? (i := 142) (by decide +kernel)), by decide +kernel⟩, wi_RX0, by decide +kernel⟩
def mX9_undone : kM := (yX9_undone, cX9_undone, 4, (some .int))
theorem mtX9_undone : kMt mX9_undone 3 := ⟨by decide +kernel, ⟨by decide +kernel, by decide +kernel, by decide +kernel⟩, ⟨kin3 (List.mem_of_getElem? (i := 147) (by decide +kernel)), by decide +kernel⟩, wi_RX9, by decide +kernel⟩
def mJ9_abs_0f7a4 : kM := (yJ9_abs_0f7a4, cJ9_abs_0f7a4, 1, (some .int))
theorem mkJ9_abs_0f7a4 : kWd (.code yJ9_abs_0f7a4 cJ9_abs_0f7a4 1 (some .int)) := ⟨kin3 (List.mem_of_getElem? (i := 150) (by decide +kernel)), by decide +kernel⟩
def mX9_best : kM := (yX9_best, cX9_best, 12, (some .int))
theorem mtX9_best : kMt mX9_best 6 := ⟨by decide +kernel, ⟨by decide +kernel, by decide +kernel, by decide +kernel⟩, ⟨kin3 (List.mem_of_getElem? (i := 154) (by decide +kernel)), by decide +kernel⟩, wi_RX9, by decide +kernel⟩
def mX9_image : kM := (yX9_image, cX9_image, 2, (some .int))
theorem mtX9_image : kMt mX9_image 1 := ⟨by decide +kernel, ⟨by decide +kernel, by decide +kernel, by decide +kernel⟩, ⟨kin3 (List.mem_of_getElem? (i := 158) (by decide +kernel)), by decide +kernel⟩, wi_RX9, by decide +kernel⟩
def mX9_isImage : kM := (yX9_isImage, cX9_isImage, 1, (some .boolean))
theorem mtX9_isImage : kMt mX9_isImage 1 := ⟨by decide +kernel, ⟨by decide +kernel, by decide +kernel, by decide +kernel⟩, ⟨kin3 (List.mem_of_getElem? (i := 161) (by decide +kernel)), by decide +kernel⟩, wi_RX9, by decide +kernel⟩
def mX2_copyFrom : kM := (yX2_copyFrom, cX2_copyFrom, 3, none)
theorem mtX2_copyFrom : kMt mX2_copyFrom 1 := ⟨by decide +kernel, ⟨by decide +kernel, by decide +kernel, by decide +kernel⟩, ⟨kin3 (List.mem_of_getElem? (i := 165) (by decide +kernel)), by decide +kernel⟩, wi_RX2, by decide +kernel⟩
def mX0_copyFrom : kM := (yX0_copyFrom, cX0_copyFrom, 2, none)
theorem mtX0_copyFrom : kMt mX0_copyFrom 1 := ⟨by decide +kernel, ⟨by decide +kernel, by decide +kernel, by decide +kernel⟩, ⟨kin3 (List.mem_of_getElem? (i := 169) (by decide +kernel)), by decide +kernel⟩, wi_RX0, by decide +kernel⟩
def mX9_restore : kM := (yX9_restore, cX9_restore, 2, (some .int))
theorem mtX9_restore : kMt mX9_restore 1 := ⟨by decide +kernel, ⟨by decide +kernel, by decide +kernel, by decide +kernel⟩, ⟨kin3 (List.mem_of_getElem? (i := 176) (by decide +kernel)), by decide +kernel⟩, wi_RX9, by decide +kernel⟩
def mX9_told : kM := (yX9_told, cX9_told, 3, (some .int))
theorem mtX9_told : kMt mX9_told 1 := ⟨by decide +kernel, ⟨by decide +kernel, by decide +kernel, by decide +kernel⟩, ⟨kin3 (List.mem_of_getElem? (i := 180) (by decide +kernel)), by decide +kernel⟩, wi_RX9, by decide +kernel⟩
def mX10_init : kM := (yX10_init, cX10_init, 2, none)
theorem mtX10_init : kMt mX10_init 0 := ⟨by decide +kernel, ⟨by decide +kernel, by decide +kernel, by decide +kernel⟩, ⟨kin3 (List.mem_of_getElem? (i := 185) (by decide +kernel)), by decide +kernel⟩, wi_RX10, by decide +kernel⟩
def mX10_men : kM := (yX10_men, cX10_men, 5, (some .int))
theorem mtX10_men : kMt mX10_men 3 := ⟨by decide +kernel, ⟨by decide +kernel, by decide +kernel, by decide +kernel⟩, ⟨kin4 (List.mem_of_getElem? (i := 50) (by decide +kernel)), by decide +kernel⟩, wi_RX10, by decide +kernel⟩
def mX10_isBook : kM := (yX10_isBook, cX10_isBook, 1, (some .boolean))
theorem mtX10_isBook : kMt mX10_isBook 1 := ⟨by decide +kernel, ⟨by decide +kernel, by decide +kernel, by decide +kernel⟩, ⟨kin4 (List.mem_of_getElem? (i := 53) (by decide +kernel)), by decide +kernel⟩, wi_RX10, by decide +kernel⟩
def mX10_in : kM := (yX10_in, cX10_in, 6, (some .boolean))
theorem mtX10_in : kMt mX10_in 3 := ⟨by decide +kernel, ⟨by decide +kernel, by decide +kernel, by decide +kernel⟩, ⟨kin4 (List.mem_of_getElem? (i := 57) (by decide +kernel)), by decide +kernel⟩, wi_RX10, by decide +kernel⟩
def mX10_isHeight : kM := (yX10_isHeight, cX10_isHeight, 1, (some .boolean))
theorem mtX10_isHeight : kMt mX10_isHeight 1 := ⟨by decide +kernel, ⟨by decide +kernel, by decide +kernel, by decide +kernel⟩, ⟨kin4 (List.mem_of_getElem? (i := 60) (by decide +kernel)), by decide +kernel⟩, wi_RX10, by decide +kernel⟩
def mX10_at : kM := (yX10_at, cX10_at, 2, (some .int))
theorem mtX10_at : kMt mX10_at 2 := ⟨by decide +kernel, ⟨by decide +kernel, by decide +kernel, by decide +kernel⟩, ⟨kin4 (List.mem_of_getElem? (i := 65) (by decide +kernel)), by decide +kernel⟩, wi_RX10, by decide +kernel⟩
def mX10_set : kM := (yX10_set, cX10_set, 5, (some .int))
theorem mtX10_set : kMt mX10_set 3 := ⟨by decide +kernel, ⟨by decide +kernel, by decide +kernel, by decide +kernel⟩, ⟨kin4 (List.mem_of_getElem? (i := 69) (by decide +kernel)), by decide +kernel⟩, wi_RX10, by decide +kernel⟩
def mX10_way : kM := (yX10_way, cX10_way, 4, (some .int))
theorem mtX10_way : kMt mX10_way 2 := ⟨by decide +kernel, ⟨by decide +kernel, by decide +kernel, by decide +kernel⟩, ⟨kin4 (List.mem_of_getElem? (i := 77) (by decide +kernel)), by decide +kernel⟩, wi_RX10, by decide +kernel⟩
def mX10_say : kM := (yX10_say, cX10_say, 2, (some .int))
theorem mtX10_say : kMt mX10_say 1 := ⟨by decide +kernel, ⟨by decide +kernel, by decide +kernel, by decide +kernel⟩, ⟨kin4 (List.mem_of_getElem? (i := 84) (by decide +kernel)), by decide +kernel⟩, wi_RX10, by decide +kernel⟩
def mX10_wipe : kM := (yX10_wipe, cX10_wipe, 2, (some .int))
theorem mtX10_wipe : kMt mX10_wipe 0 := ⟨by decide +kernel, ⟨by decide +kernel, by decide +kernel, by decide +kernel⟩, ⟨kin4 (List.mem_of_getElem? (i := 90) (by decide +kernel)), by decide +kernel⟩, wi_RX10, by decide +kernel⟩
def mX10_fault : kM := (yX10_fault, cX10_fault, 2, (some .int))
theorem mtX10_fault : kMt mX10_fault 1 := ⟨by decide +kernel, ⟨by decide +kernel, by decide +kernel, by decide +kernel⟩, ⟨kin4 (List.mem_of_getElem? (i := 94) (by decide +kernel)), by decide +kernel⟩, wi_RX10, by decide +kernel⟩
def mX10_isEnd : kM := (yX10_isEnd, cX10_isEnd, 1, (some .boolean))
theorem mtX10_isEnd : kMt mX10_isEnd 1 := ⟨by decide +kernel, ⟨by decide +kernel, by decide +kernel, by decide +kernel⟩, ⟨kin4 (List.mem_of_getElem? (i := 97) (by decide +kernel)), by decide +kernel⟩, wi_RX10, by decide +kernel⟩
def mX10_faultOf : kM := (yX10_faultOf, cX10_faultOf, 4, (some .int))
theorem mtX10_faultOf : kMt mX10_faultOf 1 := ⟨by decide +kernel, ⟨by decide +kernel, by decide +kernel, by decide +kernel⟩, ⟨kin4 (List.mem_of_getElem? (i := 101) (by decide +kernel)), by decide +kernel⟩, wi_RX10, by decide +kernel⟩
def mX10_ruleStep : kM := (yX10_ruleStep, cX10_ruleStep, 2, (some .int))
theorem mtX10_ruleStep : kMt mX10_ruleStep 2 := ⟨by decide +kernel, ⟨by decide +kernel, by decide +kernel, by decide +kernel⟩, ⟨kin4 (List.mem_of_getElem? (i := 104) (by decide +kernel)), by decide +kernel⟩, wi_RX10, by decide +kernel⟩
def mX10_isDigit : kM := (yX10_isDigit, cX10_isDigit, 1, (some .boolean))
theorem mtX10_isDigit : kMt mX10_isDigit 1 := ⟨by decide +kernel, ⟨by decide +kernel, by decide +kernel, by decide +kernel⟩, ⟨kin4 (List.mem_of_getElem? (i := 107) (by decide +kernel)), by decide +kernel⟩, wi_RX10, by decide +kernel⟩
def mX10_growthStep : kM := (yX10_growthStep, cX10_growthStep, 2, (some .int))
theorem mtX10_growthStep : kMt mX10_growthStep 2 := ⟨by decide +kernel, ⟨by decide +kernel, by decide +kernel, by decide +kernel⟩, ⟨kin4 (List.mem_of_getElem? (i := 112) (by decide +kernel)), by decide +kernel⟩, wi_RX10, by decide +kernel⟩
def mX10_take : kM := (yX10_take, cX10_take, 2, (some .int))
theorem mtX10_take : kMt mX10_take 1 := ⟨by decide +kernel, ⟨by decide +kernel, by decide +kernel, by decide +kernel⟩, ⟨kin4 (List.mem_of_getElem? (i := 116) (by decide +kernel)), by decide +kernel⟩, wi_RX10, by decide +kernel⟩
def mX10_takeRule : kM := (yX10_takeRule, cX10_takeRule, 4, none)
theorem mtX10_takeRule : kMt mX10_takeRule 0 := ⟨by decide +kernel, ⟨by decide +kernel, by decide +kernel, by decide +kernel⟩, ⟨kin4 (List.mem_of_getElem? (i := 120) (by decide +kernel)), by decide +kernel⟩, wi_RX10, by decide +kernel⟩
def mX10_takeGrowth : kM := (yX10_takeGrowth, cX10_takeGrowth, 4, none)
theorem mtX10_takeGrowth : kMt mX10_takeGrowth 0 := ⟨by decide +kernel, ⟨by decide +kernel, by decide +kernel, by decide +kernel⟩, ⟨kin4 (List.mem_of_getElem? (i := 124) (by decide +kernel)), by decide +kernel⟩, wi_RX10, by decide +kernel⟩
def mX10_line : kM := (yX10_line, cX10_line, 2, (some .int))
theorem mtX10_line : kMt mX10_line 1 := ⟨by decide +kernel, ⟨by decide +kernel, by decide +kernel, by decide +kernel⟩, ⟨kin4 (List.mem_of_getElem? (i := 128) (by decide +kernel)), by decide +kernel⟩, wi_RX10, by decide +kernel⟩
def mX10_lineOf : kM := (yX10_lineOf, cX10_lineOf, 7, (some .int))
theorem mtX10_lineOf : kMt mX10_lineOf 1 := ⟨by decide +kernel, ⟨by decide +kernel, by decide +kernel, by decide +kernel⟩, ⟨kin4 (List.mem_of_getElem? (i := 132) (by decide +kernel)), by decide +kernel⟩, wi_RX10, by decide +kernel⟩
def mX10_hump : kM := (yX10_hump, cX10_hump, 4, (some .int))
theorem mtX10_hump : kMt mX10_hump 3 := ⟨by decide +kernel, ⟨by decide +kernel, by decide +kernel, by decide +kernel⟩, ⟨kin4 (List.mem_of_getElem? (i := 136) (by decide +kernel)), by decide +kernel⟩, wi_RX10, by decide +kernel⟩
def mX10_isWidth : kM := (yX10_isWidth, cX10_isWidth, 1, (some .boolean))
theorem mtX10_isWidth : kMt mX10_isWidth 1 := ⟨by decide +kernel, ⟨by decide +kernel, by decide +kernel, by decide +kernel⟩, ⟨kin4 (List.mem_of_getElem? (i := 139) (by decide +kernel)), by decide +kernel⟩, wi_RX10, by decide +kernel⟩
def mX10_humpOf : kM := (yX10_humpOf, cX10_humpOf, 3, (some .int))
theorem mtX10_humpOf : kMt mX10_humpOf 3 := ⟨by decide +kernel, ⟨by decide +kernel, by decide +kernel, by decide +kernel⟩, ⟨kin4 (List.mem_of_getElem? (i := 143) (by decide +kernel)), by decide +kernel⟩, wi_RX10, by decide +kernel⟩
def mX10_choose : kM := (yX10_choose, cX10_choose, 4, (some .int))
theorem mtX10_choose : kMt mX10_choose 2 := ⟨by decide +kernel, ⟨by decide +kernel, by decide +kernel, by decide +kernel⟩, ⟨kin4 (List.mem_of_getElem? (i := 146) (by decide +kernel)), by decide +kernel⟩, wi_RX10, by decide +kernel⟩
def mX10_upper : kM := (yX10_upper, cX10_upper, 14, (some .long))
theorem mtX10_upper : kMt mX10_upper 5 := ⟨by decide +kernel, ⟨by decide +kernel, by decide +kernel, by decide +kernel⟩, ⟨kin4 (List.mem_of_getElem? (i := 150) (by decide +kernel)), by decide +kernel⟩, wi_RX10, by decide +kernel⟩
def mX10_lowest : kM := (yX10_lowest, cX10_lowest, 7, (some .long))
theorem mtX10_lowest : kMt mX10_lowest 3 := ⟨by decide +kernel, ⟨by decide +kernel, by decide +kernel, by decide +kernel⟩, ⟨kin4 (List.mem_of_getElem? (i := 154) (by decide +kernel)), by decide +kernel⟩, wi_RX10, by decide +kernel⟩
def mX10_common : kM := (yX10_common, cX10_common, 10, (some .long))
theorem mtX10_common : kMt mX10_common 2 := ⟨by decide +kernel, ⟨by decide +kernel, by decide +kernel, by decide +kernel⟩, ⟨kin4 (List.mem_of_getElem? (i := 157) (by decide +kernel)), by decide +kernel⟩, wi_RX10, by decide +kernel⟩
def mX10_misfit : kM := (yX10_misfit, cX10_misfit, 5, (some .int))
theorem mtX10_misfit : kMt mX10_misfit 4 := ⟨by decide +kernel, ⟨by decide +kernel, by decide +kernel, by decide +kernel⟩, ⟨kin4 (List.mem_of_getElem? (i := 161) (by decide +kernel)), by decide +kernel⟩, wi_RX10, by decide +kernel⟩
def mX10_findChosen : kM := (yX10_findChosen, cX10_findChosen, 3, none)
theorem mtX10_findChosen : kMt mX10_findChosen 1 := ⟨by decide +kernel, ⟨by decide +kernel, by decide +kernel, by decide +kernel⟩, ⟨kin4 (List.mem_of_getElem? (i := 165) (by decide +kernel)), by decide +kernel⟩, wi_RX10, by decide +kernel⟩
def mX10_all : kM := (yX10_all, cX10_all, 4, (some .int))
theorem mtX10_all : kMt mX10_all 1 := ⟨by decide +kernel, ⟨by decide +kernel, by decide +kernel, by decide +kernel⟩, ⟨kin4 (List.mem_of_getElem? (i := 169) (by decide +kernel)), by decide +kernel⟩, wi_RX10, by decide +kernel⟩
def mX10_misfitOf : kM := (yX10_misfitOf, cX10_misfitOf, 14, (some .int))
theorem mtX10_misfitOf : kMt mX10_misfitOf 5 := ⟨by decide +kernel, ⟨by decide +kernel, by decide +kernel, by decide +kernel⟩, ⟨kin4 (List.mem_of_getElem? (i := 173) (by decide +kernel)), by decide +kernel⟩, wi_RX10, by decide +kernel⟩
def mX10_apart : kM := (yX10_apart, cX10_apart, 2, (some .int))
theorem mtX10_apart : kMt mX10_apart 2 := ⟨by decide +kernel, ⟨by decide +kernel, by decide +kernel, by decide +kernel⟩, ⟨kin4 (List.mem_of_getElem? (i := 176) (by decide +kernel)), by decide +kernel⟩, wi_RX10, by decide +kernel⟩
def mX10_fit : kM := (yX10_fit, cX10_fit, 4, (some .int))
theorem mtX10_fit : kMt mX10_fit 3 := ⟨by decide +kernel, ⟨by decide +kernel, by decide +kernel, by decide +kernel⟩, ⟨kin4 (List.mem_of_getElem? (i := 180) (by decide +kernel)), by decide +kernel⟩, wi_RX10, by decide +kernel⟩
def mX10_findFit : kM := (yX10_findFit, cX10_findFit, 6, none)
theorem mtX10_findFit : kMt mX10_findFit 2 := ⟨by decide +kernel, ⟨by decide +kernel, by decide +kernel, by decide +kernel⟩, ⟨kin4 (List.mem_of_getElem? (i := 184) (by decide +kernel)), by decide +kernel⟩, wi_RX10, by decide +kernel⟩
def mX10_keepBest : kM := (yX10_keepBest, cX10_keepBest, 4, none)
theorem mtX10_keepBest : kMt mX10_keepBest 3 := ⟨by decide +kernel, ⟨by decide +kernel, by decide +kernel, by decide +kernel⟩, ⟨kin4 (List.mem_of_getElem? (i := 188) (by decide +kernel)), by decide +kernel⟩, wi_RX10, by decide +kernel⟩
def mX10_span : kM := (yX10_span, cX10_span, 5, (some .int))
theorem mtX10_span : kMt mX10_span 4 := ⟨by decide +kernel, ⟨by decide +kernel, by decide +kernel, by decide +kernel⟩, ⟨kin4 (List.mem_of_getElem? (i := 192) (by decide +kernel)), by decide +kernel⟩, wi_RX10, by decide +kernel⟩
def mX10_findSpan : kM := (yX10_findSpan, cX10_findSpan, 8, none)
theorem mtX10_findSpan : kMt mX10_findSpan 3 := ⟨by decide +kernel, ⟨by decide +kernel, by decide +kernel, by decide +kernel⟩, ⟨kin4 (List.mem_of_getElem? (i := 196) (by decide +kernel)), by decide +kernel⟩, wi_RX10, by decide +kernel⟩
def mX10_found : kM := (yX10_found, cX10_found, 4, (some .int))
theorem mtX10_found : kMt mX10_found 3 := ⟨by decide +kernel, ⟨by decide +kernel, by decide +kernel, by decide +kernel⟩, ⟨kin4 (List.mem_of_getElem? (i := 200) (by decide +kernel)), by decide +kernel⟩, wi_RX10, by decide +kernel⟩
def mX10_findLine : kM := (yX10_findLine, cX10_findLine, 6, none)
theorem mtX10_findLine : kMt mX10_findLine 2 := ⟨by decide +kernel, ⟨by decide +kernel, by decide +kernel, by decide +kernel⟩, ⟨kin4 (List.mem_of_getElem? (i := 204) (by decide +kernel)), by decide +kernel⟩, wi_RX10, by decide +kernel⟩
def mX10_written : kM := (yX10_written, cX10_written, 5, (some .long))
theorem mtX10_written : kMt mX10_written 4 := ⟨by decide +kernel, ⟨by decide +kernel, by decide +kernel, by decide +kernel⟩, ⟨kin4 (List.mem_of_getElem? (i := 208) (by decide +kernel)), by decide +kernel⟩, wi_RX10, by decide +kernel⟩
def mX10_writtenOf : kM := (yX10_writtenOf, cX10_writtenOf, 8, (some .int))
theorem mtX10_writtenOf : kMt mX10_writtenOf 3 := ⟨by decide +kernel, ⟨by decide +kernel, by decide +kernel, by decide +kernel⟩, ⟨kin4 (List.mem_of_getElem? (i := 212) (by decide +kernel)), by decide +kernel⟩, wi_RX10, by decide +kernel⟩
def mX10_inchOf : kM := (yX10_inchOf, cX10_inchOf, 3, (some .int))
theorem mtX10_inchOf : kMt mX10_inchOf 1 := ⟨by decide +kernel, ⟨by decide +kernel, by decide +kernel, by decide +kernel⟩, ⟨kin4 (List.mem_of_getElem? (i := 215) (by decide +kernel)), by decide +kernel⟩, wi_RX10, by decide +kernel⟩
def mX10_back : kM := (yX10_back, cX10_back, 10, (some .long))
theorem mtX10_back : kMt mX10_back 6 := ⟨by decide +kernel, ⟨by decide +kernel, by decide +kernel, by decide +kernel⟩, ⟨kin4 (List.mem_of_getElem? (i := 220) (by decide +kernel)), by decide +kernel⟩, wi_RX10, by decide +kernel⟩
def mX10_pile : kM := (yX10_pile, cX10_pile, 6, (some .long))
theorem mtX10_pile : kMt mX10_pile 2 := ⟨by decide +kernel, ⟨by decide +kernel, by decide +kernel, by decide +kernel⟩, ⟨kin4 (List.mem_of_getElem? (i := 224) (by decide +kernel)), by decide +kernel⟩, wi_RX10, by decide +kernel⟩
def mX10_grown : kM := (yX10_grown, cX10_grown, 4, (some .long))
theorem mtX10_grown : kMt mX10_grown 3 := ⟨by decide +kernel, ⟨by decide +kernel, by decide +kernel, by decide +kernel⟩, ⟨kin4 (List.mem_of_getElem? (i := 229) (by decide +kernel)), by decide +kernel⟩, wi_RX10, by decide +kernel⟩
def mX10_grownFrom : kM := (yX10_grownFrom, cX10_grownFrom, 4, (some .int))
theorem mtX10_grownFrom : kMt mX10_grownFrom 1 := ⟨by decide +kernel, ⟨by decide +kernel, by decide +kernel, by decide +kernel⟩, ⟨kin4 (List.mem_of_getElem? (i := 233) (by decide +kernel)), by decide +kernel⟩, wi_RX10, by decide +kernel⟩
def mX10_growsAt : kM := (yX10_growsAt, cX10_growsAt, 3, (some .int))
theorem mtX10_growsAt : kMt mX10_growsAt 1 := ⟨by decide +kernel, ⟨by decide +kernel, by decide +kernel, by decide +kernel⟩, ⟨kin4 (List.mem_of_getElem? (i := 237) (by decide +kernel)), by decide +kernel⟩, wi_RX10, by decide +kernel⟩
def mX10_meanGrown : kM := (yX10_meanGrown, cX10_meanGrown, 2, (some .int))
theorem mtX10_meanGrown : kMt mX10_meanGrown 1 := ⟨by decide +kernel, ⟨by decide +kernel, by decide +kernel, by decide +kernel⟩, ⟨kin5 (List.mem_of_getElem? (i := 1) (by decide +kernel)), by decide +kernel⟩, wi_RX10, by decide +kernel⟩
def mX10_right : kM := (yX10_right, cX10_right, 4, (some .long))
theorem mtX10_right : kMt mX10_right 3 := ⟨by decide +kernel, ⟨by decide +kernel, by decide +kernel, by decide +kernel⟩, ⟨kin5 (List.mem_of_getElem? (i := 5) (by decide +kernel)), by decide +kernel⟩, wi_RX10, by decide +kernel⟩
def mX10_mix : kM := (yX10_mix, cX10_mix, 7, (some .long))
theorem mtX10_mix : kMt mX10_mix 6 := ⟨by decide +kernel, ⟨by decide +kernel, by decide +kernel, by decide +kernel⟩, ⟨kin5 (List.mem_of_getElem? (i := 9) (by decide +kernel)), by decide +kernel⟩, wi_RX10, by decide +kernel⟩
def mX10_areHumps : kM := (yX10_areHumps, cX10_areHumps, 4, (some .boolean))
theorem mtX10_areHumps : kMt mX10_areHumps 4 := ⟨by decide +kernel, ⟨by decide +kernel, by decide +kernel, by decide +kernel⟩, ⟨kin5 (List.mem_of_getElem? (i := 12) (by decide +kernel)), by decide +kernel⟩, wi_RX10, by decide +kernel⟩
def mX10_isShare : kM := (yX10_isShare, cX10_isShare, 1, (some .boolean))
theorem mtX10_isShare : kMt mX10_isShare 1 := ⟨by decide +kernel, ⟨by decide +kernel, by decide +kernel, by decide +kernel⟩, ⟨kin5 (List.mem_of_getElem? (i := 15) (by decide +kernel)), by decide +kernel⟩, wi_RX10, by decide +kernel⟩
def mX10_findMix : kM := (yX10_findMix, cX10_findMix, 9, (some .boolean))
theorem mtX10_findMix : kMt mX10_findMix 5 := ⟨by decide +kernel, ⟨by decide +kernel, by decide +kernel, by decide +kernel⟩, ⟨kin5 (List.mem_of_getElem? (i := 19) (by decide +kernel)), by decide +kernel⟩, wi_RX10, by decide +kernel⟩
def mX10_fall : kM := (yX10_fall, cX10_fall, 13, (some .long))
theorem mtX10_fall : kMt mX10_fall 7 := ⟨by decide +kernel, ⟨by decide +kernel, by decide +kernel, by decide +kernel⟩, ⟨kin5 (List.mem_of_getElem? (i := 24) (by decide +kernel)), by decide +kernel⟩, wi_RX10, by decide +kernel⟩
def mX10_less : kM := (yX10_less, cX10_less, 21, (some .long))
theorem mtX10_less : kMt mX10_less 5 := ⟨by decide +kernel, ⟨by decide +kernel, by decide +kernel, by decide +kernel⟩, ⟨kin5 (List.mem_of_getElem? (i := 27) (by decide +kernel)), by decide +kernel⟩, wi_RX10, by decide +kernel⟩
def mX10_alone : kM := (yX10_alone, cX10_alone, 14, (some .long))
theorem mtX10_alone : kMt mX10_alone 8 := ⟨by decide +kernel, ⟨by decide +kernel, by decide +kernel, by decide +kernel⟩, ⟨kin5 (List.mem_of_getElem? (i := 31) (by decide +kernel)), by decide +kernel⟩, wi_RX10, by decide +kernel⟩
def mX10_areShares : kM := (yX10_areShares, cX10_areShares, 1, (some .boolean))
theorem mtX10_areShares : kMt mX10_areShares 1 := ⟨by decide +kernel, ⟨by decide +kernel, by decide +kernel, by decide +kernel⟩, ⟨kin5 (List.mem_of_getElem? (i := 34) (by decide +kernel)), by decide +kernel⟩, wi_RX10, by decide +kernel⟩
def mX10_findEnd : kM := (yX10_findEnd, cX10_findEnd, 10, (some .boolean))
theorem mtX10_findEnd : kMt mX10_findEnd 6 := ⟨by decide +kernel, ⟨by decide +kernel, by decide +kernel, by decide +kernel⟩, ⟨kin5 (List.mem_of_getElem? (i := 38) (by decide +kernel)), by decide +kernel⟩, wi_RX10, by decide +kernel⟩
def mX10_mean : kM := (yX10_mean, cX10_mean, 3, (some .long))
theorem mtX10_mean : kMt mX10_mean 2 := ⟨by decide +kernel, ⟨by decide +kernel, by decide +kernel, by decide +kernel⟩, ⟨kin5 (List.mem_of_getElem? (i := 42) (by decide +kernel)), by decide +kernel⟩, wi_RX10, by decide +kernel⟩
def mX10_sumOf : kM := (yX10_sumOf, cX10_sumOf, 5, (some .long))
theorem mtX10_sumOf : kMt mX10_sumOf 1 := ⟨by decide +kernel, ⟨by decide +kernel, by decide +kernel, by decide +kernel⟩, ⟨kin5 (List.mem_of_getElem? (i := 46) (by decide +kernel)), by decide +kernel⟩, wi_RX10, by decide +kernel⟩
def mX10_mode : kM := (yX10_mode, cX10_mode, 2, (some .int))
theorem mtX10_mode : kMt mX10_mode 1 := ⟨by decide +kernel, ⟨by decide +kernel, by decide +kernel, by decide +kernel⟩, ⟨kin5 (List.mem_of_getElem? (i := 50) (by decide +kernel)), by decide +kernel⟩, wi_RX10, by decide +kernel⟩
def mX10_modeOf : kM := (yX10_modeOf, cX10_modeOf, 5, (some .int))
theorem mtX10_modeOf : kMt mX10_modeOf 1 := ⟨by decide +kernel, ⟨by decide +kernel, by decide +kernel, by decide +kernel⟩, ⟨kin5 (List.mem_of_getElem? (i := 54) (by decide +kernel)), by decide +kernel⟩, wi_RX10, by decide +kernel⟩
def mX10_about : kM := (yX10_about, cX10_about, 9, (some .long))
theorem mtX10_about : kMt mX10_about 4 := ⟨by decide +kernel, ⟨by decide +kernel, by decide +kernel, by decide +kernel⟩, ⟨kin5 (List.mem_of_getElem? (i := 58) (by decide +kernel)), by decide +kernel⟩, wi_RX10, by decide +kernel⟩
def mX10_beside : kM := (yX10_beside, cX10_beside, 7, (some .long))
theorem mtX10_beside : kMt mX10_beside 4 := ⟨by decide +kernel, ⟨by decide +kernel, by decide +kernel, by decide +kernel⟩, ⟨kin5 (List.mem_of_getElem? (i := 63) (by decide +kernel)), by decide +kernel⟩, wi_RX10, by decide +kernel⟩
def mX10_shorter : kM := (yX10_shorter, cX10_shorter, 6, (some .int))
theorem mtX10_shorter : kMt mX10_shorter 4 := ⟨by decide +kernel, ⟨by decide +kernel, by decide +kernel, by decide +kernel⟩, ⟨kin5 (List.mem_of_getElem? (i := 67) (by decide +kernel)), by decide +kernel⟩, wi_RX10, by decide +kernel⟩
def mX10_make : kM := (yX10_make, cX10_make, 6, (some .int))
theorem mtX10_make : kMt mX10_make 5 := ⟨by decide +kernel, ⟨by decide +kernel, by decide +kernel, by decide +kernel⟩, ⟨kin5 (List.mem_of_getElem? (i := 71) (by decide +kernel)), by decide +kernel⟩, wi_RX10, by decide +kernel⟩
def mX10_isWorld : kM := (yX10_isWorld, cX10_isWorld, 4, (some .boolean))
theorem mtX10_isWorld : kMt mX10_isWorld 4 := ⟨by decide +kernel, ⟨by decide +kernel, by decide +kernel, by decide +kernel⟩, ⟨kin5 (List.mem_of_getElem? (i := 74) (by decide +kernel)), by decide +kernel⟩, wi_RX10, by decide +kernel⟩
def mX10_makeIn : kM := (yX10_makeIn, cX10_makeIn, 11, (some .int))
theorem mtX10_makeIn : kMt mX10_makeIn 5 := ⟨by decide +kernel, ⟨by decide +kernel, by decide +kernel, by decide +kernel⟩, ⟨kin5 (List.mem_of_getElem? (i := 80) (by decide +kernel)), by decide +kernel⟩, wi_RX10, by decide +kernel⟩
def mX10_draw : kM := (yX10_draw, cX10_draw, 2, (some .int))
theorem mtX10_draw : kMt mX10_draw 1 := ⟨by decide +kernel, ⟨by decide +kernel, by decide +kernel, by decide +kernel⟩, ⟨kin5 (List.mem_of_getElem? (i := 84) (by decide +kernel)), by decide +kernel⟩, wi_RX10, by decide +kernel⟩
def mX10_heightOf : kM := (yX10_heightOf, cX10_heightOf, 6, (some .int))
theorem mtX10_heightOf : kMt mX10_heightOf 3 := ⟨by decide +kernel, ⟨by decide +kernel, by decide +kernel, by decide +kernel⟩, ⟨kin5 (List.mem_of_getElem? (i := 89) (by decide +kernel)), by decide +kernel⟩, wi_RX10, by decide +kernel⟩
def mX10_writtenAt : kM := (yX10_writtenAt, cX10_writtenAt, 4, (some .int))
theorem mtX10_writtenAt : kMt mX10_writtenAt 2 := ⟨by decide +kernel, ⟨by decide +kernel, by decide +kernel, by decide +kernel⟩, ⟨kin5 (List.mem_of_getElem? (i := 93) (by decide +kernel)), by decide +kernel⟩, wi_RX10, by decide +kernel⟩
def mX10_off : kM := (yX10_off, cX10_off, 8, (some .int))
theorem mtX10_off : kMt mX10_off 7 := ⟨by decide +kernel, ⟨by decide +kernel, by decide +kernel, by decide +kernel⟩, ⟨kin5 (List.mem_of_getElem? (i := 97) (by decide +kernel)), by decide +kernel⟩, wi_RX10, by decide +kernel⟩
def mX10_offOf : kM := (yX10_offOf, cX10_offOf, 11, (some .int))
theorem mtX10_offOf : kMt mX10_offOf 7 := ⟨by decide +kernel, ⟨by decide +kernel, by decide +kernel, by decide +kernel⟩, ⟨kin5 (List.mem_of_getElem? (i := 102) (by decide +kernel)), by decide +kernel⟩, wi_RX10, by decide +kernel⟩
def mX10_undone : kM := (yX10_undone, cX10_undone, 4, (some .int))
theorem mtX10_undone : kMt mX10_undone 3 := ⟨by decide +kernel, ⟨by decide +kernel, by decide +kernel, by decide +kernel⟩, ⟨kin5 (List.mem_of_getElem? (i := 106) (by decide +kernel)), by decide +kernel⟩, wi_RX10, by decide +kernel⟩
def mX10_best : kM := (yX10_best, cX10_best, 11, (some .int))
theorem mtX10_best : kMt mX10_best 6 := ⟨by decide +kernel, ⟨by decide +kernel, by decide +kernel, by decide +kernel⟩, ⟨kin5 (List.mem_of_getElem? (i := 110) (by decide +kernel)), by decide +kernel⟩, wi_RX10, by decide +kernel⟩
def mX10_image : kM := (yX10_image, cX10_image, 2, (some .int))
theorem mtX10_image : kMt mX10_image 1 := ⟨by decide +kernel, ⟨by decide +kernel, by decide +kernel, by decide +kernel⟩, ⟨kin5 (List.mem_of_getElem? (i := 114) (by decide +kernel)), by decide +kernel⟩, wi_RX10, by decide +kernel⟩
def mX10_passAll : kM := (yX10_passAll, cX10_passAll, 2, none)
theorem mtX10_passAll : kMt mX10_passAll 0 := ⟨by decide +kernel, ⟨by decide +kernel, by decide +kernel, by decide +kernel⟩, ⟨kin5 (List.mem_of_getElem? (i := 118) (by decide +kernel)), by decide +kernel⟩, wi_RX10, by decide +kernel⟩
def mX10_pass : kM := (yX10_pass, cX10_pass, 3, (some .int))
theorem mtX10_pass : kMt mX10_pass 1 := ⟨by decide +kernel, ⟨by decide +kernel, by decide +kernel, by decide +kernel⟩, ⟨kin5 (List.mem_of_getElem? (i := 122) (by decide +kernel)), by decide +kernel⟩, wi_RX10, by decide +kernel⟩
def mX10_restore : kM := (yX10_restore, cX10_restore, 2, (some .int))
theorem mtX10_restore : kMt mX10_restore 1 := ⟨by decide +kernel, ⟨by decide +kernel, by decide +kernel, by decide +kernel⟩, ⟨kin5 (List.mem_of_getElem? (i := 126) (by decide +kernel)), by decide +kernel⟩, wi_RX10, by decide +kernel⟩
def mX10_told : kM := (yX10_told, cX10_told, 2, (some .int))
theorem mtX10_told : kMt mX10_told 1 := ⟨by decide +kernel, ⟨by decide +kernel, by decide +kernel, by decide +kernel⟩, ⟨kin5 (List.mem_of_getElem? (i := 130) (by decide +kernel)), by decide +kernel⟩, wi_RX10, by decide +kernel⟩
theorem miX9_init : kWd (.instanceMethod yX9_init) := ⟨kin1 (List.mem_of_getElem? (i := 18) (by decide +kernel)), by decide +kernel⟩
theorem miX7_init : kWd (.instanceMethod yX7_init) := ⟨kin1 (List.mem_of_getElem? (i := 26) (by decide +kernel)), by decide +kernel⟩
theorem miX2_init : kWd (.instanceMethod yX2_init) := ⟨kin1 (List.mem_of_getElem? (i := 43) (by decide +kernel)), by decide +kernel⟩
theorem miX0_init : kWd (.instanceMethod yX0_init) := ⟨kin1 (List.mem_of_getElem? (i := 54) (by decide +kernel)), by decide +kernel⟩
theorem miX3_init : kWd (.instanceMethod yX3_init) := ⟨kin1 (List.mem_of_getElem? (i := 98) (by decide +kernel)), by decide +kernel⟩
theorem miX8_init : kWd (.instanceMethod yX8_init) := ⟨kin1 (List.mem_of_getElem? (i := 111) (by decide +kernel)), by decide +kernel⟩
theorem miX4_init : kWd (.instanceMethod yX4_init) := ⟨kin1 (List.mem_of_getElem? (i := 145) (by decide +kernel)), by decide +kernel⟩
theorem miX9_men : kIn mX9_men := ⟨⟨kin1 (List.mem_of_getElem? (i := 183) (by decide +kernel)), by decide +kernel⟩, ⟨kin1 (List.mem_of_getElem? (i := 184) (by decide +kernel)), by decide +kernel⟩⟩
theorem miX2_bookAt : kIn mX2_bookAt := ⟨⟨kin1 (List.mem_of_getElem? (i := 187) (by decide +kernel)), by decide +kernel⟩, ⟨kin1 (List.mem_of_getElem? (i := 188) (by decide +kernel)), by decide +kernel⟩⟩
theorem msX9_within : kWd (.static yX9_within) := ⟨kin1 (List.mem_of_getElem? (i := 191) (by decide +kernel)), by decide +kernel⟩
theorem msX9_isHeight : kWd (.static yX9_isHeight) := ⟨kin1 (List.mem_of_getElem? (i := 194) (by decide +kernel)), by decide +kernel⟩
theorem miX0_menAt : kIn mX0_menAt := ⟨⟨kin1 (List.mem_of_getElem? (i := 198) (by decide +kernel)), by decide +kernel⟩, ⟨kin1 (List.mem_of_getElem? (i := 199) (by decide +kernel)), by decide +kernel⟩⟩
theorem miX0_put : kIn mX0_put := ⟨⟨kin1 (List.mem_of_getElem? (i := 202) (by decide +kernel)), by decide +kernel⟩, ⟨kin1 (List.mem_of_getElem? (i := 203) (by decide +kernel)), by decide +kernel⟩⟩
theorem miX9_set : kIn mX9_set := ⟨⟨kin1 (List.mem_of_getElem? (i := 207) (by decide +kernel)), by decide +kernel⟩, ⟨kin1 (List.mem_of_getElem? (i := 208) (by decide +kernel)), by decide +kernel⟩⟩
theorem miX0_entry : kIn mX0_entry := ⟨⟨kin1 (List.mem_of_getElem? (i := 215) (by decide +kernel)), by decide +kernel⟩, ⟨kin1 (List.mem_of_getElem? (i := 216) (by decide +kernel)), by decide +kernel⟩⟩
theorem miX0_enter : kIn mX0_enter := ⟨⟨kin1 (List.mem_of_getElem? (i := 220) (by decide +kernel)), by decide +kernel⟩, ⟨kin1 (List.mem_of_getElem? (i := 221) (by decide +kernel)), by decide +kernel⟩⟩
theorem miX9_way : kIn mX9_way := ⟨⟨kin1 (List.mem_of_getElem? (i := 224) (by decide +kernel)), by decide +kernel⟩, ⟨kin1 (List.mem_of_getElem? (i := 225) (by decide +kernel)), by decide +kernel⟩⟩
theorem miX2_wayOf : kIn mX2_wayOf := ⟨⟨kin1 (List.mem_of_getElem? (i := 229) (by decide +kernel)), by decide +kernel⟩, ⟨kin1 (List.mem_of_getElem? (i := 230) (by decide +kernel)), by decide +kernel⟩⟩
theorem miX2_turn : kIn mX2_turn := ⟨⟨kin1 (List.mem_of_getElem? (i := 233) (by decide +kernel)), by decide +kernel⟩, ⟨kin1 (List.mem_of_getElem? (i := 234) (by decide +kernel)), by decide +kernel⟩⟩
theorem miX9_say : kIn mX9_say := ⟨⟨kin1 (List.mem_of_getElem? (i := 237) (by decide +kernel)), by decide +kernel⟩, ⟨kin1 (List.mem_of_getElem? (i := 238) (by decide +kernel)), by decide +kernel⟩⟩
theorem miX7_add : kIn mX7_add := ⟨⟨kin2 (List.mem_of_getElem? (i := 1) (by decide +kernel)), by decide +kernel⟩, ⟨kin2 (List.mem_of_getElem? (i := 2) (by decide +kernel)), by decide +kernel⟩⟩
theorem miX9_wipe : kIn mX9_wipe := ⟨⟨kin2 (List.mem_of_getElem? (i := 5) (by decide +kernel)), by decide +kernel⟩, ⟨kin2 (List.mem_of_getElem? (i := 6) (by decide +kernel)), by decide +kernel⟩⟩
theorem miX7_clear : kIn mX7_clear := ⟨⟨kin2 (List.mem_of_getElem? (i := 9) (by decide +kernel)), by decide +kernel⟩, ⟨kin2 (List.mem_of_getElem? (i := 10) (by decide +kernel)), by decide +kernel⟩⟩
theorem miX9_fault : kIn mX9_fault := ⟨⟨kin2 (List.mem_of_getElem? (i := 13) (by decide +kernel)), by decide +kernel⟩, ⟨kin2 (List.mem_of_getElem? (i := 14) (by decide +kernel)), by decide +kernel⟩⟩
theorem msX1_faultOf : kWd (.static yX1_faultOf) := ⟨kin2 (List.mem_of_getElem? (i := 17) (by decide +kernel)), by decide +kernel⟩
theorem miX7_signAt : kIn mX7_signAt := ⟨⟨kin2 (List.mem_of_getElem? (i := 20) (by decide +kernel)), by decide +kernel⟩, ⟨kin2 (List.mem_of_getElem? (i := 21) (by decide +kernel)), by decide +kernel⟩⟩
theorem msX1_after : kWd (.static yX1_after) := ⟨kin2 (List.mem_of_getElem? (i := 24) (by decide +kernel)), by decide +kernel⟩
theorem msX1_beginTest : kWd (.static yX1_beginTest) := ⟨kin2 (List.mem_of_getElem? (i := 27) (by decide +kernel)), by decide +kernel⟩
theorem msX1_isDigit : kWd (.static yX1_isDigit) := ⟨kin2 (List.mem_of_getElem? (i := 30) (by decide +kernel)), by decide +kernel⟩
theorem msX1_endTest : kWd (.static yX1_endTest) := ⟨kin2 (List.mem_of_getElem? (i := 33) (by decide +kernel)), by decide +kernel⟩
theorem msX1_endPiece : kWd (.static yX1_endPiece) := ⟨kin2 (List.mem_of_getElem? (i := 36) (by decide +kernel)), by decide +kernel⟩
theorem msX1_afterInGrowth : kWd (.static yX1_afterInGrowth) := ⟨kin2 (List.mem_of_getElem? (i := 39) (by decide +kernel)), by decide +kernel⟩
theorem msX1_endAge : kWd (.static yX1_endAge) := ⟨kin2 (List.mem_of_getElem? (i := 42) (by decide +kernel)), by decide +kernel⟩
theorem miX9_take : kIn mX9_take := ⟨⟨kin2 (List.mem_of_getElem? (i := 45) (by decide +kernel)), by decide +kernel⟩, ⟨kin2 (List.mem_of_getElem? (i := 46) (by decide +kernel)), by decide +kernel⟩⟩
theorem miX7_copyFrom : kIn mX7_copyFrom := ⟨⟨kin2 (List.mem_of_getElem? (i := 49) (by decide +kernel)), by decide +kernel⟩, ⟨kin2 (List.mem_of_getElem? (i := 50) (by decide +kernel)), by decide +kernel⟩⟩
theorem miX7_pieces : kIn mX7_pieces := ⟨⟨kin2 (List.mem_of_getElem? (i := 56) (by decide +kernel)), by decide +kernel⟩, ⟨kin2 (List.mem_of_getElem? (i := 57) (by decide +kernel)), by decide +kernel⟩⟩
theorem miX9_line : kIn mX9_line := ⟨⟨kin2 (List.mem_of_getElem? (i := 61) (by decide +kernel)), by decide +kernel⟩, ⟨kin2 (List.mem_of_getElem? (i := 62) (by decide +kernel)), by decide +kernel⟩⟩
theorem miX2_lineOf : kIn mX2_lineOf := ⟨⟨kin2 (List.mem_of_getElem? (i := 65) (by decide +kernel)), by decide +kernel⟩, ⟨kin2 (List.mem_of_getElem? (i := 66) (by decide +kernel)), by decide +kernel⟩⟩
theorem msX5_lineBy : kWd (.static yX5_lineBy) := ⟨kin2 (List.mem_of_getElem? (i := 70) (by decide +kernel)), by decide +kernel⟩
theorem msX5_holds : kWd (.static yX5_holds) := ⟨kin2 (List.mem_of_getElem? (i := 75) (by decide +kernel)), by decide +kernel⟩
theorem msJ9_min_7cf53 : kWd (.static yJ9_min_7cf53) := ⟨kin2 (List.mem_of_getElem? (i := 78) (by decide +kernel)), by decide +kernel⟩
theorem miX9_hump : kIn mX9_hump := ⟨⟨kin2 (List.mem_of_getElem? (i := 81) (by decide +kernel)), by decide +kernel⟩, ⟨kin2 (List.mem_of_getElem? (i := 82) (by decide +kernel)), by decide +kernel⟩⟩
theorem msX9_isHump : kWd (.static yX9_isHump) := ⟨kin2 (List.mem_of_getElem? (i := 85) (by decide +kernel)), by decide +kernel⟩
theorem msX9_isWidth : kWd (.static yX9_isWidth) := ⟨kin2 (List.mem_of_getElem? (i := 88) (by decide +kernel)), by decide +kernel⟩
theorem miX3_menAt : kIn mX3_menAt := ⟨⟨kin2 (List.mem_of_getElem? (i := 91) (by decide +kernel)), by decide +kernel⟩, ⟨kin2 (List.mem_of_getElem? (i := 92) (by decide +kernel)), by decide +kernel⟩⟩
theorem miX3_waysOf : kIn mX3_waysOf := ⟨⟨kin2 (List.mem_of_getElem? (i := 96) (by decide +kernel)), by decide +kernel⟩, ⟨kinS (List.mem_of_getElem? (i := 0) (by decide +kernel)), by decide +kernel⟩⟩
theorem miX9_upper : kIn mX9_upper := ⟨⟨kin2 (List.mem_of_getElem? (i := 99) (by decide +kernel)), by decide +kernel⟩, ⟨kin2 (List.mem_of_getElem? (i := 100) (by decide +kernel)), by decide +kernel⟩⟩
theorem msX9_isPart : kWd (.static yX9_isPart) := ⟨kin2 (List.mem_of_getElem? (i := 103) (by decide +kernel)), by decide +kernel⟩
theorem miX3_countFrom : kIn mX3_countFrom := ⟨⟨kin2 (List.mem_of_getElem? (i := 107) (by decide +kernel)), by decide +kernel⟩, ⟨kin2 (List.mem_of_getElem? (i := 108) (by decide +kernel)), by decide +kernel⟩⟩
theorem msJ9_max_7cf53 : kWd (.static yJ9_max_7cf53) := ⟨kin2 (List.mem_of_getElem? (i := 111) (by decide +kernel)), by decide +kernel⟩
theorem msX9_tell : kWd (.static yX9_tell) := ⟨kin2 (List.mem_of_getElem? (i := 115) (by decide +kernel)), by decide +kernel⟩
theorem msJ9_abs_067f4 : kWd (.static yJ9_abs_067f4) := ⟨kin2 (List.mem_of_getElem? (i := 118) (by decide +kernel)), by decide +kernel⟩
theorem msX9_commonDivisor : kWd (.static yX9_commonDivisor) := ⟨kin2 (List.mem_of_getElem? (i := 121) (by decide +kernel)), by decide +kernel⟩
theorem msJ9_max_f86c9 : kWd (.static yJ9_max_f86c9) := ⟨kin2 (List.mem_of_getElem? (i := 124) (by decide +kernel)), by decide +kernel⟩
theorem miX3_sumFrom : kIn mX3_sumFrom := ⟨⟨kin2 (List.mem_of_getElem? (i := 127) (by decide +kernel)), by decide +kernel⟩, ⟨kin2 (List.mem_of_getElem? (i := 128) (by decide +kernel)), by decide +kernel⟩⟩
theorem miX9_misfit : kIn mX9_misfit := ⟨⟨kin2 (List.mem_of_getElem? (i := 131) (by decide +kernel)), by decide +kernel⟩, ⟨kin2 (List.mem_of_getElem? (i := 132) (by decide +kernel)), by decide +kernel⟩⟩
theorem miX8_misfitOf : kIn mX8_misfitOf := ⟨⟨kin2 (List.mem_of_getElem? (i := 135) (by decide +kernel)), by decide +kernel⟩, ⟨kin2 (List.mem_of_getElem? (i := 136) (by decide +kernel)), by decide +kernel⟩⟩
theorem miX9_fit : kIn mX9_fit := ⟨⟨kin2 (List.mem_of_getElem? (i := 144) (by decide +kernel)), by decide +kernel⟩, ⟨kin2 (List.mem_of_getElem? (i := 145) (by decide +kernel)), by decide +kernel⟩⟩
theorem miX9_seekMiddle : kIn mX9_seekMiddle := ⟨⟨kin2 (List.mem_of_getElem? (i := 149) (by decide +kernel)), by decide +kernel⟩, ⟨kinS (List.mem_of_getElem? (i := 1) (by decide +kernel)), by decide +kernel⟩⟩
theorem miX8_seekMiddle : kIn mX8_seekMiddle := ⟨⟨kin2 (List.mem_of_getElem? (i := 152) (by decide +kernel)), by decide +kernel⟩, ⟨kin2 (List.mem_of_getElem? (i := 153) (by decide +kernel)), by decide +kernel⟩⟩
theorem miX8_offer : kIn mX8_offer := ⟨⟨kin2 (List.mem_of_getElem? (i := 158) (by decide +kernel)), by decide +kernel⟩, ⟨kinS (List.mem_of_getElem? (i := 2) (by decide +kernel)), by decide +kernel⟩⟩
theorem miX9_span : kIn mX9_span := ⟨⟨kin2 (List.mem_of_getElem? (i := 161) (by decide +kernel)), by decide +kernel⟩, ⟨kin2 (List.mem_of_getElem? (i := 162) (by decide +kernel)), by decide +kernel⟩⟩
theorem miX9_seekSpan : kIn mX9_seekSpan := ⟨⟨kin2 (List.mem_of_getElem? (i := 166) (by decide +kernel)), by decide +kernel⟩, ⟨kinS (List.mem_of_getElem? (i := 3) (by decide +kernel)), by decide +kernel⟩⟩
theorem miX8_seekSpan : kIn mX8_seekSpan := ⟨⟨kin2 (List.mem_of_getElem? (i := 169) (by decide +kernel)), by decide +kernel⟩, ⟨kin2 (List.mem_of_getElem? (i := 170) (by decide +kernel)), by decide +kernel⟩⟩
theorem miX9_found : kIn mX9_found := ⟨⟨kin2 (List.mem_of_getElem? (i := 174) (by decide +kernel)), by decide +kernel⟩, ⟨kin2 (List.mem_of_getElem? (i := 175) (by decide +kernel)), by decide +kernel⟩⟩
theorem miX8_seekLine : kIn mX8_seekLine := ⟨⟨kin2 (List.mem_of_getElem? (i := 178) (by decide +kernel)), by decide +kernel⟩, ⟨kin2 (List.mem_of_getElem? (i := 179) (by decide +kernel)), by decide +kernel⟩⟩
theorem miX9_written : kIn mX9_written := ⟨⟨kin2 (List.mem_of_getElem? (i := 182) (by decide +kernel)), by decide +kernel⟩, ⟨kin2 (List.mem_of_getElem? (i := 183) (by decide +kernel)), by decide +kernel⟩⟩
theorem miX2_hundredths : kIn mX2_hundredths := ⟨⟨kin2 (List.mem_of_getElem? (i := 186) (by decide +kernel)), by decide +kernel⟩, ⟨kin2 (List.mem_of_getElem? (i := 187) (by decide +kernel)), by decide +kernel⟩⟩
theorem msX9_nearestInch : kWd (.static yX9_nearestInch) := ⟨kin2 (List.mem_of_getElem? (i := 191) (by decide +kernel)), by decide +kernel⟩
theorem miX9_back : kIn mX9_back := ⟨⟨kin2 (List.mem_of_getElem? (i := 196) (by decide +kernel)), by decide +kernel⟩, ⟨kin2 (List.mem_of_getElem? (i := 197) (by decide +kernel)), by decide +kernel⟩⟩
theorem miX9_pile : kIn mX9_pile := ⟨⟨kin2 (List.mem_of_getElem? (i := 200) (by decide +kernel)), by decide +kernel⟩, ⟨kin2 (List.mem_of_getElem? (i := 201) (by decide +kernel)), by decide +kernel⟩⟩
theorem miX0_atWholeInches : kIn mX0_atWholeInches := ⟨⟨kin2 (List.mem_of_getElem? (i := 206) (by decide +kernel)), by decide +kernel⟩, ⟨kin2 (List.mem_of_getElem? (i := 207) (by decide +kernel)), by decide +kernel⟩⟩
theorem miX9_grown : kIn mX9_grown := ⟨⟨kin2 (List.mem_of_getElem? (i := 210) (by decide +kernel)), by decide +kernel⟩, ⟨kin2 (List.mem_of_getElem? (i := 211) (by decide +kernel)), by decide +kernel⟩⟩
theorem miX2_growthFrom : kIn mX2_growthFrom := ⟨⟨kin2 (List.mem_of_getElem? (i := 214) (by decide +kernel)), by decide +kernel⟩, ⟨kin2 (List.mem_of_getElem? (i := 215) (by decide +kernel)), by decide +kernel⟩⟩
theorem msX5_growthAt : kWd (.static yX5_growthAt) := ⟨kin2 (List.mem_of_getElem? (i := 218) (by decide +kernel)), by decide +kernel⟩
theorem miX2_tenthsGrown : kIn mX2_tenthsGrown := ⟨⟨kin2 (List.mem_of_getElem? (i := 221) (by decide +kernel)), by decide +kernel⟩, ⟨kin2 (List.mem_of_getElem? (i := 222) (by decide +kernel)), by decide +kernel⟩⟩
theorem miX9_right : kIn mX9_right := ⟨⟨kin2 (List.mem_of_getElem? (i := 227) (by decide +kernel)), by decide +kernel⟩, ⟨kin2 (List.mem_of_getElem? (i := 228) (by decide +kernel)), by decide +kernel⟩⟩
theorem miX9_mix : kIn mX9_mix := ⟨⟨kin2 (List.mem_of_getElem? (i := 231) (by decide +kernel)), by decide +kernel⟩, ⟨kin2 (List.mem_of_getElem? (i := 232) (by decide +kernel)), by decide +kernel⟩⟩
theorem msX9_areSorts : kWd (.static yX9_areSorts) := ⟨kin2 (List.mem_of_getElem? (i := 235) (by decide +kernel)), by decide +kernel⟩
theorem msX9_isShare : kWd (.static yX9_isShare) := ⟨kin2 (List.mem_of_getElem? (i := 238) (by decide +kernel)), by decide +kernel⟩
theorem miX6_init : kWd (.instanceMethod yX6_init) := ⟨kin3 (List.mem_of_getElem? (i := 3) (by decide +kernel)), by decide +kernel⟩
theorem miX6_lack : kIn mX6_lack := ⟨⟨kin3 (List.mem_of_getElem? (i := 22) (by decide +kernel)), by decide +kernel⟩, ⟨kin3 (List.mem_of_getElem? (i := 23) (by decide +kernel)), by decide +kernel⟩⟩
theorem miX6_count : kIn mX6_count := ⟨⟨kin3 (List.mem_of_getElem? (i := 26) (by decide +kernel)), by decide +kernel⟩, ⟨kin3 (List.mem_of_getElem? (i := 27) (by decide +kernel)), by decide +kernel⟩⟩
theorem miX6_sum : kIn mX6_sum := ⟨⟨kin3 (List.mem_of_getElem? (i := 31) (by decide +kernel)), by decide +kernel⟩, ⟨kin3 (List.mem_of_getElem? (i := 32) (by decide +kernel)), by decide +kernel⟩⟩
theorem miX9_fall : kIn mX9_fall := ⟨⟨kin3 (List.mem_of_getElem? (i := 36) (by decide +kernel)), by decide +kernel⟩, ⟨kin3 (List.mem_of_getElem? (i := 37) (by decide +kernel)), by decide +kernel⟩⟩
theorem msX9_tellFall : kWd (.static yX9_tellFall) := ⟨kin3 (List.mem_of_getElem? (i := 40) (by decide +kernel)), by decide +kernel⟩
theorem miX6_gap : kIn mX6_gap := ⟨⟨kin3 (List.mem_of_getElem? (i := 43) (by decide +kernel)), by decide +kernel⟩, ⟨kin3 (List.mem_of_getElem? (i := 44) (by decide +kernel)), by decide +kernel⟩⟩
theorem miX9_alone : kIn mX9_alone := ⟨⟨kin3 (List.mem_of_getElem? (i := 48) (by decide +kernel)), by decide +kernel⟩, ⟨kin3 (List.mem_of_getElem? (i := 49) (by decide +kernel)), by decide +kernel⟩⟩
theorem msX9_areShares : kWd (.static yX9_areShares) := ⟨kin3 (List.mem_of_getElem? (i := 52) (by decide +kernel)), by decide +kernel⟩
theorem miX6_lesser : kIn mX6_lesser := ⟨⟨kin3 (List.mem_of_getElem? (i := 55) (by decide +kernel)), by decide +kernel⟩, ⟨kin3 (List.mem_of_getElem? (i := 56) (by decide +kernel)), by decide +kernel⟩⟩
theorem miX6_greater : kIn mX6_greater := ⟨⟨kin3 (List.mem_of_getElem? (i := 60) (by decide +kernel)), by decide +kernel⟩, ⟨kin3 (List.mem_of_getElem? (i := 61) (by decide +kernel)), by decide +kernel⟩⟩
theorem miX9_mean : kIn mX9_mean := ⟨⟨kin3 (List.mem_of_getElem? (i := 64) (by decide +kernel)), by decide +kernel⟩, ⟨kin3 (List.mem_of_getElem? (i := 65) (by decide +kernel)), by decide +kernel⟩⟩
theorem miX0_sumMoved : kIn mX0_sumMoved := ⟨⟨kin3 (List.mem_of_getElem? (i := 68) (by decide +kernel)), by decide +kernel⟩, ⟨kin3 (List.mem_of_getElem? (i := 69) (by decide +kernel)), by decide +kernel⟩⟩
theorem miX9_mode : kIn mX9_mode := ⟨⟨kin3 (List.mem_of_getElem? (i := 74) (by decide +kernel)), by decide +kernel⟩, ⟨kin3 (List.mem_of_getElem? (i := 75) (by decide +kernel)), by decide +kernel⟩⟩
theorem miX0_commonest : kIn mX0_commonest := ⟨⟨kin3 (List.mem_of_getElem? (i := 78) (by decide +kernel)), by decide +kernel⟩, ⟨kin3 (List.mem_of_getElem? (i := 79) (by decide +kernel)), by decide +kernel⟩⟩
theorem miX9_about : kIn mX9_about := ⟨⟨kin3 (List.mem_of_getElem? (i := 82) (by decide +kernel)), by decide +kernel⟩, ⟨kin3 (List.mem_of_getElem? (i := 83) (by decide +kernel)), by decide +kernel⟩⟩
theorem miX9_beside : kIn mX9_beside := ⟨⟨kin3 (List.mem_of_getElem? (i := 87) (by decide +kernel)), by decide +kernel⟩, ⟨kin3 (List.mem_of_getElem? (i := 88) (by decide +kernel)), by decide +kernel⟩⟩
theorem miX9_shorter : kIn mX9_shorter := ⟨⟨kin3 (List.mem_of_getElem? (i := 91) (by decide +kernel)), by decide +kernel⟩, ⟨kin3 (List.mem_of_getElem? (i := 92) (by decide +kernel)), by decide +kernel⟩⟩
theorem miX9_make : kIn mX9_make := ⟨⟨kin3 (List.mem_of_getElem? (i := 95) (by decide +kernel)), by decide +kernel⟩, ⟨kin3 (List.mem_of_getElem? (i := 96) (by decide +kernel)), by decide +kernel⟩⟩
theorem msX9_isWorld : kWd (.static yX9_isWorld) := ⟨kin3 (List.mem_of_getElem? (i := 99) (by decide +kernel)), by decide +kernel⟩
theorem miX4_fill : kIn mX4_fill := ⟨⟨kin3 (List.mem_of_getElem? (i := 102) (by decide +kernel)), by decide +kernel⟩, ⟨kin3 (List.mem_of_getElem? (i := 103) (by decide +kernel)), by decide +kernel⟩⟩
theorem miX0_clearMen : kIn mX0_clearMen := ⟨⟨kin3 (List.mem_of_getElem? (i := 106) (by decide +kernel)), by decide +kernel⟩, ⟨kin3 (List.mem_of_getElem? (i := 107) (by decide +kernel)), by decide +kernel⟩⟩
theorem msJ7_fill_53178 : kWd (.static yJ7_fill_53178) := ⟨kin3 (List.mem_of_getElem? (i := 110) (by decide +kernel)), by decide +kernel⟩
theorem miX4_draw : kIn mX4_draw := ⟨⟨kin3 (List.mem_of_getElem? (i := 115) (by decide +kernel)), by decide +kernel⟩, ⟨kinS (List.mem_of_getElem? (i := 4) (by decide +kernel)), by decide +kernel⟩⟩
theorem miX3_heightOf : kIn mX3_heightOf := ⟨⟨kin3 (List.mem_of_getElem? (i := 119) (by decide +kernel)), by decide +kernel⟩, ⟨kin3 (List.mem_of_getElem? (i := 120) (by decide +kernel)), by decide +kernel⟩⟩
theorem miX4_placeOf : kIn mX4_placeOf := ⟨⟨kin3 (List.mem_of_getElem? (i := 125) (by decide +kernel)), by decide +kernel⟩, ⟨kinS (List.mem_of_getElem? (i := 5) (by decide +kernel)), by decide +kernel⟩⟩
theorem miX9_off : kIn mX9_off := ⟨⟨kin3 (List.mem_of_getElem? (i := 132) (by decide +kernel)), by decide +kernel⟩, ⟨kin3 (List.mem_of_getElem? (i := 133) (by decide +kernel)), by decide +kernel⟩⟩
theorem miX9_offBy : kIn mX9_offBy := ⟨⟨kin3 (List.mem_of_getElem? (i := 137) (by decide +kernel)), by decide +kernel⟩, ⟨kinS (List.mem_of_getElem? (i := 6) (by decide +kernel)), by decide +kernel⟩⟩
theorem miX0_copyEntries : kIn mX0_copyEntries := ⟨⟨kin3 (List.mem_of_getElem? (i := 140) (by decide +kernel)), by decide +kernel⟩, ⟨kin3 (List.mem_of_getElem? (i := 141) (by decide +kernel)), by decide +kernel⟩⟩
theorem miX9_undone : kIn mX9_undone := ⟨⟨kin3 (List.mem_of_getElem? (i := 146) (by decide +kernel)), by decide +kernel⟩, ⟨kinS (List.mem_of_getElem? (i := 7) (by decide +kernel)), by decide +kernel⟩⟩
theorem msJ9_abs_0f7a4 : kWd (.static yJ9_abs_0f7a4) := ⟨kin3 (List.mem_of_getElem? (i := 149) (by decide +kernel)), by decide +kernel⟩
theorem miX9_best : kIn mX9_best := ⟨⟨kin3 (List.mem_of_getElem? (i := 152) (by decide +kernel)), by decide +kernel⟩, ⟨kin3 (List.mem_of_getElem? (i := 153) (by decide +kernel)), by decide +kernel⟩⟩
theorem miX9_image : kIn mX9_image := ⟨⟨kin3 (List.mem_of_getElem? (i := 156) (by decide +kernel)), by decide +kernel⟩, ⟨kin3 (List.mem_of_getElem? (i := 157) (by decide +kernel)), by decide +kernel⟩⟩
theorem msX9_isImage : kWd (.static yX9_isImage) := ⟨kin3 (List.mem_of_getElem? (i := 160) (by decide +kernel)), by decide +kernel⟩
theorem miX2_copyFrom : kIn mX2_copyFrom := ⟨⟨kin3 (List.mem_of_getElem? (i := 163) (by decide +kernel)), by decide +kernel⟩, ⟨kin3 (List.mem_of_getElem? (i := 164) (by decide +kernel)), by decide +kernel⟩⟩
theorem miX0_copyFrom : kIn mX0_copyFrom := ⟨⟨kin3 (List.mem_of_getElem? (i := 167) (by decide +kernel)), by decide +kernel⟩, ⟨kin3 (List.mem_of_getElem? (i := 168) (by decide +kernel)), by decide +kernel⟩⟩
theorem miX9_restore : kIn mX9_restore := ⟨⟨kin3 (List.mem_of_getElem? (i := 174) (by decide +kernel)), by decide +kernel⟩, ⟨kin3 (List.mem_of_getElem? (i := 175) (by decide +kernel)), by decide +kernel⟩⟩
theorem miX9_told : kIn mX9_told := ⟨⟨kin3 (List.mem_of_getElem? (i := 178) (by decide +kernel)), by decide +kernel⟩, ⟨kin3 (List.mem_of_getElem? (i := 179) (by decide +kernel)), by decide +kernel⟩⟩
theorem miX10_init : kWd (.instanceMethod yX10_init) := ⟨kin3 (List.mem_of_getElem? (i := 184) (by decide +kernel)), by decide +kernel⟩
theorem miX10_men : kIn mX10_men := ⟨⟨kin4 (List.mem_of_getElem? (i := 48) (by decide +kernel)), by decide +kernel⟩, ⟨kin4 (List.mem_of_getElem? (i := 49) (by decide +kernel)), by decide +kernel⟩⟩
theorem msX10_isBook : kWd (.static yX10_isBook) := ⟨kin4 (List.mem_of_getElem? (i := 52) (by decide +kernel)), by decide +kernel⟩
theorem msX10_in : kWd (.static yX10_in) := ⟨kin4 (List.mem_of_getElem? (i := 56) (by decide +kernel)), by decide +kernel⟩
theorem msX10_isHeight : kWd (.static yX10_isHeight) := ⟨kin4 (List.mem_of_getElem? (i := 59) (by decide +kernel)), by decide +kernel⟩
theorem msX10_at : kWd (.static yX10_at) := ⟨kin4 (List.mem_of_getElem? (i := 64) (by decide +kernel)), by decide +kernel⟩
theorem miX10_set : kIn mX10_set := ⟨⟨kin4 (List.mem_of_getElem? (i := 67) (by decide +kernel)), by decide +kernel⟩, ⟨kin4 (List.mem_of_getElem? (i := 68) (by decide +kernel)), by decide +kernel⟩⟩
theorem miX10_way : kIn mX10_way := ⟨⟨kin4 (List.mem_of_getElem? (i := 75) (by decide +kernel)), by decide +kernel⟩, ⟨kin4 (List.mem_of_getElem? (i := 76) (by decide +kernel)), by decide +kernel⟩⟩
theorem miX10_say : kIn mX10_say := ⟨⟨kin4 (List.mem_of_getElem? (i := 82) (by decide +kernel)), by decide +kernel⟩, ⟨kin4 (List.mem_of_getElem? (i := 83) (by decide +kernel)), by decide +kernel⟩⟩
theorem miX10_wipe : kIn mX10_wipe := ⟨⟨kin4 (List.mem_of_getElem? (i := 88) (by decide +kernel)), by decide +kernel⟩, ⟨kin4 (List.mem_of_getElem? (i := 89) (by decide +kernel)), by decide +kernel⟩⟩
theorem miX10_fault : kIn mX10_fault := ⟨⟨kin4 (List.mem_of_getElem? (i := 92) (by decide +kernel)), by decide +kernel⟩, ⟨kin4 (List.mem_of_getElem? (i := 93) (by decide +kernel)), by decide +kernel⟩⟩
theorem msX10_isEnd : kWd (.static yX10_isEnd) := ⟨kin4 (List.mem_of_getElem? (i := 96) (by decide +kernel)), by decide +kernel⟩
theorem miX10_faultOf : kIn mX10_faultOf := ⟨⟨kin4 (List.mem_of_getElem? (i := 100) (by decide +kernel)), by decide +kernel⟩, ⟨kinS (List.mem_of_getElem? (i := 8) (by decide +kernel)), by decide +kernel⟩⟩
theorem msX10_ruleStep : kWd (.static yX10_ruleStep) := ⟨kin4 (List.mem_of_getElem? (i := 103) (by decide +kernel)), by decide +kernel⟩
theorem msX10_isDigit : kWd (.static yX10_isDigit) := ⟨kin4 (List.mem_of_getElem? (i := 106) (by decide +kernel)), by decide +kernel⟩
theorem msX10_growthStep : kWd (.static yX10_growthStep) := ⟨kin4 (List.mem_of_getElem? (i := 111) (by decide +kernel)), by decide +kernel⟩
theorem miX10_take : kIn mX10_take := ⟨⟨kin4 (List.mem_of_getElem? (i := 114) (by decide +kernel)), by decide +kernel⟩, ⟨kin4 (List.mem_of_getElem? (i := 115) (by decide +kernel)), by decide +kernel⟩⟩
theorem miX10_takeRule : kIn mX10_takeRule := ⟨⟨kin4 (List.mem_of_getElem? (i := 119) (by decide +kernel)), by decide +kernel⟩, ⟨kinS (List.mem_of_getElem? (i := 9) (by decide +kernel)), by decide +kernel⟩⟩
theorem miX10_takeGrowth : kIn mX10_takeGrowth := ⟨⟨kin4 (List.mem_of_getElem? (i := 123) (by decide +kernel)), by decide +kernel⟩, ⟨kinS (List.mem_of_getElem? (i := 10) (by decide +kernel)), by decide +kernel⟩⟩
theorem miX10_line : kIn mX10_line := ⟨⟨kin4 (List.mem_of_getElem? (i := 126) (by decide +kernel)), by decide +kernel⟩, ⟨kin4 (List.mem_of_getElem? (i := 127) (by decide +kernel)), by decide +kernel⟩⟩
theorem miX10_lineOf : kIn mX10_lineOf := ⟨⟨kin4 (List.mem_of_getElem? (i := 131) (by decide +kernel)), by decide +kernel⟩, ⟨kinS (List.mem_of_getElem? (i := 11) (by decide +kernel)), by decide +kernel⟩⟩
theorem miX10_hump : kIn mX10_hump := ⟨⟨kin4 (List.mem_of_getElem? (i := 134) (by decide +kernel)), by decide +kernel⟩, ⟨kin4 (List.mem_of_getElem? (i := 135) (by decide +kernel)), by decide +kernel⟩⟩
theorem msX10_isWidth : kWd (.static yX10_isWidth) := ⟨kin4 (List.mem_of_getElem? (i := 138) (by decide +kernel)), by decide +kernel⟩
theorem msX10_humpOf : kWd (.static yX10_humpOf) := ⟨kin4 (List.mem_of_getElem? (i := 142) (by decide +kernel)), by decide +kernel⟩
theorem msX10_choose : kWd (.static yX10_choose) := ⟨kin4 (List.mem_of_getElem? (i := 145) (by decide +kernel)), by decide +kernel⟩
theorem miX10_upper : kIn mX10_upper := ⟨⟨kin4 (List.mem_of_getElem? (i := 148) (by decide +kernel)), by decide +kernel⟩, ⟨kin4 (List.mem_of_getElem? (i := 149) (by decide +kernel)), by decide +kernel⟩⟩
theorem msX10_lowest : kWd (.static yX10_lowest) := ⟨kin4 (List.mem_of_getElem? (i := 153) (by decide +kernel)), by decide +kernel⟩
theorem msX10_common : kWd (.static yX10_common) := ⟨kin4 (List.mem_of_getElem? (i := 156) (by decide +kernel)), by decide +kernel⟩
theorem miX10_misfit : kIn mX10_misfit := ⟨⟨kin4 (List.mem_of_getElem? (i := 159) (by decide +kernel)), by decide +kernel⟩, ⟨kin4 (List.mem_of_getElem? (i := 160) (by decide +kernel)), by decide +kernel⟩⟩
theorem miX10_findChosen : kIn mX10_findChosen := ⟨⟨kin4 (List.mem_of_getElem? (i := 164) (by decide +kernel)), by decide +kernel⟩, ⟨kinS (List.mem_of_getElem? (i := 12) (by decide +kernel)), by decide +kernel⟩⟩
theorem miX10_all : kIn mX10_all := ⟨⟨kin4 (List.mem_of_getElem? (i := 168) (by decide +kernel)), by decide +kernel⟩, ⟨kinS (List.mem_of_getElem? (i := 13) (by decide +kernel)), by decide +kernel⟩⟩
theorem miX10_misfitOf : kIn mX10_misfitOf := ⟨⟨kin4 (List.mem_of_getElem? (i := 172) (by decide +kernel)), by decide +kernel⟩, ⟨kinS (List.mem_of_getElem? (i := 14) (by decide +kernel)), by decide +kernel⟩⟩
theorem msX10_apart : kWd (.static yX10_apart) := ⟨kin4 (List.mem_of_getElem? (i := 175) (by decide +kernel)), by decide +kernel⟩
theorem miX10_fit : kIn mX10_fit := ⟨⟨kin4 (List.mem_of_getElem? (i := 178) (by decide +kernel)), by decide +kernel⟩, ⟨kin4 (List.mem_of_getElem? (i := 179) (by decide +kernel)), by decide +kernel⟩⟩
theorem miX10_findFit : kIn mX10_findFit := ⟨⟨kin4 (List.mem_of_getElem? (i := 183) (by decide +kernel)), by decide +kernel⟩, ⟨kinS (List.mem_of_getElem? (i := 15) (by decide +kernel)), by decide +kernel⟩⟩
theorem miX10_keepBest : kIn mX10_keepBest := ⟨⟨kin4 (List.mem_of_getElem? (i := 187) (by decide +kernel)), by decide +kernel⟩, ⟨kinS (List.mem_of_getElem? (i := 16) (by decide +kernel)), by decide +kernel⟩⟩
theorem miX10_span : kIn mX10_span := ⟨⟨kin4 (List.mem_of_getElem? (i := 190) (by decide +kernel)), by decide +kernel⟩, ⟨kin4 (List.mem_of_getElem? (i := 191) (by decide +kernel)), by decide +kernel⟩⟩
theorem miX10_findSpan : kIn mX10_findSpan := ⟨⟨kin4 (List.mem_of_getElem? (i := 195) (by decide +kernel)), by decide +kernel⟩, ⟨kinS (List.mem_of_getElem? (i := 17) (by decide +kernel)), by decide +kernel⟩⟩
theorem miX10_found : kIn mX10_found := ⟨⟨kin4 (List.mem_of_getElem? (i := 198) (by decide +kernel)), by decide +kernel⟩, ⟨kin4 (List.mem_of_getElem? (i := 199) (by decide +kernel)), by decide +kernel⟩⟩
theorem miX10_findLine : kIn mX10_findLine := ⟨⟨kin4 (List.mem_of_getElem? (i := 203) (by decide +kernel)), by decide +kernel⟩, ⟨kinS (List.mem_of_getElem? (i := 18) (by decide +kernel)), by decide +kernel⟩⟩
theorem miX10_written : kIn mX10_written := ⟨⟨kin4 (List.mem_of_getElem? (i := 206) (by decide +kernel)), by decide +kernel⟩, ⟨kin4 (List.mem_of_getElem? (i := 207) (by decide +kernel)), by decide +kernel⟩⟩
theorem miX10_writtenOf : kIn mX10_writtenOf := ⟨⟨kin4 (List.mem_of_getElem? (i := 211) (by decide +kernel)), by decide +kernel⟩, ⟨kinS (List.mem_of_getElem? (i := 19) (by decide +kernel)), by decide +kernel⟩⟩
theorem msX10_inchOf : kWd (.static yX10_inchOf) := ⟨kin4 (List.mem_of_getElem? (i := 214) (by decide +kernel)), by decide +kernel⟩
theorem miX10_back : kIn mX10_back := ⟨⟨kin4 (List.mem_of_getElem? (i := 218) (by decide +kernel)), by decide +kernel⟩, ⟨kin4 (List.mem_of_getElem? (i := 219) (by decide +kernel)), by decide +kernel⟩⟩
theorem miX10_pile : kIn mX10_pile := ⟨⟨kin4 (List.mem_of_getElem? (i := 222) (by decide +kernel)), by decide +kernel⟩, ⟨kin4 (List.mem_of_getElem? (i := 223) (by decide +kernel)), by decide +kernel⟩⟩
theorem miX10_grown : kIn mX10_grown := ⟨⟨kin4 (List.mem_of_getElem? (i := 227) (by decide +kernel)), by decide +kernel⟩, ⟨kin4 (List.mem_of_getElem? (i := 228) (by decide +kernel)), by decide +kernel⟩⟩
theorem miX10_grownFrom : kIn mX10_grownFrom := ⟨⟨kin4 (List.mem_of_getElem? (i := 232) (by decide +kernel)), by decide +kernel⟩, ⟨kinS (List.mem_of_getElem? (i := 20) (by decide +kernel)), by decide +kernel⟩⟩
theorem miX10_growsAt : kIn mX10_growsAt := ⟨⟨kin4 (List.mem_of_getElem? (i := 236) (by decide +kernel)), by decide +kernel⟩, ⟨kinS (List.mem_of_getElem? (i := 21) (by decide +kernel)), by decide +kernel⟩⟩
theorem miX10_meanGrown : kIn mX10_meanGrown := ⟨⟨kin5 (List.mem_of_getElem? (i := 0) (by decide +kernel)), by decide +kernel⟩, ⟨kinS (List.mem_of_getElem? (i := 22) (by decide +kernel)), by decide +kernel⟩⟩
theorem miX10_right : kIn mX10_right := ⟨⟨kin5 (List.mem_of_getElem? (i := 3) (by decide +kernel)), by decide +kernel⟩, ⟨kin5 (List.mem_of_getElem? (i := 4) (by decide +kernel)), by decide +kernel⟩⟩
theorem miX10_mix : kIn mX10_mix := ⟨⟨kin5 (List.mem_of_getElem? (i := 7) (by decide +kernel)), by decide +kernel⟩, ⟨kin5 (List.mem_of_getElem? (i := 8) (by decide +kernel)), by decide +kernel⟩⟩
theorem msX10_areHumps : kWd (.static yX10_areHumps) := ⟨kin5 (List.mem_of_getElem? (i := 11) (by decide +kernel)), by decide +kernel⟩
theorem msX10_isShare : kWd (.static yX10_isShare) := ⟨kin5 (List.mem_of_getElem? (i := 14) (by decide +kernel)), by decide +kernel⟩
theorem miX10_findMix : kIn mX10_findMix := ⟨⟨kin5 (List.mem_of_getElem? (i := 18) (by decide +kernel)), by decide +kernel⟩, ⟨kinS (List.mem_of_getElem? (i := 23) (by decide +kernel)), by decide +kernel⟩⟩
theorem miX10_fall : kIn mX10_fall := ⟨⟨kin5 (List.mem_of_getElem? (i := 22) (by decide +kernel)), by decide +kernel⟩, ⟨kin5 (List.mem_of_getElem? (i := 23) (by decide +kernel)), by decide +kernel⟩⟩
theorem msX10_less : kWd (.static yX10_less) := ⟨kin5 (List.mem_of_getElem? (i := 26) (by decide +kernel)), by decide +kernel⟩
theorem miX10_alone : kIn mX10_alone := ⟨⟨kin5 (List.mem_of_getElem? (i := 29) (by decide +kernel)), by decide +kernel⟩, ⟨kin5 (List.mem_of_getElem? (i := 30) (by decide +kernel)), by decide +kernel⟩⟩
theorem msX10_areShares : kWd (.static yX10_areShares) := ⟨kin5 (List.mem_of_getElem? (i := 33) (by decide +kernel)), by decide +kernel⟩
theorem miX10_findEnd : kIn mX10_findEnd := ⟨⟨kin5 (List.mem_of_getElem? (i := 37) (by decide +kernel)), by decide +kernel⟩, ⟨kinS (List.mem_of_getElem? (i := 24) (by decide +kernel)), by decide +kernel⟩⟩
theorem miX10_mean : kIn mX10_mean := ⟨⟨kin5 (List.mem_of_getElem? (i := 40) (by decide +kernel)), by decide +kernel⟩, ⟨kin5 (List.mem_of_getElem? (i := 41) (by decide +kernel)), by decide +kernel⟩⟩
theorem miX10_sumOf : kIn mX10_sumOf := ⟨⟨kin5 (List.mem_of_getElem? (i := 45) (by decide +kernel)), by decide +kernel⟩, ⟨kinS (List.mem_of_getElem? (i := 25) (by decide +kernel)), by decide +kernel⟩⟩
theorem miX10_mode : kIn mX10_mode := ⟨⟨kin5 (List.mem_of_getElem? (i := 48) (by decide +kernel)), by decide +kernel⟩, ⟨kin5 (List.mem_of_getElem? (i := 49) (by decide +kernel)), by decide +kernel⟩⟩
theorem miX10_modeOf : kIn mX10_modeOf := ⟨⟨kin5 (List.mem_of_getElem? (i := 53) (by decide +kernel)), by decide +kernel⟩, ⟨kinS (List.mem_of_getElem? (i := 26) (by decide +kernel)), by decide +kernel⟩⟩
theorem miX10_about : kIn mX10_about := ⟨⟨kin5 (List.mem_of_getElem? (i := 56) (by decide +kernel)), by decide +kernel⟩, ⟨kin5 (List.mem_of_getElem? (i := 57) (by decide +kernel)), by decide +kernel⟩⟩
theorem miX10_beside : kIn mX10_beside := ⟨⟨kin5 (List.mem_of_getElem? (i := 61) (by decide +kernel)), by decide +kernel⟩, ⟨kin5 (List.mem_of_getElem? (i := 62) (by decide +kernel)), by decide +kernel⟩⟩
theorem miX10_shorter : kIn mX10_shorter := ⟨⟨kin5 (List.mem_of_getElem? (i := 65) (by decide +kernel)), by decide +kernel⟩, ⟨kin5 (List.mem_of_getElem? (i := 66) (by decide +kernel)), by decide +kernel⟩⟩
theorem miX10_make : kIn mX10_make := ⟨⟨kin5 (List.mem_of_getElem? (i := 69) (by decide +kernel)), by decide +kernel⟩, ⟨kin5 (List.mem_of_getElem? (i := 70) (by decide +kernel)), by decide +kernel⟩⟩
theorem msX10_isWorld : kWd (.static yX10_isWorld) := ⟨kin5 (List.mem_of_getElem? (i := 73) (by decide +kernel)), by decide +kernel⟩
theorem miX10_makeIn : kIn mX10_makeIn := ⟨⟨kin5 (List.mem_of_getElem? (i := 79) (by decide +kernel)), by decide +kernel⟩, ⟨kinS (List.mem_of_getElem? (i := 27) (by decide +kernel)), by decide +kernel⟩⟩
theorem miX10_draw : kIn mX10_draw := ⟨⟨kin5 (List.mem_of_getElem? (i := 83) (by decide +kernel)), by decide +kernel⟩, ⟨kinS (List.mem_of_getElem? (i := 28) (by decide +kernel)), by decide +kernel⟩⟩
theorem miX10_heightOf : kIn mX10_heightOf := ⟨⟨kin5 (List.mem_of_getElem? (i := 88) (by decide +kernel)), by decide +kernel⟩, ⟨kinS (List.mem_of_getElem? (i := 29) (by decide +kernel)), by decide +kernel⟩⟩
theorem miX10_writtenAt : kIn mX10_writtenAt := ⟨⟨kin5 (List.mem_of_getElem? (i := 92) (by decide +kernel)), by decide +kernel⟩, ⟨kinS (List.mem_of_getElem? (i := 30) (by decide +kernel)), by decide +kernel⟩⟩
theorem miX10_off : kIn mX10_off := ⟨⟨kin5 (List.mem_of_getElem? (i := 95) (by decide +kernel)), by decide +kernel⟩, ⟨kin5 (List.mem_of_getElem? (i := 96) (by decide +kernel)), by decide +kernel⟩⟩
theorem miX10_offOf : kIn mX10_offOf := ⟨⟨kin5 (List.mem_of_getElem? (i := 101) (by decide +kernel)), by decide +kernel⟩, ⟨kinS (List.mem_of_getElem? (i := 31) (by decide +kernel)), by decide +kernel⟩⟩
theorem miX10_undone : kIn mX10_undone := ⟨⟨kin5 (List.mem_of_getElem? (i := 105) (by decide +kernel)), by decide +kernel⟩, ⟨kinS (List.mem_of_getElem? (i := 32) (by decide +kernel)), by decide +kernel⟩⟩
theorem miX10_best : kIn mX10_best := ⟨⟨kin5 (List.mem_of_getElem? (i := 108) (by decide +kernel)), by decide +kernel⟩, ⟨kin5 (List.mem_of_getElem? (i := 109) (by decide +kernel)), by decide +kernel⟩⟩
theorem miX10_image : kIn mX10_image := ⟨⟨kin5 (List.mem_of_getElem? (i := 112) (by decide +kernel)), by decide +kernel⟩, ⟨kin5 (List.mem_of_getElem? (i := 113) (by decide +kernel)), by decide +kernel⟩⟩
theorem miX10_passAll : kIn mX10_passAll := ⟨⟨kin5 (List.mem_of_getElem? (i := 117) (by decide +kernel)), by decide +kernel⟩, ⟨kinS (List.mem_of_getElem? (i := 33) (by decide +kernel)), by decide +kernel⟩⟩
theorem miX10_pass : kIn mX10_pass := ⟨⟨kin5 (List.mem_of_getElem? (i := 121) (by decide +kernel)), by decide +kernel⟩, ⟨kinS (List.mem_of_getElem? (i := 34) (by decide +kernel)), by decide +kernel⟩⟩
theorem miX10_restore : kIn mX10_restore := ⟨⟨kin5 (List.mem_of_getElem? (i := 124) (by decide +kernel)), by decide +kernel⟩, ⟨kin5 (List.mem_of_getElem? (i := 125) (by decide +kernel)), by decide +kernel⟩⟩
theorem miX10_told : kIn mX10_told := ⟨⟨kin5 (List.mem_of_getElem? (i := 128) (by decide +kernel)), by decide +kernel⟩, ⟨kin5 (List.mem_of_getElem? (i := 129) (by decide +kernel)), by decide +kernel⟩⟩
theorem cwL_7 : kWd (.classLink RL 7 RX9) := ⟨kin1 (List.mem_of_getElem? (i := 15) (by decide +kernel)), by decide +kernel⟩
theorem nwL_7 : kNw RL 7 7 8 tyX9 := ⟨_, _, clX9, cwL_7, wi_RX9⟩
theorem lkL_9 : kWd (.methodLink RL 9 yX9_init) := ⟨kin1 (List.mem_of_getElem? (i := 17) (by decide +kernel)), by decide +kernel⟩
theorem lkX9_1 : kWd (.methodLink RX9 1 Lib.objectInit) := ⟨kin1 (List.mem_of_getElem? (i := 20) (by decide +kernel)), by decide +kernel⟩
theorem kx_1_21 : kWd (Jvm.Cond.instanceMethod ({ cls := "java/lang/Object", name := "<init>", desc := "()V" } : Jvm.MethodName)) := ⟨kin1 (List.mem_of_getElem? (i := 21) (by decide +kernel)), by decide +kernel⟩
theorem kx_1_22 : kWd (Jvm.Cond.code ({ cls := "java/lang/Object", name := "<init>", desc := "()V" } : Jvm.MethodName) object_method_1_code (1 : Nat) (Option.none : Option Jvm.ClassFile.FieldType)) := ⟨kin1 (List.mem_of_getElem? (i := 22) (by decide +kernel)), by decide +kernel⟩
theorem cwX9_7 : kWd (.classLink RX9 7 RX7) := ⟨kin1 (List.mem_of_getElem? (i := 23) (by decide +kernel)), by decide +kernel⟩
theorem nwX9_7 : kNw RX9 7 5 2 tyX7 := ⟨_, _, clX7, cwX9_7, wi_RX7⟩
theorem lkX7_3 : kWd (.methodLink RX7 3 Lib.objectInit) := ⟨kin1 (List.mem_of_getElem? (i := 28) (by decide +kernel)), by decide +kernel⟩
theorem fdX7_9 : kFd RX7 9 5 0 := ⟨_, _, _, _, clX7, by decide, ⟨kin1 (List.mem_of_getElem? (i := 29) (by decide +kernel)), by decide +kernel⟩⟩
theorem pfX7_9 : kPf RX7 9 5 0 (.array .int) true := ⟨_, _, _, _, clX7, by decide, ⟨kin1 (List.mem_of_getElem? (i := 29) (by decide +kernel)), by decide +kernel⟩, rfl, by decide +kernel, fun _ => rfl⟩
theorem fdX7_15 : kFd RX7 15 5 1 := ⟨_, _, _, _, clX7, by decide, ⟨kin1 (List.mem_of_getElem? (i := 30) (by decide +kernel)), by decide +kernel⟩⟩
theorem pfX7_15 : kPf RX7 15 5 1 .int false := ⟨_, _, _, _, clX7, by decide, ⟨kin1 (List.mem_of_getElem? (i := 30) (by decide +kernel)), by decide +kernel⟩, rfl, by decide +kernel, fun h => by cases h⟩
theorem fdX1_11 : kFd RX1 11 5 1 := ⟨_, _, _, _, clX7, by decide, ⟨kin1 (List.mem_of_getElem? (i := 31) (by decide +kernel)), by decide +kernel⟩⟩
theorem pfX1_11 : kPf RX1 11 5 1 .int false := ⟨_, _, _, _, clX7, by decide, ⟨kin1 (List.mem_of_getElem? (i := 31) (by decide +kernel)), by decide +kernel⟩, rfl, by decide +kernel, fun h => by cases h⟩
theorem fdX5_7 : kFd RX5 7 5 1 := ⟨_, _, _, _, clX7, by decide, ⟨kin1 (List.mem_of_getElem? (i := 32) (by decide +kernel)), by decide +kernel⟩⟩
theorem pfX5_7 : kPf RX5 7 5 1 .int false := ⟨_, _, _, _, clX7, by decide, ⟨kin1 (List.mem_of_getElem? (i := 32) (by decide +kernel)), by decide +kernel⟩, rfl, by decide +kernel, fun h => by cases h⟩
theorem fdX9_106 : kFd RX9 106 5 1 := ⟨_, _, _, _, clX7, by decide, ⟨kin1 (List.mem_of_getElem? (i := 33) (by decide +kernel)), by decide +kernel⟩⟩
theorem pfX9_106 : kPf RX9 106 5 1 .int false := ⟨_, _, _, _, clX7, by decide, ⟨kin1 (List.mem_of_getElem? (i := 33) (by decide +kernel)), by decide +kernel⟩, rfl, by decide +kernel, fun h => by cases h⟩
theorem ka_int : kWd (.arrayClass .int) := ⟨kin1 (List.mem_of_getElem? (i := 39) (by decide +kernel)), by decide +kernel⟩
theorem cwX9_16 : kWd (.classLink RX9 16 RX2) := ⟨kin1 (List.mem_of_getElem? (i := 40) (by decide +kernel)), by decide +kernel⟩
theorem nwX9_16 : kNw RX9 16 1 4 tyX2 := ⟨_, _, clX2, cwX9_16, wi_RX2⟩
theorem lkX9_18 : kWd (.methodLink RX9 18 yX2_init) := ⟨kin1 (List.mem_of_getElem? (i := 42) (by decide +kernel)), by decide +kernel⟩
theorem lkX2_3 : kWd (.methodLink RX2 3 Lib.objectInit) := ⟨kin1 (List.mem_of_getElem? (i := 45) (by decide +kernel)), by decide +kernel⟩
theorem cwX2_9 : kWd (.classLink RX2 9 RX0) := ⟨kin1 (List.mem_of_getElem? (i := 46) (by decide +kernel)), by decide +kernel⟩
theorem nwX2_9 : kNw RX2 9 0 3 tyX0 := ⟨_, _, clX0, cwX2_9, wi_RX0⟩
theorem cwX2_17 : kWd (.classLink RX2 17 RX7) := ⟨kin1 (List.mem_of_getElem? (i := 48) (by decide +kernel)), by decide +kernel⟩
theorem nwX2_17 : kNw RX2 17 5 2 tyX7 := ⟨_, _, clX7, cwX2_17, wi_RX7⟩
theorem kx_1_51 : Jvm.Cond.laysStatic "KingsInches" "MOST_WAY" "[I" ∈ lw_tbl := (kin1 (List.mem_of_getElem? (i := 51) (by decide +kernel)))
theorem lkX0_3 : kWd (.methodLink RX0 3 Lib.objectInit) := ⟨kin1 (List.mem_of_getElem? (i := 56) (by decide +kernel)), by decide +kernel⟩
theorem kx_1_58 : Jvm.Cond.laysStatic "KingsInches" "FIRST_ENTRY" "[I" ∈ lw_tbl := (kin1 (List.mem_of_getElem? (i := 58) (by decide +kernel)))
theorem lkX0_18 : kWd (.methodLink RX0 18 ⟨"[I", "clone", "()Ljava/lang/Object;"⟩) := ⟨kin1 (List.mem_of_getElem? (i := 59) (by decide +kernel)), by decide +kernel⟩
theorem kx_1_60 : kWd (Jvm.Cond.sameMethod "[I" "java/lang/Object" "clone" "()Ljava/lang/Object;") := ⟨kin1 (List.mem_of_getElem? (i := 60) (by decide +kernel)), by decide +kernel⟩
theorem kx_1_61 : kWd (Jvm.Cond.native ({ cls := "java/lang/Object", name := "clone", desc := "()Ljava/lang/Object;" } : Jvm.MethodName)) := ⟨kin1 (List.mem_of_getElem? (i := 61) (by decide +kernel)), by decide +kernel⟩
theorem kx_1_62 : kWd (Jvm.Cond.instanceMethod ({ cls := "java/lang/Object", name := "clone", desc := "()Ljava/lang/Object;" } : Jvm.MethodName)) := ⟨kin1 (List.mem_of_getElem? (i := 62) (by decide +kernel)), by decide +kernel⟩
theorem kx_1_63 : kWd (Jvm.Cond.selects "[I" ({ cls := "[I", name := "clone", desc := "()Ljava/lang/Object;" } : Jvm.MethodName) ({ cls := "java/lang/Object", name := "clone", desc := "()Ljava/lang/Object;" } : Jvm.MethodName)) := ⟨kin1 (List.mem_of_getElem? (i := 63) (by decide +kernel)), by decide +kernel⟩
theorem cwX0_19 : kWd (.classLink RX0 19 "[I") := ⟨kin1 (List.mem_of_getElem? (i := 65) (by decide +kernel)), by decide +kernel⟩
theorem fdX0_9 : kFd RX0 9 0 0 := ⟨_, _, _, _, clX0, by decide, ⟨kin1 (List.mem_of_getElem? (i := 66) (by decide +kernel)), by decide +kernel⟩⟩
theorem pfX0_9 : kPf RX0 9 0 0 (.array .int) true := ⟨_, _, _, _, clX0, by decide, ⟨kin1 (List.mem_of_getElem? (i := 66) (by decide +kernel)), by decide +kernel⟩, rfl, by decide +kernel, fun _ => rfl⟩
theorem fdX0_23 : kFd RX0 23 0 1 := ⟨_, _, _, _, clX0, by decide, ⟨kin1 (List.mem_of_getElem? (i := 67) (by decide +kernel)), by decide +kernel⟩⟩
theorem pfX0_23 : kPf RX0 23 0 1 (.array .int) true := ⟨_, _, _, _, clX0, by decide, ⟨kin1 (List.mem_of_getElem? (i := 67) (by decide +kernel)), by decide +kernel⟩, rfl, by decide +kernel, fun _ => rfl⟩
theorem fdX8_34 : kFd RX8 34 0 2 := ⟨_, _, _, _, clX0, by decide, ⟨kin1 (List.mem_of_getElem? (i := 68) (by decide +kernel)), by decide +kernel⟩⟩
theorem pfX8_34 : kPf RX8 34 0 2 .int false := ⟨_, _, _, _, clX0, by decide, ⟨kin1 (List.mem_of_getElem? (i := 68) (by decide +kernel)), by decide +kernel⟩, rfl, by decide +kernel, fun h => by cases h⟩
theorem fdX0_30 : kFd RX0 30 0 2 := ⟨_, _, _, _, clX0, by decide, ⟨kin1 (List.mem_of_getElem? (i := 69) (by decide +kernel)), by decide +kernel⟩⟩
theorem pfX0_30 : kPf RX0 30 0 2 .int false := ⟨_, _, _, _, clX0, by decide, ⟨kin1 (List.mem_of_getElem? (i := 69) (by decide +kernel)), by decide +kernel⟩, rfl, by decide +kernel, fun h => by cases h⟩
theorem fdX4_56 : kFd RX4 56 0 2 := ⟨_, _, _, _, clX0, by decide, ⟨kin1 (List.mem_of_getElem? (i := 70) (by decide +kernel)), by decide +kernel⟩⟩
theorem pfX4_56 : kPf RX4 56 0 2 .int false := ⟨_, _, _, _, clX0, by decide, ⟨kin1 (List.mem_of_getElem? (i := 70) (by decide +kernel)), by decide +kernel⟩, rfl, by decide +kernel, fun h => by cases h⟩
theorem fdX9_205 : kFd RX9 205 0 2 := ⟨_, _, _, _, clX0, by decide, ⟨kin1 (List.mem_of_getElem? (i := 71) (by decide +kernel)), by decide +kernel⟩⟩
theorem pfX9_205 : kPf RX9 205 0 2 .int false := ⟨_, _, _, _, clX0, by decide, ⟨kin1 (List.mem_of_getElem? (i := 71) (by decide +kernel)), by decide +kernel⟩, rfl, by decide +kernel, fun h => by cases h⟩
theorem fdX2_11 : kFd RX2 11 1 0 := ⟨_, _, _, _, clX2, by decide, ⟨kin1 (List.mem_of_getElem? (i := 79) (by decide +kernel)), by decide +kernel⟩⟩
theorem pfX2_11 : kPf RX2 11 1 0 (.array (.object "KingsInches$Book")) true := ⟨_, _, _, _, clX2, by decide, ⟨kin1 (List.mem_of_getElem? (i := 79) (by decide +kernel)), by decide +kernel⟩, rfl, by decide +kernel, fun _ => rfl⟩
theorem fdX2_20 : kFd RX2 20 1 1 := ⟨_, _, _, _, clX2, by decide, ⟨kin1 (List.mem_of_getElem? (i := 80) (by decide +kernel)), by decide +kernel⟩⟩
theorem pfX2_20 : kPf RX2 20 1 1 (.object "KingsInches$Text") true := ⟨_, _, _, _, clX2, by decide, ⟨kin1 (List.mem_of_getElem? (i := 80) (by decide +kernel)), by decide +kernel⟩, rfl, by decide +kernel, fun _ => rfl⟩
theorem fdX9_119 : kFd RX9 119 1 1 := ⟨_, _, _, _, clX2, by decide, ⟨kin1 (List.mem_of_getElem? (i := 81) (by decide +kernel)), by decide +kernel⟩⟩
theorem fdX2_24 : kFd RX2 24 1 2 := ⟨_, _, _, _, clX2, by decide, ⟨kin1 (List.mem_of_getElem? (i := 82) (by decide +kernel)), by decide +kernel⟩⟩
theorem pfX2_24 : kPf RX2 24 1 2 (.object "KingsInches$Text") true := ⟨_, _, _, _, clX2, by decide, ⟨kin1 (List.mem_of_getElem? (i := 82) (by decide +kernel)), by decide +kernel⟩, rfl, by decide +kernel, fun _ => rfl⟩
theorem fdX9_122 : kFd RX9 122 1 2 := ⟨_, _, _, _, clX2, by decide, ⟨kin1 (List.mem_of_getElem? (i := 83) (by decide +kernel)), by decide +kernel⟩⟩
theorem fdX2_31 : kFd RX2 31 1 3 := ⟨_, _, _, _, clX2, by decide, ⟨kin1 (List.mem_of_getElem? (i := 84) (by decide +kernel)), by decide +kernel⟩⟩
theorem pfX2_31 : kPf RX2 31 1 3 (.array .int) true := ⟨_, _, _, _, clX2, by decide, ⟨kin1 (List.mem_of_getElem? (i := 84) (by decide +kernel)), by decide +kernel⟩, rfl, by decide +kernel, fun _ => rfl⟩
theorem cwX9_31 : kWd (.classLink RX9 31 RX3) := ⟨kin1 (List.mem_of_getElem? (i := 95) (by decide +kernel)), by decide +kernel⟩
theorem nwX9_31 : kNw RX9 31 2 1 tyX3 := ⟨_, _, clX3, cwX9_31, wi_RX3⟩
theorem lkX9_33 : kWd (.methodLink RX9 33 yX3_init) := ⟨kin1 (List.mem_of_getElem? (i := 97) (by decide +kernel)), by decide +kernel⟩
theorem lkX3_3 : kWd (.methodLink RX3 3 Lib.objectInit) := ⟨kin1 (List.mem_of_getElem? (i := 100) (by decide +kernel)), by decide +kernel⟩
theorem cwX3_9 : kWd (.classLink RX3 9 "[[I") := ⟨kin1 (List.mem_of_getElem? (i := 101) (by decide +kernel)), by decide +kernel⟩
theorem fdX3_11 : kFd RX3 11 2 0 := ⟨_, _, _, _, clX3, by decide, ⟨kin1 (List.mem_of_getElem? (i := 103) (by decide +kernel)), by decide +kernel⟩⟩
theorem pfX3_11 : kPf RX3 11 2 0 (.array (.array .int)) true := ⟨_, _, _, _, clX3, by decide, ⟨kin1 (List.mem_of_getElem? (i := 103) (by decide +kernel)), by decide +kernel⟩, rfl, by decide +kernel, fun _ => rfl⟩
theorem ka_boolean : kWd (.arrayClass .boolean) := ⟨kin1 (List.mem_of_getElem? (i := 107) (by decide +kernel)), by decide +kernel⟩
theorem cwX9_38 : kWd (.classLink RX9 38 RX8) := ⟨kin1 (List.mem_of_getElem? (i := 108) (by decide +kernel)), by decide +kernel⟩
theorem nwX9_38 : kNw RX9 38 6 7 tyX8 := ⟨_, _, clX8, cwX9_38, wi_RX8⟩
theorem lkX9_40 : kWd (.methodLink RX9 40 yX8_init) := ⟨kin1 (List.mem_of_getElem? (i := 110) (by decide +kernel)), by decide +kernel⟩
theorem lkX8_3 : kWd (.methodLink RX8 3 Lib.objectInit) := ⟨kin1 (List.mem_of_getElem? (i := 113) (by decide +kernel)), by decide +kernel⟩
theorem fdX8_15 : kFd RX8 15 6 0 := ⟨_, _, _, _, clX8, by decide, ⟨kin1 (List.mem_of_getElem? (i := 114) (by decide +kernel)), by decide +kernel⟩⟩
theorem pfX8_15 : kPf RX8 15 6 0 (.object "KingsInches$Humps") true := ⟨_, _, _, _, clX8, by decide, ⟨kin1 (List.mem_of_getElem? (i := 114) (by decide +kernel)), by decide +kernel⟩, rfl, by decide +kernel, fun _ => rfl⟩
theorem fdX8_9 : kFd RX8 9 6 1 := ⟨_, _, _, _, clX8, by decide, ⟨kin1 (List.mem_of_getElem? (i := 115) (by decide +kernel)), by decide +kernel⟩⟩
theorem pfX8_9 : kPf RX8 9 6 1 (.array .long) true := ⟨_, _, _, _, clX8, by decide, ⟨kin1 (List.mem_of_getElem? (i := 115) (by decide +kernel)), by decide +kernel⟩, rfl, by decide +kernel, fun _ => rfl⟩
theorem fdX8_71 : kFd RX8 71 6 2 := ⟨_, _, _, _, clX8, by decide, ⟨kin1 (List.mem_of_getElem? (i := 116) (by decide +kernel)), by decide +kernel⟩⟩
theorem pfX8_71 : kPf RX8 71 6 2 .int false := ⟨_, _, _, _, clX8, by decide, ⟨kin1 (List.mem_of_getElem? (i := 116) (by decide +kernel)), by decide +kernel⟩, rfl, by decide +kernel, fun h => by cases h⟩
theorem fdX9_190 : kFd RX9 190 6 2 := ⟨_, _, _, _, clX8, by decide, ⟨kin1 (List.mem_of_getElem? (i := 117) (by decide +kernel)), by decide +kernel⟩⟩
theorem pfX9_190 : kPf RX9 190 6 2 .int false := ⟨_, _, _, _, clX8, by decide, ⟨kin1 (List.mem_of_getElem? (i := 117) (by decide +kernel)), by decide +kernel⟩, rfl, by decide +kernel, fun h => by cases h⟩
theorem fdX8_62 : kFd RX8 62 6 3 := ⟨_, _, _, _, clX8, by decide, ⟨kin1 (List.mem_of_getElem? (i := 118) (by decide +kernel)), by decide +kernel⟩⟩
theorem pfX8_62 : kPf RX8 62 6 3 .int false := ⟨_, _, _, _, clX8, by decide, ⟨kin1 (List.mem_of_getElem? (i := 118) (by decide +kernel)), by decide +kernel⟩, rfl, by decide +kernel, fun h => by cases h⟩
theorem fdX9_171 : kFd RX9 171 6 3 := ⟨_, _, _, _, clX8, by decide, ⟨kin1 (List.mem_of_getElem? (i := 119) (by decide +kernel)), by decide +kernel⟩⟩
theorem pfX9_171 : kPf RX9 171 6 3 .int false := ⟨_, _, _, _, clX8, by decide, ⟨kin1 (List.mem_of_getElem? (i := 119) (by decide +kernel)), by decide +kernel⟩, rfl, by decide +kernel, fun h => by cases h⟩
theorem fdX8_47 : kFd RX8 47 6 4 := ⟨_, _, _, _, clX8, by decide, ⟨kin1 (List.mem_of_getElem? (i := 120) (by decide +kernel)), by decide +kernel⟩⟩
theorem pfX8_47 : kPf RX8 47 6 4 .int false := ⟨_, _, _, _, clX8, by decide, ⟨kin1 (List.mem_of_getElem? (i := 120) (by decide +kernel)), by decide +kernel⟩, rfl, by decide +kernel, fun h => by cases h⟩
theorem fdX9_174 : kFd RX9 174 6 4 := ⟨_, _, _, _, clX8, by decide, ⟨kin1 (List.mem_of_getElem? (i := 121) (by decide +kernel)), by decide +kernel⟩⟩
theorem pfX9_174 : kPf RX9 174 6 4 .int false := ⟨_, _, _, _, clX8, by decide, ⟨kin1 (List.mem_of_getElem? (i := 121) (by decide +kernel)), by decide +kernel⟩, rfl, by decide +kernel, fun h => by cases h⟩
theorem fdX8_65 : kFd RX8 65 6 5 := ⟨_, _, _, _, clX8, by decide, ⟨kin1 (List.mem_of_getElem? (i := 122) (by decide +kernel)), by decide +kernel⟩⟩
theorem pfX8_65 : kPf RX8 65 6 5 .int false := ⟨_, _, _, _, clX8, by decide, ⟨kin1 (List.mem_of_getElem? (i := 122) (by decide +kernel)), by decide +kernel⟩, rfl, by decide +kernel, fun h => by cases h⟩
theorem fdX9_181 : kFd RX9 181 6 5 := ⟨_, _, _, _, clX8, by decide, ⟨kin1 (List.mem_of_getElem? (i := 123) (by decide +kernel)), by decide +kernel⟩⟩
theorem pfX9_181 : kPf RX9 181 6 5 .int false := ⟨_, _, _, _, clX8, by decide, ⟨kin1 (List.mem_of_getElem? (i := 123) (by decide +kernel)), by decide +kernel⟩, rfl, by decide +kernel, fun h => by cases h⟩
theorem fdX8_68 : kFd RX8 68 6 6 := ⟨_, _, _, _, clX8, by decide, ⟨kin1 (List.mem_of_getElem? (i := 124) (by decide +kernel)), by decide +kernel⟩⟩
theorem pfX8_68 : kPf RX8 68 6 6 .int false := ⟨_, _, _, _, clX8, by decide, ⟨kin1 (List.mem_of_getElem? (i := 124) (by decide +kernel)), by decide +kernel⟩, rfl, by decide +kernel, fun h => by cases h⟩
theorem fdX9_184 : kFd RX9 184 6 6 := ⟨_, _, _, _, clX8, by decide, ⟨kin1 (List.mem_of_getElem? (i := 125) (by decide +kernel)), by decide +kernel⟩⟩
theorem pfX9_184 : kPf RX9 184 6 6 .int false := ⟨_, _, _, _, clX8, by decide, ⟨kin1 (List.mem_of_getElem? (i := 125) (by decide +kernel)), by decide +kernel⟩, rfl, by decide +kernel, fun h => by cases h⟩
theorem ka_long : kWd (.arrayClass .long) := ⟨kin1 (List.mem_of_getElem? (i := 141) (by decide +kernel)), by decide +kernel⟩
theorem cwX9_47 : kWd (.classLink RX9 47 RX4) := ⟨kin1 (List.mem_of_getElem? (i := 142) (by decide +kernel)), by decide +kernel⟩
theorem nwX9_47 : kNw RX9 47 3 2 tyX4 := ⟨_, _, clX4, cwX9_47, wi_RX4⟩
theorem lkX9_49 : kWd (.methodLink RX9 49 yX4_init) := ⟨kin1 (List.mem_of_getElem? (i := 144) (by decide +kernel)), by decide +kernel⟩
theorem lkX4_3 : kWd (.methodLink RX4 3 Lib.objectInit) := ⟨kin1 (List.mem_of_getElem? (i := 147) (by decide +kernel)), by decide +kernel⟩
theorem fdX4_9 : kFd RX4 9 3 0 := ⟨_, _, _, _, clX4, by decide, ⟨kin1 (List.mem_of_getElem? (i := 148) (by decide +kernel)), by decide +kernel⟩⟩
theorem pfX4_9 : kPf RX4 9 3 0 (.object "KingsInches$Humps") true := ⟨_, _, _, _, clX4, by decide, ⟨kin1 (List.mem_of_getElem? (i := 148) (by decide +kernel)), by decide +kernel⟩, rfl, by decide +kernel, fun _ => rfl⟩
theorem fdX4_15 : kFd RX4 15 3 1 := ⟨_, _, _, _, clX4, by decide, ⟨kin1 (List.mem_of_getElem? (i := 149) (by decide +kernel)), by decide +kernel⟩⟩
theorem pfX4_15 : kPf RX4 15 3 1 .int false := ⟨_, _, _, _, clX4, by decide, ⟨kin1 (List.mem_of_getElem? (i := 149) (by decide +kernel)), by decide +kernel⟩, rfl, by decide +kernel, fun h => by cases h⟩
theorem cwX9_54 : kWd (.classLink RX9 54 RX0) := ⟨kin1 (List.mem_of_getElem? (i := 155) (by decide +kernel)), by decide +kernel⟩
theorem nwX9_54 : kNw RX9 54 0 3 tyX0 := ⟨_, _, clX0, cwX9_54, wi_RX0⟩
theorem fdX9_10 : kFd RX9 10 7 0 := ⟨_, _, _, _, clX9, by decide, ⟨kin1 (List.mem_of_getElem? (i := 157) (by decide +kernel)), by decide +kernel⟩⟩
theorem pfX9_10 : kPf RX9 10 7 0 (.object "KingsInches$Text") true := ⟨_, _, _, _, clX9, by decide, ⟨kin1 (List.mem_of_getElem? (i := 157) (by decide +kernel)), by decide +kernel⟩, rfl, by decide +kernel, fun _ => rfl⟩
theorem fdX9_19 : kFd RX9 19 7 1 := ⟨_, _, _, _, clX9, by decide, ⟨kin1 (List.mem_of_getElem? (i := 158) (by decide +kernel)), by decide +kernel⟩⟩
theorem pfX9_19 : kPf RX9 19 7 1 (.object "KingsInches$Holding") true := ⟨_, _, _, _, clX9, by decide, ⟨kin1 (List.mem_of_getElem? (i := 158) (by decide +kernel)), by decide +kernel⟩, rfl, by decide +kernel, fun _ => rfl⟩
theorem fdX9_23 : kFd RX9 23 7 2 := ⟨_, _, _, _, clX9, by decide, ⟨kin1 (List.mem_of_getElem? (i := 159) (by decide +kernel)), by decide +kernel⟩⟩
theorem pfX9_23 : kPf RX9 23 7 2 (.array (.object "KingsInches$Holding")) true := ⟨_, _, _, _, clX9, by decide, ⟨kin1 (List.mem_of_getElem? (i := 159) (by decide +kernel)), by decide +kernel⟩, rfl, by decide +kernel, fun _ => rfl⟩
theorem fdX9_27 : kFd RX9 27 7 3 := ⟨_, _, _, _, clX9, by decide, ⟨kin1 (List.mem_of_getElem? (i := 160) (by decide +kernel)), by decide +kernel⟩⟩
theorem pfX9_27 : kPf RX9 27 7 3 (.array .boolean) true := ⟨_, _, _, _, clX9, by decide, ⟨kin1 (List.mem_of_getElem? (i := 160) (by decide +kernel)), by decide +kernel⟩, rfl, by decide +kernel, fun _ => rfl⟩
theorem fdX9_34 : kFd RX9 34 7 4 := ⟨_, _, _, _, clX9, by decide, ⟨kin1 (List.mem_of_getElem? (i := 161) (by decide +kernel)), by decide +kernel⟩⟩
theorem pfX9_34 : kPf RX9 34 7 4 (.object "KingsInches$Humps") true := ⟨_, _, _, _, clX9, by decide, ⟨kin1 (List.mem_of_getElem? (i := 161) (by decide +kernel)), by decide +kernel⟩, rfl, by decide +kernel, fun _ => rfl⟩
theorem fdX9_43 : kFd RX9 43 7 5 := ⟨_, _, _, _, clX9, by decide, ⟨kin1 (List.mem_of_getElem? (i := 162) (by decide +kernel)), by decide +kernel⟩⟩
theorem pfX9_43 : kPf RX9 43 7 5 (.object "KingsInches$Undoing") true := ⟨_, _, _, _, clX9, by decide, ⟨kin1 (List.mem_of_getElem? (i := 162) (by decide +kernel)), by decide +kernel⟩, rfl, by decide +kernel, fun _ => rfl⟩
theorem fdX9_50 : kFd RX9 50 7 6 := ⟨_, _, _, _, clX9, by decide, ⟨kin1 (List.mem_of_getElem? (i := 163) (by decide +kernel)), by decide +kernel⟩⟩
theorem pfX9_50 : kPf RX9 50 7 6 (.object "KingsInches$Maker") true := ⟨_, _, _, _, clX9, by decide, ⟨kin1 (List.mem_of_getElem? (i := 163) (by decide +kernel)), by decide +kernel⟩, rfl, by decide +kernel, fun _ => rfl⟩
theorem fdX9_57 : kFd RX9 57 7 7 := ⟨_, _, _, _, clX9, by decide, ⟨kin1 (List.mem_of_getElem? (i := 164) (by decide +kernel)), by decide +kernel⟩⟩
theorem pfX9_57 : kPf RX9 57 7 7 (.object "KingsInches$Book") true := ⟨_, _, _, _, clX9, by decide, ⟨kin1 (List.mem_of_getElem? (i := 164) (by decide +kernel)), by decide +kernel⟩, rfl, by decide +kernel, fun _ => rfl⟩
theorem lkL_13 : kWd (.methodLink RL 13 yX9_men) := ⟨kin1 (List.mem_of_getElem? (i := 182) (by decide +kernel)), by decide +kernel⟩
theorem lkX9_61 : kWd (.methodLink RX9 61 yX2_bookAt) := ⟨kin1 (List.mem_of_getElem? (i := 186) (by decide +kernel)), by decide +kernel⟩
theorem lkX9_65 : kWd (.methodLink RX9 65 yX9_isHeight) := ⟨kin1 (List.mem_of_getElem? (i := 193) (by decide +kernel)), by decide +kernel⟩
theorem lkX9_69 : kWd (.methodLink RX9 69 yX9_within) := ⟨kin1 (List.mem_of_getElem? (i := 196) (by decide +kernel)), by decide +kernel⟩
theorem lkX9_73 : kWd (.methodLink RX9 73 yX0_menAt) := ⟨kin1 (List.mem_of_getElem? (i := 197) (by decide +kernel)), by decide +kernel⟩
theorem lkX9_77 : kWd (.methodLink RX9 77 yX0_put) := ⟨kin1 (List.mem_of_getElem? (i := 201) (by decide +kernel)), by decide +kernel⟩
theorem lkL_18 : kWd (.methodLink RL 18 yX9_set) := ⟨kin1 (List.mem_of_getElem? (i := 206) (by decide +kernel)), by decide +kernel⟩
theorem slX9_81 : kWd (.fieldLink RX9 81 RX9 "LEAST_ENTRY" "[I") := ⟨kin1 (List.mem_of_getElem? (i := 210) (by decide +kernel)), by decide +kernel⟩
theorem kx_1_211 : Jvm.Cond.laysStatic "KingsInches" "LEAST_ENTRY" "[I" ∈ lw_tbl := (kin1 (List.mem_of_getElem? (i := 211) (by decide +kernel)))
theorem slX9_85 : kWd (.fieldLink RX9 85 RX9 "MOST_ENTRY" "[I") := ⟨kin1 (List.mem_of_getElem? (i := 212) (by decide +kernel)), by decide +kernel⟩
theorem kx_1_213 : Jvm.Cond.laysStatic "KingsInches" "MOST_ENTRY" "[I" ∈ lw_tbl := (kin1 (List.mem_of_getElem? (i := 213) (by decide +kernel)))
theorem lkX9_88 : kWd (.methodLink RX9 88 yX0_entry) := ⟨kin1 (List.mem_of_getElem? (i := 214) (by decide +kernel)), by decide +kernel⟩
theorem lkX9_91 : kWd (.methodLink RX9 91 yX0_enter) := ⟨kin1 (List.mem_of_getElem? (i := 219) (by decide +kernel)), by decide +kernel⟩
theorem lkL_22 : kWd (.methodLink RL 22 yX9_way) := ⟨kin1 (List.mem_of_getElem? (i := 223) (by decide +kernel)), by decide +kernel⟩
theorem slX9_94 : kWd (.fieldLink RX9 94 RX9 "MOST_WAY" "[I") := ⟨kin1 (List.mem_of_getElem? (i := 227) (by decide +kernel)), by decide +kernel⟩
theorem lkX9_97 : kWd (.methodLink RX9 97 yX2_wayOf) := ⟨kin1 (List.mem_of_getElem? (i := 228) (by decide +kernel)), by decide +kernel⟩
theorem lkX9_100 : kWd (.methodLink RX9 100 yX2_turn) := ⟨kin1 (List.mem_of_getElem? (i := 232) (by decide +kernel)), by decide +kernel⟩
theorem lkL_27 : kWd (.methodLink RL 27 yX9_say) := ⟨kin1 (List.mem_of_getElem? (i := 236) (by decide +kernel)), by decide +kernel⟩
theorem lkX9_103 : kWd (.methodLink RX9 103 yX7_add) := ⟨kin2 (List.mem_of_getElem? (i := 0) (by decide +kernel)), by decide +kernel⟩
theorem lkL_32 : kWd (.methodLink RL 32 yX9_wipe) := ⟨kin2 (List.mem_of_getElem? (i := 4) (by decide +kernel)), by decide +kernel⟩
theorem lkX9_110 : kWd (.methodLink RX9 110 yX7_clear) := ⟨kin2 (List.mem_of_getElem? (i := 8) (by decide +kernel)), by decide +kernel⟩
theorem lkL_37 : kWd (.methodLink RL 37 yX9_fault) := ⟨kin2 (List.mem_of_getElem? (i := 12) (by decide +kernel)), by decide +kernel⟩
theorem lkX9_113 : kWd (.methodLink RX9 113 yX1_faultOf) := ⟨kin2 (List.mem_of_getElem? (i := 16) (by decide +kernel)), by decide +kernel⟩
theorem lkX1_17 : kWd (.methodLink RX1 17 yX7_signAt) := ⟨kin2 (List.mem_of_getElem? (i := 19) (by decide +kernel)), by decide +kernel⟩
theorem lkX1_21 : kWd (.methodLink RX1 21 yX1_after) := ⟨kin2 (List.mem_of_getElem? (i := 23) (by decide +kernel)), by decide +kernel⟩
theorem lkX1_25 : kWd (.methodLink RX1 25 yX1_beginTest) := ⟨kin2 (List.mem_of_getElem? (i := 26) (by decide +kernel)), by decide +kernel⟩
theorem lkX1_28 : kWd (.methodLink RX1 28 yX1_isDigit) := ⟨kin2 (List.mem_of_getElem? (i := 29) (by decide +kernel)), by decide +kernel⟩
theorem lkX1_32 : kWd (.methodLink RX1 32 yX1_endTest) := ⟨kin2 (List.mem_of_getElem? (i := 32) (by decide +kernel)), by decide +kernel⟩
theorem lkX1_35 : kWd (.methodLink RX1 35 yX1_endPiece) := ⟨kin2 (List.mem_of_getElem? (i := 35) (by decide +kernel)), by decide +kernel⟩
theorem lkX1_38 : kWd (.methodLink RX1 38 yX1_afterInGrowth) := ⟨kin2 (List.mem_of_getElem? (i := 38) (by decide +kernel)), by decide +kernel⟩
theorem lkX1_41 : kWd (.methodLink RX1 41 yX1_endAge) := ⟨kin2 (List.mem_of_getElem? (i := 41) (by decide +kernel)), by decide +kernel⟩
theorem lkL_41 : kWd (.methodLink RL 41 yX9_take) := ⟨kin2 (List.mem_of_getElem? (i := 44) (by decide +kernel)), by decide +kernel⟩
theorem lkX9_125 : kWd (.methodLink RX9 125 yX7_copyFrom) := ⟨kin2 (List.mem_of_getElem? (i := 48) (by decide +kernel)), by decide +kernel⟩
theorem lkX7_19 : kWd (.methodLink RX7 19 ⟨"java/lang/System", "arraycopy", "(Ljava/lang/Object;ILjava/lang/Object;II)V"⟩) := ⟨kin2 (List.mem_of_getElem? (i := 52) (by decide +kernel)), by decide +kernel⟩
theorem kx_2_53 : kWd (Jvm.Cond.static ({ cls := "java/lang/System", name := "arraycopy", desc := "(Ljava/lang/Object;ILjava/lang/Object;II)V" } : Jvm.MethodName)) := ⟨kin2 (List.mem_of_getElem? (i := 53) (by decide +kernel)), by decide +kernel⟩
theorem kx_2_54 : kWd (Jvm.Cond.native ({ cls := "java/lang/System", name := "arraycopy", desc := "(Ljava/lang/Object;ILjava/lang/Object;II)V" } : Jvm.MethodName)) := ⟨kin2 (List.mem_of_getElem? (i := 54) (by decide +kernel)), by decide +kernel⟩
theorem lkX9_129 : kWd (.methodLink RX9 129 yX7_pieces) := ⟨kin2 (List.mem_of_getElem? (i := 55) (by decide +kernel)), by decide +kernel⟩
theorem lkX7_25 : kWd (.methodLink RX7 25 yX7_signAt) := ⟨kin2 (List.mem_of_getElem? (i := 59) (by decide +kernel)), by decide +kernel⟩
theorem lkL_45 : kWd (.methodLink RL 45 yX9_line) := ⟨kin2 (List.mem_of_getElem? (i := 60) (by decide +kernel)), by decide +kernel⟩
theorem lkX9_133 : kWd (.methodLink RX9 133 yX2_lineOf) := ⟨kin2 (List.mem_of_getElem? (i := 64) (by decide +kernel)), by decide +kernel⟩
theorem lkX2_52 : kWd (.methodLink RX2 52 yX0_entry) := ⟨kin2 (List.mem_of_getElem? (i := 68) (by decide +kernel)), by decide +kernel⟩
theorem lkX2_56 : kWd (.methodLink RX2 56 yX5_lineBy) := ⟨kin2 (List.mem_of_getElem? (i := 69) (by decide +kernel)), by decide +kernel⟩
theorem lkX5_13 : kWd (.methodLink RX5 13 yX7_signAt) := ⟨kin2 (List.mem_of_getElem? (i := 72) (by decide +kernel)), by decide +kernel⟩
theorem lkX5_17 : kWd (.methodLink RX5 17 yX1_isDigit) := ⟨kin2 (List.mem_of_getElem? (i := 73) (by decide +kernel)), by decide +kernel⟩
theorem lkX5_23 : kWd (.methodLink RX5 23 yX5_holds) := ⟨kin2 (List.mem_of_getElem? (i := 74) (by decide +kernel)), by decide +kernel⟩
theorem lkX2_62 : kWd (.methodLink RX2 62 yJ9_min_7cf53) := ⟨kin2 (List.mem_of_getElem? (i := 77) (by decide +kernel)), by decide +kernel⟩
theorem lkL_49 : kWd (.methodLink RL 49 yX9_hump) := ⟨kin2 (List.mem_of_getElem? (i := 80) (by decide +kernel)), by decide +kernel⟩
theorem lkX9_137 : kWd (.methodLink RX9 137 yX9_isHump) := ⟨kin2 (List.mem_of_getElem? (i := 84) (by decide +kernel)), by decide +kernel⟩
theorem lkX9_164 : kWd (.methodLink RX9 164 yX9_isWidth) := ⟨kin2 (List.mem_of_getElem? (i := 87) (by decide +kernel)), by decide +kernel⟩
theorem lkX9_141 : kWd (.methodLink RX9 141 yX3_menAt) := ⟨kin2 (List.mem_of_getElem? (i := 90) (by decide +kernel)), by decide +kernel⟩
theorem lkX3_16 : kWd (.methodLink RX3 16 yX3_waysOf) := ⟨kin2 (List.mem_of_getElem? (i := 94) (by decide +kernel)), by decide +kernel⟩
theorem lkL_53 : kWd (.methodLink RL 53 yX9_upper) := ⟨kin2 (List.mem_of_getElem? (i := 98) (by decide +kernel)), by decide +kernel⟩
theorem lkX9_144 : kWd (.methodLink RX9 144 yX9_isPart) := ⟨kin2 (List.mem_of_getElem? (i := 102) (by decide +kernel)), by decide +kernel⟩
theorem kcX9_147 : kWd (.constantLong RX9 147 (-1000000000000000002)) := ⟨kin2 (List.mem_of_getElem? (i := 105) (by decide +kernel)), by decide +kernel⟩
theorem lkX9_149 : kWd (.methodLink RX9 149 yX3_countFrom) := ⟨kin2 (List.mem_of_getElem? (i := 106) (by decide +kernel)), by decide +kernel⟩
theorem lkX3_20 : kWd (.methodLink RX3 20 yJ9_max_7cf53) := ⟨kin2 (List.mem_of_getElem? (i := 110) (by decide +kernel)), by decide +kernel⟩
theorem lkX3_25 : kWd (.methodLink RX3 25 yX3_menAt) := ⟨kin2 (List.mem_of_getElem? (i := 113) (by decide +kernel)), by decide +kernel⟩
theorem lkX9_153 : kWd (.methodLink RX9 153 yX9_tell) := ⟨kin2 (List.mem_of_getElem? (i := 114) (by decide +kernel)), by decide +kernel⟩
theorem lkX9_304 : kWd (.methodLink RX9 304 yJ9_abs_067f4) := ⟨kin2 (List.mem_of_getElem? (i := 117) (by decide +kernel)), by decide +kernel⟩
theorem lkX9_307 : kWd (.methodLink RX9 307 yX9_commonDivisor) := ⟨kin2 (List.mem_of_getElem? (i := 120) (by decide +kernel)), by decide +kernel⟩
theorem lkX9_311 : kWd (.methodLink RX9 311 yJ9_max_f86c9) := ⟨kin2 (List.mem_of_getElem? (i := 123) (by decide +kernel)), by decide +kernel⟩
theorem lkX9_157 : kWd (.methodLink RX9 157 yX3_sumFrom) := ⟨kin2 (List.mem_of_getElem? (i := 126) (by decide +kernel)), by decide +kernel⟩
theorem lkL_58 : kWd (.methodLink RL 58 yX9_misfit) := ⟨kin2 (List.mem_of_getElem? (i := 130) (by decide +kernel)), by decide +kernel⟩
theorem lkX9_160 : kWd (.methodLink RX9 160 yX8_misfitOf) := ⟨kin2 (List.mem_of_getElem? (i := 134) (by decide +kernel)), by decide +kernel⟩
theorem lkX8_19 : kWd (.methodLink RX8 19 yJ9_max_7cf53) := ⟨kin2 (List.mem_of_getElem? (i := 138) (by decide +kernel)), by decide +kernel⟩
theorem lkX8_25 : kWd (.methodLink RX8 25 yJ9_min_7cf53) := ⟨kin2 (List.mem_of_getElem? (i := 139) (by decide +kernel)), by decide +kernel⟩
theorem lkX8_28 : kWd (.methodLink RX8 28 yX3_menAt) := ⟨kin2 (List.mem_of_getElem? (i := 140) (by decide +kernel)), by decide +kernel⟩
theorem lkX8_40 : kWd (.methodLink RX8 40 yX0_menAt) := ⟨kin2 (List.mem_of_getElem? (i := 141) (by decide +kernel)), by decide +kernel⟩
theorem lkX8_43 : kWd (.methodLink RX8 43 yJ9_abs_067f4) := ⟨kin2 (List.mem_of_getElem? (i := 142) (by decide +kernel)), by decide +kernel⟩
theorem lkL_63 : kWd (.methodLink RL 63 yX9_fit) := ⟨kin2 (List.mem_of_getElem? (i := 143) (by decide +kernel)), by decide +kernel⟩
theorem lkX9_167 : kWd (.methodLink RX9 167 yX9_seekMiddle) := ⟨kin2 (List.mem_of_getElem? (i := 147) (by decide +kernel)), by decide +kernel⟩
theorem lkX9_278 : kWd (.methodLink RX9 278 yX8_seekMiddle) := ⟨kin2 (List.mem_of_getElem? (i := 151) (by decide +kernel)), by decide +kernel⟩
theorem lkX8_50 : kWd (.methodLink RX8 50 yX8_misfitOf) := ⟨kin2 (List.mem_of_getElem? (i := 155) (by decide +kernel)), by decide +kernel⟩
theorem lkX8_54 : kWd (.methodLink RX8 54 yX8_offer) := ⟨kin2 (List.mem_of_getElem? (i := 156) (by decide +kernel)), by decide +kernel⟩
theorem lkL_67 : kWd (.methodLink RL 67 yX9_span) := ⟨kin2 (List.mem_of_getElem? (i := 160) (by decide +kernel)), by decide +kernel⟩
theorem lkX9_177 : kWd (.methodLink RX9 177 yX9_seekSpan) := ⟨kin2 (List.mem_of_getElem? (i := 164) (by decide +kernel)), by decide +kernel⟩
theorem lkX9_281 : kWd (.methodLink RX9 281 yX8_seekSpan) := ⟨kin2 (List.mem_of_getElem? (i := 168) (by decide +kernel)), by decide +kernel⟩
theorem lkX8_58 : kWd (.methodLink RX8 58 yX8_seekMiddle) := ⟨kin2 (List.mem_of_getElem? (i := 172) (by decide +kernel)), by decide +kernel⟩
theorem lkL_71 : kWd (.methodLink RL 71 yX9_found) := ⟨kin2 (List.mem_of_getElem? (i := 173) (by decide +kernel)), by decide +kernel⟩
theorem lkX9_187 : kWd (.methodLink RX9 187 yX8_seekLine) := ⟨kin2 (List.mem_of_getElem? (i := 177) (by decide +kernel)), by decide +kernel⟩
theorem lkL_75 : kWd (.methodLink RL 75 yX9_written) := ⟨kin2 (List.mem_of_getElem? (i := 181) (by decide +kernel)), by decide +kernel⟩
theorem lkX9_193 : kWd (.methodLink RX9 193 yX2_hundredths) := ⟨kin2 (List.mem_of_getElem? (i := 185) (by decide +kernel)), by decide +kernel⟩
theorem lkX2_72 : kWd (.methodLink RX2 72 yX2_wayOf) := ⟨kin2 (List.mem_of_getElem? (i := 189) (by decide +kernel)), by decide +kernel⟩
theorem lkX9_297 : kWd (.methodLink RX9 297 yJ9_min_7cf53) := ⟨kin2 (List.mem_of_getElem? (i := 193) (by decide +kernel)), by decide +kernel⟩
theorem kcX9_196 : kWd (.constantLong RX9 196 (100)) := ⟨kin2 (List.mem_of_getElem? (i := 194) (by decide +kernel)), by decide +kernel⟩
theorem lkL_80 : kWd (.methodLink RL 80 yX9_back) := ⟨kin2 (List.mem_of_getElem? (i := 195) (by decide +kernel)), by decide +kernel⟩
theorem lkL_85 : kWd (.methodLink RL 85 yX9_pile) := ⟨kin2 (List.mem_of_getElem? (i := 199) (by decide +kernel)), by decide +kernel⟩
theorem kcX9_198 : kWd (.constantLong RX9 198 (-1000000000000000001)) := ⟨kin2 (List.mem_of_getElem? (i := 203) (by decide +kernel)), by decide +kernel⟩
theorem kcX9_200 : kWd (.constantLong RX9 200 (4)) := ⟨kin2 (List.mem_of_getElem? (i := 204) (by decide +kernel)), by decide +kernel⟩
theorem lkX9_202 : kWd (.methodLink RX9 202 yX0_atWholeInches) := ⟨kin2 (List.mem_of_getElem? (i := 205) (by decide +kernel)), by decide +kernel⟩
theorem lkL_90 : kWd (.methodLink RL 90 yX9_grown) := ⟨kin2 (List.mem_of_getElem? (i := 209) (by decide +kernel)), by decide +kernel⟩
theorem lkX9_208 : kWd (.methodLink RX9 208 yX2_growthFrom) := ⟨kin2 (List.mem_of_getElem? (i := 213) (by decide +kernel)), by decide +kernel⟩
theorem lkX2_68 : kWd (.methodLink RX2 68 yX5_growthAt) := ⟨kin2 (List.mem_of_getElem? (i := 217) (by decide +kernel)), by decide +kernel⟩
theorem lkX9_211 : kWd (.methodLink RX9 211 yX2_tenthsGrown) := ⟨kin2 (List.mem_of_getElem? (i := 220) (by decide +kernel)), by decide +kernel⟩
theorem lkX2_75 : kWd (.methodLink RX2 75 yX2_growthFrom) := ⟨kin2 (List.mem_of_getElem? (i := 224) (by decide +kernel)), by decide +kernel⟩
theorem kcX9_214 : kWd (.constantLong RX9 214 (10)) := ⟨kin2 (List.mem_of_getElem? (i := 225) (by decide +kernel)), by decide +kernel⟩
theorem lkL_95 : kWd (.methodLink RL 95 yX9_right) := ⟨kin2 (List.mem_of_getElem? (i := 226) (by decide +kernel)), by decide +kernel⟩
theorem lkL_99 : kWd (.methodLink RL 99 yX9_mix) := ⟨kin2 (List.mem_of_getElem? (i := 230) (by decide +kernel)), by decide +kernel⟩
theorem lkX9_216 : kWd (.methodLink RX9 216 yX9_areSorts) := ⟨kin2 (List.mem_of_getElem? (i := 234) (by decide +kernel)), by decide +kernel⟩
theorem lkX9_220 : kWd (.methodLink RX9 220 yX9_isShare) := ⟨kin2 (List.mem_of_getElem? (i := 237) (by decide +kernel)), by decide +kernel⟩
theorem cwX9_223 : kWd (.classLink RX9 223 RX6) := ⟨kin3 (List.mem_of_getElem? (i := 0) (by decide +kernel)), by decide +kernel⟩
theorem nwX9_223 : kNw RX9 223 4 4 tyX6 := ⟨_, _, clX6, cwX9_223, wi_RX6⟩
theorem lkX9_225 : kWd (.methodLink RX9 225 yX6_init) := ⟨kin3 (List.mem_of_getElem? (i := 2) (by decide +kernel)), by decide +kernel⟩
theorem lkX6_3 : kWd (.methodLink RX6 3 Lib.objectInit) := ⟨kin3 (List.mem_of_getElem? (i := 5) (by decide +kernel)), by decide +kernel⟩
theorem lkX6_9 : kWd (.methodLink RX6 9 yX3_sumFrom) := ⟨kin3 (List.mem_of_getElem? (i := 6) (by decide +kernel)), by decide +kernel⟩
theorem lkX6_21 : kWd (.methodLink RX6 21 yX3_countFrom) := ⟨kin3 (List.mem_of_getElem? (i := 7) (by decide +kernel)), by decide +kernel⟩
theorem fdX6_15 : kFd RX6 15 4 0 := ⟨_, _, _, _, clX6, by decide, ⟨kin3 (List.mem_of_getElem? (i := 8) (by decide +kernel)), by decide +kernel⟩⟩
theorem pfX6_15 : kPf RX6 15 4 0 .long true := ⟨_, _, _, _, clX6, by decide, ⟨kin3 (List.mem_of_getElem? (i := 8) (by decide +kernel)), by decide +kernel⟩, rfl, by decide +kernel, fun _ => rfl⟩
theorem fdX6_24 : kFd RX6 24 4 1 := ⟨_, _, _, _, clX6, by decide, ⟨kin3 (List.mem_of_getElem? (i := 9) (by decide +kernel)), by decide +kernel⟩⟩
theorem pfX6_24 : kPf RX6 24 4 1 .long true := ⟨_, _, _, _, clX6, by decide, ⟨kin3 (List.mem_of_getElem? (i := 9) (by decide +kernel)), by decide +kernel⟩, rfl, by decide +kernel, fun _ => rfl⟩
theorem fdX6_27 : kFd RX6 27 4 2 := ⟨_, _, _, _, clX6, by decide, ⟨kin3 (List.mem_of_getElem? (i := 10) (by decide +kernel)), by decide +kernel⟩⟩
theorem pfX6_27 : kPf RX6 27 4 2 .long true := ⟨_, _, _, _, clX6, by decide, ⟨kin3 (List.mem_of_getElem? (i := 10) (by decide +kernel)), by decide +kernel⟩, rfl, by decide +kernel, fun _ => rfl⟩
theorem fdX6_30 : kFd RX6 30 4 3 := ⟨_, _, _, _, clX6, by decide, ⟨kin3 (List.mem_of_getElem? (i := 11) (by decide +kernel)), by decide +kernel⟩⟩
theorem pfX6_30 : kPf RX6 30 4 3 .long true := ⟨_, _, _, _, clX6, by decide, ⟨kin3 (List.mem_of_getElem? (i := 11) (by decide +kernel)), by decide +kernel⟩, rfl, by decide +kernel, fun _ => rfl⟩
theorem lkX9_228 : kWd (.methodLink RX9 228 yX6_lack) := ⟨kin3 (List.mem_of_getElem? (i := 21) (by decide +kernel)), by decide +kernel⟩
theorem lkX6_33 : kWd (.methodLink RX6 33 yX6_count) := ⟨kin3 (List.mem_of_getElem? (i := 25) (by decide +kernel)), by decide +kernel⟩
theorem kcX9_231 : kWd (.constantLong RX9 231 (-1000000000000000005)) := ⟨kin3 (List.mem_of_getElem? (i := 29) (by decide +kernel)), by decide +kernel⟩
theorem lkX9_233 : kWd (.methodLink RX9 233 yX6_sum) := ⟨kin3 (List.mem_of_getElem? (i := 30) (by decide +kernel)), by decide +kernel⟩
theorem lkX9_237 : kWd (.methodLink RX9 237 yX6_count) := ⟨kin3 (List.mem_of_getElem? (i := 34) (by decide +kernel)), by decide +kernel⟩
theorem lkL_103 : kWd (.methodLink RL 103 yX9_fall) := ⟨kin3 (List.mem_of_getElem? (i := 35) (by decide +kernel)), by decide +kernel⟩
theorem lkX9_239 : kWd (.methodLink RX9 239 yX9_tellFall) := ⟨kin3 (List.mem_of_getElem? (i := 39) (by decide +kernel)), by decide +kernel⟩
theorem lkX9_300 : kWd (.methodLink RX9 300 yX6_gap) := ⟨kin3 (List.mem_of_getElem? (i := 42) (by decide +kernel)), by decide +kernel⟩
theorem lkX6_37 : kWd (.methodLink RX6 37 yX6_sum) := ⟨kin3 (List.mem_of_getElem? (i := 46) (by decide +kernel)), by decide +kernel⟩
theorem lkL_108 : kWd (.methodLink RL 108 yX9_alone) := ⟨kin3 (List.mem_of_getElem? (i := 47) (by decide +kernel)), by decide +kernel⟩
theorem lkX9_243 : kWd (.methodLink RX9 243 yX9_areShares) := ⟨kin3 (List.mem_of_getElem? (i := 51) (by decide +kernel)), by decide +kernel⟩
theorem lkX9_246 : kWd (.methodLink RX9 246 yX6_lesser) := ⟨kin3 (List.mem_of_getElem? (i := 54) (by decide +kernel)), by decide +kernel⟩
theorem lkX6_40 : kWd (.methodLink RX6 40 yX6_gap) := ⟨kin3 (List.mem_of_getElem? (i := 58) (by decide +kernel)), by decide +kernel⟩
theorem lkX9_250 : kWd (.methodLink RX9 250 yX6_greater) := ⟨kin3 (List.mem_of_getElem? (i := 59) (by decide +kernel)), by decide +kernel⟩
theorem lkL_113 : kWd (.methodLink RL 113 yX9_mean) := ⟨kin3 (List.mem_of_getElem? (i := 63) (by decide +kernel)), by decide +kernel⟩
theorem lkX9_253 : kWd (.methodLink RX9 253 yX0_sumMoved) := ⟨kin3 (List.mem_of_getElem? (i := 67) (by decide +kernel)), by decide +kernel⟩
theorem lkX0_54 : kWd (.methodLink RX0 54 yJ9_min_7cf53) := ⟨kin3 (List.mem_of_getElem? (i := 71) (by decide +kernel)), by decide +kernel⟩
theorem lkX0_60 : kWd (.methodLink RX0 60 yJ9_max_7cf53) := ⟨kin3 (List.mem_of_getElem? (i := 72) (by decide +kernel)), by decide +kernel⟩
theorem lkL_117 : kWd (.methodLink RL 117 yX9_mode) := ⟨kin3 (List.mem_of_getElem? (i := 73) (by decide +kernel)), by decide +kernel⟩
theorem lkX9_256 : kWd (.methodLink RX9 256 yX0_commonest) := ⟨kin3 (List.mem_of_getElem? (i := 77) (by decide +kernel)), by decide +kernel⟩
theorem lkL_121 : kWd (.methodLink RL 121 yX9_about) := ⟨kin3 (List.mem_of_getElem? (i := 81) (by decide +kernel)), by decide +kernel⟩
theorem kcX9_259 : kWd (.constantLong RX9 259 (-1000000000000000003)) := ⟨kin3 (List.mem_of_getElem? (i := 85) (by decide +kernel)), by decide +kernel⟩
theorem lkL_125 : kWd (.methodLink RL 125 yX9_beside) := ⟨kin3 (List.mem_of_getElem? (i := 86) (by decide +kernel)), by decide +kernel⟩
theorem lkL_129 : kWd (.methodLink RL 129 yX9_shorter) := ⟨kin3 (List.mem_of_getElem? (i := 90) (by decide +kernel)), by decide +kernel⟩
theorem lkL_133 : kWd (.methodLink RL 133 yX9_make) := ⟨kin3 (List.mem_of_getElem? (i := 94) (by decide +kernel)), by decide +kernel⟩
theorem lkX9_261 : kWd (.methodLink RX9 261 yX9_isWorld) := ⟨kin3 (List.mem_of_getElem? (i := 98) (by decide +kernel)), by decide +kernel⟩
theorem lkX9_264 : kWd (.methodLink RX9 264 yX4_fill) := ⟨kin3 (List.mem_of_getElem? (i := 101) (by decide +kernel)), by decide +kernel⟩
theorem lkX4_20 : kWd (.methodLink RX4 20 yX0_clearMen) := ⟨kin3 (List.mem_of_getElem? (i := 105) (by decide +kernel)), by decide +kernel⟩
theorem lkX0_38 : kWd (.methodLink RX0 38 yJ7_fill_53178) := ⟨kin3 (List.mem_of_getElem? (i := 109) (by decide +kernel)), by decide +kernel⟩
theorem lkX4_25 : kWd (.methodLink RX4 25 yX2_lineOf) := ⟨kin3 (List.mem_of_getElem? (i := 112) (by decide +kernel)), by decide +kernel⟩
theorem lkX4_31 : kWd (.methodLink RX4 31 yX4_draw) := ⟨kin3 (List.mem_of_getElem? (i := 113) (by decide +kernel)), by decide +kernel⟩
theorem kcX4_19 : kWd (.constant RX4 19 (65537)) := ⟨kin3 (List.mem_of_getElem? (i := 117) (by decide +kernel)), by decide +kernel⟩
theorem lkX4_35 : kWd (.methodLink RX4 35 yX3_heightOf) := ⟨kin3 (List.mem_of_getElem? (i := 118) (by decide +kernel)), by decide +kernel⟩
theorem lkX4_45 : kWd (.methodLink RX4 45 yX4_placeOf) := ⟨kin3 (List.mem_of_getElem? (i := 123) (by decide +kernel)), by decide +kernel⟩
theorem lkX4_59 : kWd (.methodLink RX4 59 yX2_wayOf) := ⟨kin3 (List.mem_of_getElem? (i := 127) (by decide +kernel)), by decide +kernel⟩
theorem lkX4_49 : kWd (.methodLink RX4 49 yX0_menAt) := ⟨kin3 (List.mem_of_getElem? (i := 129) (by decide +kernel)), by decide +kernel⟩
theorem lkX4_52 : kWd (.methodLink RX4 52 yX0_put) := ⟨kin3 (List.mem_of_getElem? (i := 130) (by decide +kernel)), by decide +kernel⟩
theorem lkL_138 : kWd (.methodLink RL 138 yX9_off) := ⟨kin3 (List.mem_of_getElem? (i := 131) (by decide +kernel)), by decide +kernel⟩
theorem lkX9_268 : kWd (.methodLink RX9 268 yX9_offBy) := ⟨kin3 (List.mem_of_getElem? (i := 135) (by decide +kernel)), by decide +kernel⟩
theorem lkX9_284 : kWd (.methodLink RX9 284 yX0_copyEntries) := ⟨kin3 (List.mem_of_getElem? (i := 139) (by decide +kernel)), by decide +kernel⟩
theorem lkX0_44 : kWd (.methodLink RX0 44 ⟨"java/lang/System", "arraycopy", "(Ljava/lang/Object;ILjava/lang/Object;II)V"⟩) := ⟨kin3 (List.mem_of_getElem? (i := 143) (by decide +kernel)), by decide +kernel⟩
theorem lkX9_288 : kWd (.methodLink RX9 288 yX9_undone) := ⟨kin3 (List.mem_of_getElem? (i := 144) (by decide +kernel)), by decide +kernel⟩
theorem lkX9_292 : kWd (.methodLink RX9 292 yJ9_abs_0f7a4) := ⟨kin3 (List.mem_of_getElem? (i := 148) (by decide +kernel)), by decide +kernel⟩
theorem lkL_143 : kWd (.methodLink RL 143 yX9_best) := ⟨kin3 (List.mem_of_getElem? (i := 151) (by decide +kernel)), by decide +kernel⟩
theorem lkL_148 : kWd (.methodLink RL 148 yX9_image) := ⟨kin3 (List.mem_of_getElem? (i := 155) (by decide +kernel)), by decide +kernel⟩
theorem lkX9_272 : kWd (.methodLink RX9 272 yX9_isImage) := ⟨kin3 (List.mem_of_getElem? (i := 159) (by decide +kernel)), by decide +kernel⟩
theorem lkX9_275 : kWd (.methodLink RX9 275 yX2_copyFrom) := ⟨kin3 (List.mem_of_getElem? (i := 162) (by decide +kernel)), by decide +kernel⟩
theorem lkX2_35 : kWd (.methodLink RX2 35 yX0_copyFrom) := ⟨kin3 (List.mem_of_getElem? (i := 166) (by decide +kernel)), by decide +kernel⟩
theorem lkX0_50 : kWd (.methodLink RX0 50 yX0_copyEntries) := ⟨kin3 (List.mem_of_getElem? (i := 170) (by decide +kernel)), by decide +kernel⟩
theorem lkX2_39 : kWd (.methodLink RX2 39 yX7_copyFrom) := ⟨kin3 (List.mem_of_getElem? (i := 171) (by decide +kernel)), by decide +kernel⟩
theorem lkX2_42 : kWd (.methodLink RX2 42 ⟨"java/lang/System", "arraycopy", "(Ljava/lang/Object;ILjava/lang/Object;II)V"⟩) := ⟨kin3 (List.mem_of_getElem? (i := 172) (by decide +kernel)), by decide +kernel⟩
theorem lkL_152 : kWd (.methodLink RL 152 yX9_restore) := ⟨kin3 (List.mem_of_getElem? (i := 173) (by decide +kernel)), by decide +kernel⟩
theorem lkL_156 : kWd (.methodLink RL 156 yX9_told) := ⟨kin3 (List.mem_of_getElem? (i := 177) (by decide +kernel)), by decide +kernel⟩
theorem cwL_10 : kWd (.classLink RL 10 RX10) := ⟨kin3 (List.mem_of_getElem? (i := 181) (by decide +kernel)), by decide +kernel⟩
theorem nwL_10 : kNw RL 10 8 33 tyX10 := ⟨_, _, clX10, cwL_10, wi_RX10⟩
theorem lkL_12 : kWd (.methodLink RL 12 yX10_init) := ⟨kin3 (List.mem_of_getElem? (i := 183) (by decide +kernel)), by decide +kernel⟩
theorem lkX10_1 : kWd (.methodLink RX10 1 Lib.objectInit) := ⟨kin3 (List.mem_of_getElem? (i := 186) (by decide +kernel)), by decide +kernel⟩
theorem fdX10_7 : kFd RX10 7 8 0 := ⟨_, _, _, _, clX10, by decide, ⟨kin3 (List.mem_of_getElem? (i := 187) (by decide +kernel)), by decide +kernel⟩⟩
theorem pfX10_7 : kPf RX10 7 8 0 (.array .int) true := ⟨_, _, _, _, clX10, by decide, ⟨kin3 (List.mem_of_getElem? (i := 187) (by decide +kernel)), by decide +kernel⟩, rfl, by decide +kernel, fun _ => rfl⟩
theorem fdX10_13 : kFd RX10 13 8 1 := ⟨_, _, _, _, clX10, by decide, ⟨kin3 (List.mem_of_getElem? (i := 188) (by decide +kernel)), by decide +kernel⟩⟩
theorem pfX10_13 : kPf RX10 13 8 1 (.array .int) true := ⟨_, _, _, _, clX10, by decide, ⟨kin3 (List.mem_of_getElem? (i := 188) (by decide +kernel)), by decide +kernel⟩, rfl, by decide +kernel, fun _ => rfl⟩
theorem fdX10_16 : kFd RX10 16 8 2 := ⟨_, _, _, _, clX10, by decide, ⟨kin3 (List.mem_of_getElem? (i := 189) (by decide +kernel)), by decide +kernel⟩⟩
theorem pfX10_16 : kPf RX10 16 8 2 (.array .int) true := ⟨_, _, _, _, clX10, by decide, ⟨kin3 (List.mem_of_getElem? (i := 189) (by decide +kernel)), by decide +kernel⟩, rfl, by decide +kernel, fun _ => rfl⟩
theorem fdX10_19 : kFd RX10 19 8 3 := ⟨_, _, _, _, clX10, by decide, ⟨kin3 (List.mem_of_getElem? (i := 190) (by decide +kernel)), by decide +kernel⟩⟩
theorem pfX10_19 : kPf RX10 19 8 3 (.array .int) true := ⟨_, _, _, _, clX10, by decide, ⟨kin3 (List.mem_of_getElem? (i := 190) (by decide +kernel)), by decide +kernel⟩, rfl, by decide +kernel, fun _ => rfl⟩
theorem fdX10_22 : kFd RX10 22 8 4 := ⟨_, _, _, _, clX10, by decide, ⟨kin3 (List.mem_of_getElem? (i := 191) (by decide +kernel)), by decide +kernel⟩⟩
theorem pfX10_22 : kPf RX10 22 8 4 (.array .int) true := ⟨_, _, _, _, clX10, by decide, ⟨kin3 (List.mem_of_getElem? (i := 191) (by decide +kernel)), by decide +kernel⟩, rfl, by decide +kernel, fun _ => rfl⟩
theorem fdX10_25 : kFd RX10 25 8 5 := ⟨_, _, _, _, clX10, by decide, ⟨kin3 (List.mem_of_getElem? (i := 192) (by decide +kernel)), by decide +kernel⟩⟩
theorem pfX10_25 : kPf RX10 25 8 5 (.array .int) true := ⟨_, _, _, _, clX10, by decide, ⟨kin3 (List.mem_of_getElem? (i := 192) (by decide +kernel)), by decide +kernel⟩, rfl, by decide +kernel, fun _ => rfl⟩
theorem fdX10_107 : kFd RX10 107 8 6 := ⟨_, _, _, _, clX10, by decide, ⟨kin3 (List.mem_of_getElem? (i := 193) (by decide +kernel)), by decide +kernel⟩⟩
theorem pfX10_107 : kPf RX10 107 8 6 .int false := ⟨_, _, _, _, clX10, by decide, ⟨kin3 (List.mem_of_getElem? (i := 193) (by decide +kernel)), by decide +kernel⟩, rfl, by decide +kernel, fun h => by cases h⟩
theorem fdX10_28 : kFd RX10 28 8 7 := ⟨_, _, _, _, clX10, by decide, ⟨kin3 (List.mem_of_getElem? (i := 194) (by decide +kernel)), by decide +kernel⟩⟩
theorem pfX10_28 : kPf RX10 28 8 7 (.array .int) true := ⟨_, _, _, _, clX10, by decide, ⟨kin3 (List.mem_of_getElem? (i := 194) (by decide +kernel)), by decide +kernel⟩, rfl, by decide +kernel, fun _ => rfl⟩
theorem fdX10_31 : kFd RX10 31 8 8 := ⟨_, _, _, _, clX10, by decide, ⟨kin3 (List.mem_of_getElem? (i := 195) (by decide +kernel)), by decide +kernel⟩⟩
theorem pfX10_31 : kPf RX10 31 8 8 (.array .int) true := ⟨_, _, _, _, clX10, by decide, ⟨kin3 (List.mem_of_getElem? (i := 195) (by decide +kernel)), by decide +kernel⟩, rfl, by decide +kernel, fun _ => rfl⟩
theorem fdX10_131 : kFd RX10 131 8 9 := ⟨_, _, _, _, clX10, by decide, ⟨kin3 (List.mem_of_getElem? (i := 196) (by decide +kernel)), by decide +kernel⟩⟩
theorem pfX10_131 : kPf RX10 131 8 9 .int false := ⟨_, _, _, _, clX10, by decide, ⟨kin3 (List.mem_of_getElem? (i := 196) (by decide +kernel)), by decide +kernel⟩, rfl, by decide +kernel, fun h => by cases h⟩
theorem fdX10_34 : kFd RX10 34 8 10 := ⟨_, _, _, _, clX10, by decide, ⟨kin3 (List.mem_of_getElem? (i := 197) (by decide +kernel)), by decide +kernel⟩⟩
theorem pfX10_34 : kPf RX10 34 8 10 (.array .int) true := ⟨_, _, _, _, clX10, by decide, ⟨kin3 (List.mem_of_getElem? (i := 197) (by decide +kernel)), by decide +kernel⟩, rfl, by decide +kernel, fun _ => rfl⟩
theorem fdX10_37 : kFd RX10 37 8 11 := ⟨_, _, _, _, clX10, by decide, ⟨kin3 (List.mem_of_getElem? (i := 198) (by decide +kernel)), by decide +kernel⟩⟩
theorem pfX10_37 : kPf RX10 37 8 11 (.array .int) true := ⟨_, _, _, _, clX10, by decide, ⟨kin3 (List.mem_of_getElem? (i := 198) (by decide +kernel)), by decide +kernel⟩, rfl, by decide +kernel, fun _ => rfl⟩
theorem fdX10_40 : kFd RX10 40 8 12 := ⟨_, _, _, _, clX10, by decide, ⟨kin3 (List.mem_of_getElem? (i := 199) (by decide +kernel)), by decide +kernel⟩⟩
theorem pfX10_40 : kPf RX10 40 8 12 (.array .int) true := ⟨_, _, _, _, clX10, by decide, ⟨kin3 (List.mem_of_getElem? (i := 199) (by decide +kernel)), by decide +kernel⟩, rfl, by decide +kernel, fun _ => rfl⟩
theorem fdX10_134 : kFd RX10 134 8 13 := ⟨_, _, _, _, clX10, by decide, ⟨kin3 (List.mem_of_getElem? (i := 200) (by decide +kernel)), by decide +kernel⟩⟩
theorem pfX10_134 : kPf RX10 134 8 13 .int false := ⟨_, _, _, _, clX10, by decide, ⟨kin3 (List.mem_of_getElem? (i := 200) (by decide +kernel)), by decide +kernel⟩, rfl, by decide +kernel, fun h => by cases h⟩
theorem fdX10_43 : kFd RX10 43 8 14 := ⟨_, _, _, _, clX10, by decide, ⟨kin3 (List.mem_of_getElem? (i := 201) (by decide +kernel)), by decide +kernel⟩⟩
theorem pfX10_43 : kPf RX10 43 8 14 (.array .int) true := ⟨_, _, _, _, clX10, by decide, ⟨kin3 (List.mem_of_getElem? (i := 201) (by decide +kernel)), by decide +kernel⟩, rfl, by decide +kernel, fun _ => rfl⟩
theorem fdX10_46 : kFd RX10 46 8 15 := ⟨_, _, _, _, clX10, by decide, ⟨kin3 (List.mem_of_getElem? (i := 202) (by decide +kernel)), by decide +kernel⟩⟩
theorem pfX10_46 : kPf RX10 46 8 15 (.array .int) true := ⟨_, _, _, _, clX10, by decide, ⟨kin3 (List.mem_of_getElem? (i := 202) (by decide +kernel)), by decide +kernel⟩, rfl, by decide +kernel, fun _ => rfl⟩
theorem fdX10_137 : kFd RX10 137 8 16 := ⟨_, _, _, _, clX10, by decide, ⟨kin3 (List.mem_of_getElem? (i := 203) (by decide +kernel)), by decide +kernel⟩⟩
theorem pfX10_137 : kPf RX10 137 8 16 .int false := ⟨_, _, _, _, clX10, by decide, ⟨kin3 (List.mem_of_getElem? (i := 203) (by decide +kernel)), by decide +kernel⟩, rfl, by decide +kernel, fun h => by cases h⟩
theorem fdX10_49 : kFd RX10 49 8 17 := ⟨_, _, _, _, clX10, by decide, ⟨kin3 (List.mem_of_getElem? (i := 204) (by decide +kernel)), by decide +kernel⟩⟩
theorem pfX10_49 : kPf RX10 49 8 17 (.array .int) true := ⟨_, _, _, _, clX10, by decide, ⟨kin3 (List.mem_of_getElem? (i := 204) (by decide +kernel)), by decide +kernel⟩, rfl, by decide +kernel, fun _ => rfl⟩
theorem fdX10_182 : kFd RX10 182 8 18 := ⟨_, _, _, _, clX10, by decide, ⟨kin3 (List.mem_of_getElem? (i := 205) (by decide +kernel)), by decide +kernel⟩⟩
theorem pfX10_182 : kPf RX10 182 8 18 .int false := ⟨_, _, _, _, clX10, by decide, ⟨kin3 (List.mem_of_getElem? (i := 205) (by decide +kernel)), by decide +kernel⟩, rfl, by decide +kernel, fun h => by cases h⟩
theorem fdX10_185 : kFd RX10 185 8 19 := ⟨_, _, _, _, clX10, by decide, ⟨kin3 (List.mem_of_getElem? (i := 206) (by decide +kernel)), by decide +kernel⟩⟩
theorem pfX10_185 : kPf RX10 185 8 19 .int false := ⟨_, _, _, _, clX10, by decide, ⟨kin3 (List.mem_of_getElem? (i := 206) (by decide +kernel)), by decide +kernel⟩, rfl, by decide +kernel, fun h => by cases h⟩
theorem fdX10_179 : kFd RX10 179 8 20 := ⟨_, _, _, _, clX10, by decide, ⟨kin3 (List.mem_of_getElem? (i := 207) (by decide +kernel)), by decide +kernel⟩⟩
theorem pfX10_179 : kPf RX10 179 8 20 .int false := ⟨_, _, _, _, clX10, by decide, ⟨kin3 (List.mem_of_getElem? (i := 207) (by decide +kernel)), by decide +kernel⟩, rfl, by decide +kernel, fun h => by cases h⟩
theorem fdX10_196 : kFd RX10 196 8 21 := ⟨_, _, _, _, clX10, by decide, ⟨kin3 (List.mem_of_getElem? (i := 208) (by decide +kernel)), by decide +kernel⟩⟩
theorem pfX10_196 : kPf RX10 196 8 21 .int false := ⟨_, _, _, _, clX10, by decide, ⟨kin3 (List.mem_of_getElem? (i := 208) (by decide +kernel)), by decide +kernel⟩, rfl, by decide +kernel, fun h => by cases h⟩
theorem fdX10_199 : kFd RX10 199 8 22 := ⟨_, _, _, _, clX10, by decide, ⟨kin3 (List.mem_of_getElem? (i := 209) (by decide +kernel)), by decide +kernel⟩⟩
theorem pfX10_199 : kPf RX10 199 8 22 .int false := ⟨_, _, _, _, clX10, by decide, ⟨kin3 (List.mem_of_getElem? (i := 209) (by decide +kernel)), by decide +kernel⟩, rfl, by decide +kernel, fun h => by cases h⟩
theorem fdX10_227 : kFd RX10 227 8 23 := ⟨_, _, _, _, clX10, by decide, ⟨kin3 (List.mem_of_getElem? (i := 210) (by decide +kernel)), by decide +kernel⟩⟩
theorem pfX10_227 : kPf RX10 227 8 23 .long false := ⟨_, _, _, _, clX10, by decide, ⟨kin3 (List.mem_of_getElem? (i := 210) (by decide +kernel)), by decide +kernel⟩, rfl, by decide +kernel, fun h => by cases h⟩
theorem fdX10_231 : kFd RX10 231 8 24 := ⟨_, _, _, _, clX10, by decide, ⟨kin3 (List.mem_of_getElem? (i := 211) (by decide +kernel)), by decide +kernel⟩⟩
theorem pfX10_231 : kPf RX10 231 8 24 .long false := ⟨_, _, _, _, clX10, by decide, ⟨kin3 (List.mem_of_getElem? (i := 211) (by decide +kernel)), by decide +kernel⟩, rfl, by decide +kernel, fun h => by cases h⟩
theorem fdX10_254 : kFd RX10 254 8 25 := ⟨_, _, _, _, clX10, by decide, ⟨kin3 (List.mem_of_getElem? (i := 212) (by decide +kernel)), by decide +kernel⟩⟩
theorem pfX10_254 : kPf RX10 254 8 25 .long false := ⟨_, _, _, _, clX10, by decide, ⟨kin3 (List.mem_of_getElem? (i := 212) (by decide +kernel)), by decide +kernel⟩, rfl, by decide +kernel, fun h => by cases h⟩
theorem fdX10_251 : kFd RX10 251 8 26 := ⟨_, _, _, _, clX10, by decide, ⟨kin3 (List.mem_of_getElem? (i := 213) (by decide +kernel)), by decide +kernel⟩⟩
theorem pfX10_251 : kPf RX10 251 8 26 .long false := ⟨_, _, _, _, clX10, by decide, ⟨kin3 (List.mem_of_getElem? (i := 213) (by decide +kernel)), by decide +kernel⟩, rfl, by decide +kernel, fun h => by cases h⟩
theorem fdX10_273 : kFd RX10 273 8 27 := ⟨_, _, _, _, clX10, by decide, ⟨kin3 (List.mem_of_getElem? (i := 214) (by decide +kernel)), by decide +kernel⟩⟩
theorem pfX10_273 : kPf RX10 273 8 27 .int false := ⟨_, _, _, _, clX10, by decide, ⟨kin3 (List.mem_of_getElem? (i := 214) (by decide +kernel)), by decide +kernel⟩, rfl, by decide +kernel, fun h => by cases h⟩
theorem fdX10_52 : kFd RX10 52 8 28 := ⟨_, _, _, _, clX10, by decide, ⟨kin3 (List.mem_of_getElem? (i := 215) (by decide +kernel)), by decide +kernel⟩⟩
theorem pfX10_52 : kPf RX10 52 8 28 (.array .int) true := ⟨_, _, _, _, clX10, by decide, ⟨kin3 (List.mem_of_getElem? (i := 215) (by decide +kernel)), by decide +kernel⟩, rfl, by decide +kernel, fun _ => rfl⟩
theorem fdX10_55 : kFd RX10 55 8 29 := ⟨_, _, _, _, clX10, by decide, ⟨kin3 (List.mem_of_getElem? (i := 216) (by decide +kernel)), by decide +kernel⟩⟩
theorem pfX10_55 : kPf RX10 55 8 29 (.array .int) true := ⟨_, _, _, _, clX10, by decide, ⟨kin3 (List.mem_of_getElem? (i := 216) (by decide +kernel)), by decide +kernel⟩, rfl, by decide +kernel, fun _ => rfl⟩
theorem fdX10_58 : kFd RX10 58 8 30 := ⟨_, _, _, _, clX10, by decide, ⟨kin3 (List.mem_of_getElem? (i := 217) (by decide +kernel)), by decide +kernel⟩⟩
theorem pfX10_58 : kPf RX10 58 8 30 (.array .boolean) true := ⟨_, _, _, _, clX10, by decide, ⟨kin3 (List.mem_of_getElem? (i := 217) (by decide +kernel)), by decide +kernel⟩, rfl, by decide +kernel, fun _ => rfl⟩
theorem fdX10_309 : kFd RX10 309 8 31 := ⟨_, _, _, _, clX10, by decide, ⟨kin3 (List.mem_of_getElem? (i := 218) (by decide +kernel)), by decide +kernel⟩⟩
theorem pfX10_309 : kPf RX10 309 8 31 .int false := ⟨_, _, _, _, clX10, by decide, ⟨kin3 (List.mem_of_getElem? (i := 218) (by decide +kernel)), by decide +kernel⟩, rfl, by decide +kernel, fun h => by cases h⟩
theorem fdX10_305 : kFd RX10 305 8 32 := ⟨_, _, _, _, clX10, by decide, ⟨kin3 (List.mem_of_getElem? (i := 219) (by decide +kernel)), by decide +kernel⟩⟩
theorem pfX10_305 : kPf RX10 305 8 32 .boolean false := ⟨_, _, _, _, clX10, by decide, ⟨kin3 (List.mem_of_getElem? (i := 219) (by decide +kernel)), by decide +kernel⟩, rfl, by decide +kernel, fun h => by cases h⟩
theorem lkL_17 : kWd (.methodLink RL 17 yX10_men) := ⟨kin4 (List.mem_of_getElem? (i := 47) (by decide +kernel)), by decide +kernel⟩
theorem lkX10_76 : kWd (.methodLink RX10 76 yX10_isBook) := ⟨kin4 (List.mem_of_getElem? (i := 51) (by decide +kernel)), by decide +kernel⟩
theorem kcX10_62 : kWd (.constantLong RX10 62 (5)) := ⟨kin4 (List.mem_of_getElem? (i := 54) (by decide +kernel)), by decide +kernel⟩
theorem lkX10_64 : kWd (.methodLink RX10 64 yX10_in) := ⟨kin4 (List.mem_of_getElem? (i := 55) (by decide +kernel)), by decide +kernel⟩
theorem lkX10_80 : kWd (.methodLink RX10 80 yX10_isHeight) := ⟨kin4 (List.mem_of_getElem? (i := 58) (by decide +kernel)), by decide +kernel⟩
theorem kcX10_68 : kWd (.constantLong RX10 68 (63)) := ⟨kin4 (List.mem_of_getElem? (i := 61) (by decide +kernel)), by decide +kernel⟩
theorem kcX10_83 : kWd (.constantLong RX10 83 (999)) := ⟨kin4 (List.mem_of_getElem? (i := 62) (by decide +kernel)), by decide +kernel⟩
theorem lkX10_85 : kWd (.methodLink RX10 85 yX10_at) := ⟨kin4 (List.mem_of_getElem? (i := 63) (by decide +kernel)), by decide +kernel⟩
theorem lkL_21 : kWd (.methodLink RL 21 yX10_set) := ⟨kin4 (List.mem_of_getElem? (i := 66) (by decide +kernel)), by decide +kernel⟩
theorem kcX10_89 : kWd (.constantLong RX10 89 (2)) := ⟨kin4 (List.mem_of_getElem? (i := 70) (by decide +kernel)), by decide +kernel⟩
theorem kcX10_91 : kWd (.constantLong RX10 91 (14)) := ⟨kin4 (List.mem_of_getElem? (i := 71) (by decide +kernel)), by decide +kernel⟩
theorem kcX10_93 : kWd (.constantLong RX10 93 (99)) := ⟨kin4 (List.mem_of_getElem? (i := 72) (by decide +kernel)), by decide +kernel⟩
theorem kcX10_95 : kWd (.constantLong RX10 95 (40)) := ⟨kin4 (List.mem_of_getElem? (i := 73) (by decide +kernel)), by decide +kernel⟩
theorem lkL_26 : kWd (.methodLink RL 26 yX10_way) := ⟨kin4 (List.mem_of_getElem? (i := 74) (by decide +kernel)), by decide +kernel⟩
theorem kcX10_97 : kWd (.constantLong RX10 97 (4)) := ⟨kin4 (List.mem_of_getElem? (i := 78) (by decide +kernel)), by decide +kernel⟩
theorem kcX10_99 : kWd (.constantLong RX10 99 (9)) := ⟨kin4 (List.mem_of_getElem? (i := 79) (by decide +kernel)), by decide +kernel⟩
theorem kcX10_101 : kWd (.constantLong RX10 101 (10)) := ⟨kin4 (List.mem_of_getElem? (i := 80) (by decide +kernel)), by decide +kernel⟩
theorem lkL_31 : kWd (.methodLink RL 31 yX10_say) := ⟨kin4 (List.mem_of_getElem? (i := 81) (by decide +kernel)), by decide +kernel⟩
theorem kcX10_103 : kWd (.constantLong RX10 103 (33)) := ⟨kin4 (List.mem_of_getElem? (i := 85) (by decide +kernel)), by decide +kernel⟩
theorem kcX10_105 : kWd (.constantLong RX10 105 (126)) := ⟨kin4 (List.mem_of_getElem? (i := 86) (by decide +kernel)), by decide +kernel⟩
theorem lkL_36 : kWd (.methodLink RL 36 yX10_wipe) := ⟨kin4 (List.mem_of_getElem? (i := 87) (by decide +kernel)), by decide +kernel⟩
theorem lkL_40 : kWd (.methodLink RL 40 yX10_fault) := ⟨kin4 (List.mem_of_getElem? (i := 91) (by decide +kernel)), by decide +kernel⟩
theorem lkX10_124 : kWd (.methodLink RX10 124 yX10_isEnd) := ⟨kin4 (List.mem_of_getElem? (i := 95) (by decide +kernel)), by decide +kernel⟩
theorem lkX10_127 : kWd (.methodLink RX10 127 yX10_faultOf) := ⟨kin4 (List.mem_of_getElem? (i := 98) (by decide +kernel)), by decide +kernel⟩
theorem lkX10_118 : kWd (.methodLink RX10 118 yX10_ruleStep) := ⟨kin4 (List.mem_of_getElem? (i := 102) (by decide +kernel)), by decide +kernel⟩
theorem lkX10_115 : kWd (.methodLink RX10 115 yX10_isDigit) := ⟨kin4 (List.mem_of_getElem? (i := 105) (by decide +kernel)), by decide +kernel⟩
theorem kcX10_111 : kWd (.constantLong RX10 111 (48)) := ⟨kin4 (List.mem_of_getElem? (i := 108) (by decide +kernel)), by decide +kernel⟩
theorem kcX10_113 : kWd (.constantLong RX10 113 (57)) := ⟨kin4 (List.mem_of_getElem? (i := 109) (by decide +kernel)), by decide +kernel⟩
theorem lkX10_121 : kWd (.methodLink RX10 121 yX10_growthStep) := ⟨kin4 (List.mem_of_getElem? (i := 110) (by decide +kernel)), by decide +kernel⟩
theorem lkL_44 : kWd (.methodLink RL 44 yX10_take) := ⟨kin4 (List.mem_of_getElem? (i := 113) (by decide +kernel)), by decide +kernel⟩
theorem lkX10_140 : kWd (.methodLink RX10 140 yX10_takeRule) := ⟨kin4 (List.mem_of_getElem? (i := 117) (by decide +kernel)), by decide +kernel⟩
theorem lkX10_143 : kWd (.methodLink RX10 143 yX10_takeGrowth) := ⟨kin4 (List.mem_of_getElem? (i := 121) (by decide +kernel)), by decide +kernel⟩
theorem lkL_48 : kWd (.methodLink RL 48 yX10_line) := ⟨kin4 (List.mem_of_getElem? (i := 125) (by decide +kernel)), by decide +kernel⟩
theorem lkX10_146 : kWd (.methodLink RX10 146 yX10_lineOf) := ⟨kin4 (List.mem_of_getElem? (i := 129) (by decide +kernel)), by decide +kernel⟩
theorem lkL_52 : kWd (.methodLink RL 52 yX10_hump) := ⟨kin4 (List.mem_of_getElem? (i := 133) (by decide +kernel)), by decide +kernel⟩
theorem lkX10_152 : kWd (.methodLink RX10 152 yX10_isWidth) := ⟨kin4 (List.mem_of_getElem? (i := 137) (by decide +kernel)), by decide +kernel⟩
theorem kcX10_70 : kWd (.constantLong RX10 70 (8)) := ⟨kin4 (List.mem_of_getElem? (i := 140) (by decide +kernel)), by decide +kernel⟩
theorem lkX10_155 : kWd (.methodLink RX10 155 yX10_humpOf) := ⟨kin4 (List.mem_of_getElem? (i := 141) (by decide +kernel)), by decide +kernel⟩
theorem lkX10_149 : kWd (.methodLink RX10 149 yX10_choose) := ⟨kin4 (List.mem_of_getElem? (i := 144) (by decide +kernel)), by decide +kernel⟩
theorem lkL_57 : kWd (.methodLink RL 57 yX10_upper) := ⟨kin4 (List.mem_of_getElem? (i := 147) (by decide +kernel)), by decide +kernel⟩
theorem kcX10_159 : kWd (.constantLong RX10 159 (-1000000000000000002)) := ⟨kin4 (List.mem_of_getElem? (i := 151) (by decide +kernel)), by decide +kernel⟩
theorem lkX10_161 : kWd (.methodLink RX10 161 yX10_lowest) := ⟨kin4 (List.mem_of_getElem? (i := 152) (by decide +kernel)), by decide +kernel⟩
theorem lkX10_72 : kWd (.methodLink RX10 72 yX10_common) := ⟨kin4 (List.mem_of_getElem? (i := 155) (by decide +kernel)), by decide +kernel⟩
theorem lkL_62 : kWd (.methodLink RL 62 yX10_misfit) := ⟨kin4 (List.mem_of_getElem? (i := 158) (by decide +kernel)), by decide +kernel⟩
theorem lkX10_168 : kWd (.methodLink RX10 168 yX10_findChosen) := ⟨kin4 (List.mem_of_getElem? (i := 162) (by decide +kernel)), by decide +kernel⟩
theorem lkX10_172 : kWd (.methodLink RX10 172 yX10_all) := ⟨kin4 (List.mem_of_getElem? (i := 166) (by decide +kernel)), by decide +kernel⟩
theorem lkX10_175 : kWd (.methodLink RX10 175 yX10_misfitOf) := ⟨kin4 (List.mem_of_getElem? (i := 170) (by decide +kernel)), by decide +kernel⟩
theorem lkX10_165 : kWd (.methodLink RX10 165 yX10_apart) := ⟨kin4 (List.mem_of_getElem? (i := 174) (by decide +kernel)), by decide +kernel⟩
theorem lkL_66 : kWd (.methodLink RL 66 yX10_fit) := ⟨kin4 (List.mem_of_getElem? (i := 177) (by decide +kernel)), by decide +kernel⟩
theorem lkX10_192 : kWd (.methodLink RX10 192 yX10_findFit) := ⟨kin4 (List.mem_of_getElem? (i := 181) (by decide +kernel)), by decide +kernel⟩
theorem lkX10_188 : kWd (.methodLink RX10 188 yX10_keepBest) := ⟨kin4 (List.mem_of_getElem? (i := 185) (by decide +kernel)), by decide +kernel⟩
theorem lkL_70 : kWd (.methodLink RL 70 yX10_span) := ⟨kin4 (List.mem_of_getElem? (i := 189) (by decide +kernel)), by decide +kernel⟩
theorem lkX10_202 : kWd (.methodLink RX10 202 yX10_findSpan) := ⟨kin4 (List.mem_of_getElem? (i := 193) (by decide +kernel)), by decide +kernel⟩
theorem lkL_74 : kWd (.methodLink RL 74 yX10_found) := ⟨kin4 (List.mem_of_getElem? (i := 197) (by decide +kernel)), by decide +kernel⟩
theorem lkX10_205 : kWd (.methodLink RX10 205 yX10_findLine) := ⟨kin4 (List.mem_of_getElem? (i := 201) (by decide +kernel)), by decide +kernel⟩
theorem lkL_79 : kWd (.methodLink RL 79 yX10_written) := ⟨kin4 (List.mem_of_getElem? (i := 205) (by decide +kernel)), by decide +kernel⟩
theorem lkX10_211 : kWd (.methodLink RX10 211 yX10_writtenOf) := ⟨kin4 (List.mem_of_getElem? (i := 209) (by decide +kernel)), by decide +kernel⟩
theorem lkX10_208 : kWd (.methodLink RX10 208 yX10_inchOf) := ⟨kin4 (List.mem_of_getElem? (i := 213) (by decide +kernel)), by decide +kernel⟩
theorem kcX10_214 : kWd (.constantLong RX10 214 (100)) := ⟨kin4 (List.mem_of_getElem? (i := 216) (by decide +kernel)), by decide +kernel⟩
theorem lkL_84 : kWd (.methodLink RL 84 yX10_back) := ⟨kin4 (List.mem_of_getElem? (i := 217) (by decide +kernel)), by decide +kernel⟩
theorem lkL_89 : kWd (.methodLink RL 89 yX10_pile) := ⟨kin4 (List.mem_of_getElem? (i := 221) (by decide +kernel)), by decide +kernel⟩
theorem kcX10_216 : kWd (.constantLong RX10 216 (-1000000000000000001)) := ⟨kin4 (List.mem_of_getElem? (i := 225) (by decide +kernel)), by decide +kernel⟩
theorem lkL_94 : kWd (.methodLink RL 94 yX10_grown) := ⟨kin4 (List.mem_of_getElem? (i := 226) (by decide +kernel)), by decide +kernel⟩
theorem lkX10_221 : kWd (.methodLink RX10 221 yX10_grownFrom) := ⟨kin4 (List.mem_of_getElem? (i := 230) (by decide +kernel)), by decide +kernel⟩
theorem lkX10_218 : kWd (.methodLink RX10 218 yX10_growsAt) := ⟨kin4 (List.mem_of_getElem? (i := 234) (by decide +kernel)), by decide +kernel⟩
theorem lkX10_224 : kWd (.methodLink RX10 224 yX10_meanGrown) := ⟨kin4 (List.mem_of_getElem? (i := 238) (by decide +kernel)), by decide +kernel⟩
theorem lkL_98 : kWd (.methodLink RL 98 yX10_right) := ⟨kin5 (List.mem_of_getElem? (i := 2) (by decide +kernel)), by decide +kernel⟩
theorem lkL_102 : kWd (.methodLink RL 102 yX10_mix) := ⟨kin5 (List.mem_of_getElem? (i := 6) (by decide +kernel)), by decide +kernel⟩
theorem lkX10_234 : kWd (.methodLink RX10 234 yX10_areHumps) := ⟨kin5 (List.mem_of_getElem? (i := 10) (by decide +kernel)), by decide +kernel⟩
theorem lkX10_238 : kWd (.methodLink RX10 238 yX10_isShare) := ⟨kin5 (List.mem_of_getElem? (i := 13) (by decide +kernel)), by decide +kernel⟩
theorem lkX10_241 : kWd (.methodLink RX10 241 yX10_findMix) := ⟨kin5 (List.mem_of_getElem? (i := 16) (by decide +kernel)), by decide +kernel⟩
theorem kcX10_245 : kWd (.constantLong RX10 245 (-1000000000000000005)) := ⟨kin5 (List.mem_of_getElem? (i := 20) (by decide +kernel)), by decide +kernel⟩
theorem lkL_107 : kWd (.methodLink RL 107 yX10_fall) := ⟨kin5 (List.mem_of_getElem? (i := 21) (by decide +kernel)), by decide +kernel⟩
theorem lkX10_247 : kWd (.methodLink RX10 247 yX10_less) := ⟨kin5 (List.mem_of_getElem? (i := 25) (by decide +kernel)), by decide +kernel⟩
theorem lkL_112 : kWd (.methodLink RL 112 yX10_alone) := ⟨kin5 (List.mem_of_getElem? (i := 28) (by decide +kernel)), by decide +kernel⟩
theorem lkX10_257 : kWd (.methodLink RX10 257 yX10_areShares) := ⟨kin5 (List.mem_of_getElem? (i := 32) (by decide +kernel)), by decide +kernel⟩
theorem lkX10_260 : kWd (.methodLink RX10 260 yX10_findEnd) := ⟨kin5 (List.mem_of_getElem? (i := 35) (by decide +kernel)), by decide +kernel⟩
theorem lkL_116 : kWd (.methodLink RL 116 yX10_mean) := ⟨kin5 (List.mem_of_getElem? (i := 39) (by decide +kernel)), by decide +kernel⟩
theorem lkX10_264 : kWd (.methodLink RX10 264 yX10_sumOf) := ⟨kin5 (List.mem_of_getElem? (i := 43) (by decide +kernel)), by decide +kernel⟩
theorem lkL_120 : kWd (.methodLink RL 120 yX10_mode) := ⟨kin5 (List.mem_of_getElem? (i := 47) (by decide +kernel)), by decide +kernel⟩
theorem lkX10_268 : kWd (.methodLink RX10 268 yX10_modeOf) := ⟨kin5 (List.mem_of_getElem? (i := 51) (by decide +kernel)), by decide +kernel⟩
theorem lkL_124 : kWd (.methodLink RL 124 yX10_about) := ⟨kin5 (List.mem_of_getElem? (i := 55) (by decide +kernel)), by decide +kernel⟩
theorem kcX10_271 : kWd (.constantLong RX10 271 (-1000000000000000003)) := ⟨kin5 (List.mem_of_getElem? (i := 59) (by decide +kernel)), by decide +kernel⟩
theorem lkL_128 : kWd (.methodLink RL 128 yX10_beside) := ⟨kin5 (List.mem_of_getElem? (i := 60) (by decide +kernel)), by decide +kernel⟩
theorem lkL_132 : kWd (.methodLink RL 132 yX10_shorter) := ⟨kin5 (List.mem_of_getElem? (i := 64) (by decide +kernel)), by decide +kernel⟩
theorem lkL_137 : kWd (.methodLink RL 137 yX10_make) := ⟨kin5 (List.mem_of_getElem? (i := 68) (by decide +kernel)), by decide +kernel⟩
theorem lkX10_290 : kWd (.methodLink RX10 290 yX10_isWorld) := ⟨kin5 (List.mem_of_getElem? (i := 72) (by decide +kernel)), by decide +kernel⟩
theorem kcX10_286 : kWd (.constantLong RX10 286 (9999)) := ⟨kin5 (List.mem_of_getElem? (i := 75) (by decide +kernel)), by decide +kernel⟩
theorem kcX10_288 : kWd (.constantLong RX10 288 (200)) := ⟨kin5 (List.mem_of_getElem? (i := 76) (by decide +kernel)), by decide +kernel⟩
theorem lkX10_293 : kWd (.methodLink RX10 293 yX10_makeIn) := ⟨kin5 (List.mem_of_getElem? (i := 77) (by decide +kernel)), by decide +kernel⟩
theorem lkX10_277 : kWd (.methodLink RX10 277 yX10_draw) := ⟨kin5 (List.mem_of_getElem? (i := 81) (by decide +kernel)), by decide +kernel⟩
theorem kcX10_276 : kWd (.constant RX10 276 (65537)) := ⟨kin5 (List.mem_of_getElem? (i := 85) (by decide +kernel)), by decide +kernel⟩
theorem lkX10_280 : kWd (.methodLink RX10 280 yX10_heightOf) := ⟨kin5 (List.mem_of_getElem? (i := 86) (by decide +kernel)), by decide +kernel⟩
theorem lkX10_283 : kWd (.methodLink RX10 283 yX10_writtenAt) := ⟨kin5 (List.mem_of_getElem? (i := 90) (by decide +kernel)), by decide +kernel⟩
theorem lkL_142 : kWd (.methodLink RL 142 yX10_off) := ⟨kin5 (List.mem_of_getElem? (i := 94) (by decide +kernel)), by decide +kernel⟩
theorem kcX10_299 : kWd (.constantLong RX10 299 (3)) := ⟨kin5 (List.mem_of_getElem? (i := 98) (by decide +kernel)), by decide +kernel⟩
theorem lkX10_301 : kWd (.methodLink RX10 301 yX10_offOf) := ⟨kin5 (List.mem_of_getElem? (i := 99) (by decide +kernel)), by decide +kernel⟩
theorem lkX10_296 : kWd (.methodLink RX10 296 yX10_undone) := ⟨kin5 (List.mem_of_getElem? (i := 103) (by decide +kernel)), by decide +kernel⟩
theorem lkL_147 : kWd (.methodLink RL 147 yX10_best) := ⟨kin5 (List.mem_of_getElem? (i := 107) (by decide +kernel)), by decide +kernel⟩
theorem lkL_151 : kWd (.methodLink RL 151 yX10_image) := ⟨kin5 (List.mem_of_getElem? (i := 111) (by decide +kernel)), by decide +kernel⟩
theorem lkX10_315 : kWd (.methodLink RX10 315 yX10_passAll) := ⟨kin5 (List.mem_of_getElem? (i := 115) (by decide +kernel)), by decide +kernel⟩
theorem lkX10_312 : kWd (.methodLink RX10 312 yX10_pass) := ⟨kin5 (List.mem_of_getElem? (i := 119) (by decide +kernel)), by decide +kernel⟩
theorem lkL_155 : kWd (.methodLink RL 155 yX10_restore) := ⟨kin5 (List.mem_of_getElem? (i := 123) (by decide +kernel)), by decide +kernel⟩
theorem lkL_159 : kWd (.methodLink RL 159 yX10_told) := ⟨kin5 (List.mem_of_getElem? (i := 127) (by decide +kernel)), by decide +kernel⟩
theorem kcX10_318 : kWd (.constantLong RX10 318 (7)) := ⟨kin5 (List.mem_of_getElem? (i := 131) (by decide +kernel)), by decide +kernel⟩
theorem kcX10_320 : kWd (.constantLong RX10 320 (15)) := ⟨kin5 (List.mem_of_getElem? (i := 132) (by decide +kernel)), by decide +kernel⟩
theorem kcX10_322 : kWd (.constantLong RX10 322 (20)) := ⟨kin5 (List.mem_of_getElem? (i := 133) (by decide +kernel)), by decide +kernel⟩
theorem kcX10_324 : kWd (.constantLong RX10 324 (25)) := ⟨kin5 (List.mem_of_getElem? (i := 134) (by decide +kernel)), by decide +kernel⟩
theorem kcX10_326 : kWd (.constantLong RX10 326 (30)) := ⟨kin5 (List.mem_of_getElem? (i := 135) (by decide +kernel)), by decide +kernel⟩
theorem kcX10_328 : kWd (.constantLong RX10 328 (35)) := ⟨kin5 (List.mem_of_getElem? (i := 136) (by decide +kernel)), by decide +kernel⟩
theorem kcX10_330 : kWd (.constantLong RX10 330 (45)) := ⟨kin5 (List.mem_of_getElem? (i := 137) (by decide +kernel)), by decide +kernel⟩
/-- words that a state keeps too, by laws of their own -/
def kNst : List Cond := [.methodLinkNest RX9 9 yX7_init RX9, .arrayOver (.object "KingsInches$Book"), .methodLinkNest RX2 19 yX7_init RX9, .fieldLinkNest RX2 27 RX9 "MOST_WAY" "[I" RX9, .methodLinkNest RX2 34 yX0_init RX9, .fieldLinkNest RX0 15 RX9 "FIRST_ENTRY" "[I" RX9, .castable "[I" "java/lang/Cloneable", .arrayOver (.object "KingsInches$Holding"), .arrayOver (.array .int), .methodLinkNest RX9 56 yX0_init RX9, .methodLinkNest RX2 48 yX9_within RX9, .methodLinkNest RX0 26 yX9_isHeight RX9, .methodLinkNest RX0 34 yX9_within RX9, .methodLinkNest RX2 78 yX9_nearestInch RX9, .methodLinkNest RX4 41 yX9_isHeight RX9, .methodLinkNest RX4 62 yX9_nearestInch RX9]
theorem lnX9_9 : (.methodLinkNest RX9 9 yX7_init RX9 : Cond) ∈ kNst := List.mem_of_getElem? (i := 0) rfl
theorem la_1 : (.arrayOver (.object "KingsInches$Book") : Cond) ∈ kNst := List.mem_of_getElem? (i := 1) rfl
theorem lnX2_19 : (.methodLinkNest RX2 19 yX7_init RX9 : Cond) ∈ kNst := List.mem_of_getElem? (i := 2) rfl
theorem lfX2_27 : (.fieldLinkNest RX2 27 RX9 "MOST_WAY" "[I" RX9 : Cond) ∈ kNst := List.mem_of_getElem? (i := 3) rfl
theorem lnX2_34 : (.methodLinkNest RX2 34 yX0_init RX9 : Cond) ∈ kNst := List.mem_of_getElem? (i := 4) rfl
theorem lfX0_15 : (.fieldLinkNest RX0 15 RX9 "FIRST_ENTRY" "[I" RX9 : Cond) ∈ kNst := List.mem_of_getElem? (i := 5) rfl
theorem lc_0 : (.castable "[I" "java/lang/Cloneable" : Cond) ∈ kNst := List.mem_of_getElem? (i := 6) rfl
theorem la_7 : (.arrayOver (.object "KingsInches$Holding") : Cond) ∈ kNst := List.mem_of_getElem? (i := 7) rfl
theorem la_8 : (.arrayOver (.array .int) : Cond) ∈ kNst := List.mem_of_getElem? (i := 8) rfl
theorem lnX9_56 : (.methodLinkNest RX9 56 yX0_init RX9 : Cond) ∈ kNst := List.mem_of_getElem? (i := 9) rfl
theorem lnX2_48 : (.methodLinkNest RX2 48 yX9_within RX9 : Cond) ∈ kNst := List.mem_of_getElem? (i := 10) rfl
theorem lnX0_26 : (.methodLinkNest RX0 26 yX9_isHeight RX9 : Cond) ∈ kNst := List.mem_of_getElem? (i := 11) rfl
theorem lnX0_34 : (.methodLinkNest RX0 34 yX9_within RX9 : Cond) ∈ kNst := List.mem_of_getElem? (i := 12) rfl
theorem lnX2_78 : (.methodLinkNest RX2 78 yX9_nearestInch RX9 : Cond) ∈ kNst := List.mem_of_getElem? (i := 13) rfl
theorem lnX4_41 : (.methodLinkNest RX4 41 yX9_isHeight RX9 : Cond) ∈ kNst := List.mem_of_getElem? (i := 14) rfl
theorem lnX4_62 : (.methodLinkNest RX4 62 yX9_nearestInch RX9 : Cond) ∈ kNst := List.mem_of_getElem? (i := 15) rfl
theorem kNst_in : ∀ w ∈ kNst, w ∈ lw_tbl := by
  intro w h
  simp only [kNst, List.mem_cons, List.not_mem_nil, or_false] at h
  rcases h with rfl | rfl | rfl | rfl | rfl | rfl | rfl | rfl | rfl | rfl | rfl | rfl | rfl | rfl | rfl | rfl
  · exact kin1 (List.mem_of_getElem? (i := 25) (by decide +kernel))
  · exact kin1 (List.mem_of_getElem? (i := 47) (by decide +kernel))
  · exact kin1 (List.mem_of_getElem? (i := 49) (by decide +kernel))
  · exact kin1 (List.mem_of_getElem? (i := 50) (by decide +kernel))
  · exact kin1 (List.mem_of_getElem? (i := 53) (by decide +kernel))
  · exact kin1 (List.mem_of_getElem? (i := 57) (by decide +kernel))
  · exact kin1 (List.mem_of_getElem? (i := 64) (by decide +kernel))
  · exact kin1 (List.mem_of_getElem? (i := 94) (by decide +kernel))
  · exact kin1 (List.mem_of_getElem? (i := 102) (by decide +kernel))
  · exact kin1 (List.mem_of_getElem? (i := 156) (by decide +kernel))
  · exact kin1 (List.mem_of_getElem? (i := 190) (by decide +kernel))
  · exact kin1 (List.mem_of_getElem? (i := 205) (by decide +kernel))
  · exact kin1 (List.mem_of_getElem? (i := 218) (by decide +kernel))
  · exact kin2 (List.mem_of_getElem? (i := 190) (by decide +kernel))
  · exact kin3 (List.mem_of_getElem? (i := 122) (by decide +kernel))
  · exact kin3 (List.mem_of_getElem? (i := 128) (by decide +kernel))
