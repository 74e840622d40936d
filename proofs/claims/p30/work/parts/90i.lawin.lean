/-! THE LAW: its words stand in the tables -/
set_option maxRecDepth 20000 in
theorem in_wsL_law_r2 : ∀ w ∈ wsL_law_r2, w ∈ lw_tbl := fun w h => (goodIn_p wsL_law_r2 [31] (by decide +kernel) (by decide +kernel) w h).1
set_option maxRecDepth 20000 in
theorem in_wsL_law_r3 : ∀ w ∈ wsL_law_r3, w ∈ lw_tbl := fun w h => (goodIn_p wsL_law_r3 [41, 48, 88, 125, 217] (by decide +kernel) (by decide +kernel) w h).1
def wsL_law_r4_q0 : List Cond := [Cond.fieldLink RX2 11 "RoomTails$History" "states" "[LRoomTails$House;", Cond.methodLink RX2 17 yX3_init, Cond.instanceMethod yX6_init, Cond.code yX6_init cX6_init 1 none, Cond.methodLink RX6 3 objectInit, Cond.arrayClass .char, Cond.fieldLink RX6 9 "RoomTails$Script" "characters" "[C", Cond.classLink RX6 15 RX1, Cond.fieldLink RX6 18 "RoomTails$Script" "entry" "LRoomTails$Entry;", Cond.methodLink RL 97 yL_isSo, Cond.static yL_isSo, Cond.initialized RL]
set_option maxRecDepth 20000 in
theorem in_wsL_law_r4_q0 : ∀ w ∈ wsL_law_r4_q0, w ∈ lw_tbl := fun w h => (goodIn_p wsL_law_r4_q0 [234] (by decide +kernel) (by decide +kernel) w h).1
def wsL_law_r4_q2 : List Cond := [Cond.methodLink RL 77 yX7_roomOf, Cond.instanceMethod yX7_roomOf, Cond.selects RX7 yX7_roomOf yX7_roomOf, Cond.code yX7_roomOf cX7_roomOf 4 (some .int), Cond.fieldLink RX7 104 "RoomTails$Room" "volume" "I", Cond.fieldLink RX7 109 "RoomTails$Room" "absorption" "I", Cond.fieldLink RX7 112 "RoomTails$Room" "energy" "I", Cond.fieldLink RX7 123 "RoomTails$Room" "absorbed" "I", Cond.fieldLink RX7 126 "RoomTails$Room" "given" "I", Cond.fieldLink RX7 132 "RoomTails$House" "plan" "LRoomTails$Plan;", Cond.fieldLink RX7 136 "RoomTails$House" "present" "I"]
set_option maxRecDepth 20000 in
theorem in_wsL_law_r4_q2 : ∀ w ∈ wsL_law_r4_q2, w ∈ lw_tbl := fun w h => (goodIn_p wsL_law_r4_q2 [601] (by decide +kernel) (by decide +kernel) w h).1
theorem in_wsL_law_r4 : ∀ w ∈ wsL_law_r4, w ∈ lw_tbl := by
  show ∀ w ∈ (wsL_law_r4_q0 ++ (Cond.code yL_isSo cL_isSo 14 (some .boolean) :: wsL_law_r4_q2)), w ∈ lw_tbl
  exact (List.forall_mem_append.mpr ⟨in_wsL_law_r4_q0, (List.forall_mem_cons.mpr ⟨sp_isSo, in_wsL_law_r4_q2⟩)⟩)
set_option maxRecDepth 20000 in
theorem in_wsL_law_r5 : ∀ w ∈ wsL_law_r5, w ∈ lw_tbl := fun w h => (goodIn_p wsL_law_r5 [372, 413, 605, 609, 385] (by decide +kernel) (by decide +kernel) w h).1
