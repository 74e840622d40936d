/-! names, words, instructions (of claim/NAMES.whole.lean.txt) -/
theorem goodIn_r {big : List Cond} (ws : List Cond) (ps : List Nat) (hp : ws = ps.filterMap (fun i => big[i]?)) (h : ws.all goodWord = true) : GoodIn big ws := by
  intro w hw
  have h1 := List.all_eq_true.mp h w hw
  rw [hp] at hw
  obtain ⟨i, -, hi⟩ := List.mem_filterMap.mp hw
  have hm : w ∈ big := by first | exact List.mem_of_getElem? hi | exact List.getElem?_mem hi
  exact ⟨hm, good_of_word h1⟩
theorem goodIn_app {big a b : List Cond} (ha : GoodIn big a) (hb : GoodIn big b) : GoodIn big (a ++ b) := fun w h => (List.mem_append.mp h).elim (ha w) (hb w)
theorem goodIn_ca {big a b : List Cond} {c : Cond} (ha : GoodIn big (c :: a)) (hb : GoodIn big b) : GoodIn big (c :: (a ++ b)) := fun w h => (List.mem_cons.mp h).elim (fun e => ha w (List.mem_cons.mpr (Or.inl e))) (fun h => (List.mem_append.mp h).elim (fun h => ha w (List.mem_cons.mpr (Or.inr h))) (hb w))
theorem goodIn_sub {big ws : List Cond} (hm : ∀ w ∈ ws, w ∈ big) (h : ws.all goodWord = true) : GoodIn big ws := fun w hw => ⟨hm w hw, good_of_word (List.all_eq_true.mp h w hw)⟩
def RX0 : String := "RoomTails$Door"
def TX0 : u_T := fun k => match k with
  | 0 => ("RoomTails$Door", "sides", "[I", true)
  | 1 => ("RoomTails$Door", "area", "I", false)
  | 2 => ("RoomTails$Door", "speed", "I", false)
  | 3 => ("RoomTails$Door", "delay", "I", false)
  | 4 => ("RoomTails$Door", "opening", "I", false)
  | 5 => ("RoomTails$Door", "target", "I", false)
  | 6 => ("RoomTails$Door", "locked", "Z", false)
  | 7 => ("RoomTails$Door", "gone", "[I", true)
  | 8 => ("RoomTails$Door", "leaving", "[I", true)
  | _ => ("RoomTails$Door", "arriving", "[I", true)
def tyX0 : Nat → FieldType := fun k => match k with
  | 0 => .array .int
  | 1 => .int
  | 2 => .int
  | 3 => .int
  | 4 => .int
  | 5 => .int
  | 6 => .boolean
  | 7 => .array .int
  | 8 => .array .int
  | _ => .array .int
abbrev wsX00 : List Cond := u_ws RX0 TX0 10
theorem nmX0 : ∀ a, a < 10 → ∀ b, b < 10 → a ≠ b → (TX0 a).2.1 ≠ (TX0 b).2.1 := by decide +kernel
theorem tyX0_ok : ∀ k, k < 10 → parseFieldDescriptor (TX0 k).2.2.1 = some (tyX0 k) := by decide +kernel
abbrev cX0_init : ByteArray := prog_2_method_1_code
def yX0_init : MethodName := ⟨RX0, "<init>", "()V"⟩
abbrev cX0_begin : ByteArray := prog_2_method_2_code
def yX0_begin : MethodName := ⟨RX0, "begin", "(IIIII)V"⟩
abbrev cX0_copyFrom : ByteArray := prog_2_method_3_code
def yX0_copyFrom : MethodName := ⟨RX0, "copyFrom", "(LRoomTails$Door;)V"⟩
abbrev cX0_isAt : ByteArray := prog_2_method_4_code
def yX0_isAt : MethodName := ⟨RX0, "isAt", "(I)Z"⟩
abbrev cX0_aimAt : ByteArray := prog_2_method_5_code
def yX0_aimAt : MethodName := ⟨RX0, "aimAt", "(I)V"⟩
abbrev cX0_move : ByteArray := prog_2_method_6_code
def yX0_move : MethodName := ⟨RX0, "move", "()V"⟩
abbrev cX0_send : ByteArray := prog_2_method_7_code
def yX0_send : MethodName := ⟨RX0, "send", "(III)V"⟩
abbrev cX0_takeArrived : ByteArray := prog_2_method_8_code
def yX0_takeArrived : MethodName := ⟨RX0, "takeArrived", "(II)I"⟩
abbrev cX0_energyOnItsWay : ByteArray := prog_2_method_9_code
def yX0_energyOnItsWay : MethodName := ⟨RX0, "energyOnItsWay", "()I"⟩
abbrev cX0_placeOf : ByteArray := prog_2_method_10_code
def yX0_placeOf : MethodName := ⟨RX0, "placeOf", "(II)I"⟩
def RX1 : String := "RoomTails$Entry"
def TX1 : u_T := fun k => match k with
  | 0 => ("RoomTails$Entry", "isSound", "Z", false)
  | 1 => ("RoomTails$Entry", "step", "I", false)
  | 2 => ("RoomTails$Entry", "place", "I", false)
  | 3 => ("RoomTails$Entry", "steps", "I", false)
  | _ => ("RoomTails$Entry", "amount", "I", false)
def tyX1 : Nat → FieldType := fun k => match k with
  | 0 => .boolean
  | 1 => .int
  | 2 => .int
  | 3 => .int
  | _ => .int
abbrev wsX10 : List Cond := u_ws RX1 TX1 5
theorem nmX1 : ∀ a, a < 5 → ∀ b, b < 5 → a ≠ b → (TX1 a).2.1 ≠ (TX1 b).2.1 := by decide +kernel
theorem tyX1_ok : ∀ k, k < 5 → parseFieldDescriptor (TX1 k).2.2.1 = some (tyX1 k) := by decide +kernel
abbrev cX1_init : ByteArray := prog_3_method_1_code
def yX1_init : MethodName := ⟨RX1, "<init>", "()V"⟩
abbrev cX1_becomeSound : ByteArray := prog_3_method_2_code
def yX1_becomeSound : MethodName := ⟨RX1, "becomeSound", "(IIII)V"⟩
abbrev cX1_becomeTarget : ByteArray := prog_3_method_3_code
def yX1_becomeTarget : MethodName := ⟨RX1, "becomeTarget", "(III)V"⟩
abbrev cX1_copyFrom : ByteArray := prog_3_method_4_code
def yX1_copyFrom : MethodName := ⟨RX1, "copyFrom", "(LRoomTails$Entry;)V"⟩
abbrev cX1_isHeardIn : ByteArray := prog_3_method_5_code
def yX1_isHeardIn : MethodName := ⟨RX1, "isHeardIn", "(I)Z"⟩
abbrev cX1_isTargetFor : ByteArray := prog_3_method_6_code
def yX1_isTargetFor : MethodName := ⟨RX1, "isTargetFor", "(I)Z"⟩
abbrev cX1_endsWith : ByteArray := prog_3_method_7_code
def yX1_endsWith : MethodName := ⟨RX1, "endsWith", "(I)Z"⟩
abbrev cX1_allEnergy : ByteArray := prog_3_method_8_code
def yX1_allEnergy : MethodName := ⟨RX1, "allEnergy", "()I"⟩
def RX2 : String := "RoomTails$History"
def TX2 : u_T := fun k => match k with
  | 0 => ("RoomTails$History", "states", "[LRoomTails$House;", true)
  | _ => ("RoomTails$History", "size", "I", false)
def tyX2 : Nat → FieldType := fun k => match k with
  | 0 => .array (.object "RoomTails$House")
  | _ => .int
abbrev wsX20 : List Cond := u_ws RX2 TX2 2
theorem nmX2 : ∀ a, a < 2 → ∀ b, b < 2 → a ≠ b → (TX2 a).2.1 ≠ (TX2 b).2.1 := by decide +kernel
theorem tyX2_ok : ∀ k, k < 2 → parseFieldDescriptor (TX2 k).2.2.1 = some (tyX2 k) := by decide +kernel
abbrev cX2_init : ByteArray := prog_4_method_1_code
def yX2_init : MethodName := ⟨RX2, "<init>", "()V"⟩
abbrev cX2_record : ByteArray := prog_4_method_2_code
def yX2_record : MethodName := ⟨RX2, "record", "(LRoomTails$House;)V"⟩
abbrev cX2_forgetOldest : ByteArray := prog_4_method_3_code
def yX2_forgetOldest : MethodName := ⟨RX2, "forgetOldest", "()V"⟩
def RX3 : String := "RoomTails$House"
def TX3 : u_T := fun k => match k with
  | 0 => ("RoomTails$House", "rooms", "[LRoomTails$Room;", true)
  | 1 => ("RoomTails$House", "doors", "[LRoomTails$Door;", true)
  | 2 => ("RoomTails$House", "plan", "LRoomTails$Plan;", true)
  | 3 => ("RoomTails$House", "settings", "[I", true)
  | 4 => ("RoomTails$House", "roomCount", "I", false)
  | 5 => ("RoomTails$House", "doorCount", "I", false)
  | 6 => ("RoomTails$House", "present", "I", false)
  | 7 => ("RoomTails$House", "escaped", "I", false)
  | 8 => ("RoomTails$House", "toldEnergy", "I", false)
  | _ => ("RoomTails$House", "openedAmidSound", "I", false)
def tyX3 : Nat → FieldType := fun k => match k with
  | 0 => .array (.object "RoomTails$Room")
  | 1 => .array (.object "RoomTails$Door")
  | 2 => .object "RoomTails$Plan"
  | 3 => .array .int
  | 4 => .int
  | 5 => .int
  | 6 => .int
  | 7 => .int
  | 8 => .int
  | _ => .int
abbrev wsX30 : List Cond := u_ws RX3 TX3 10
theorem nmX3 : ∀ a, a < 10 → ∀ b, b < 10 → a ≠ b → (TX3 a).2.1 ≠ (TX3 b).2.1 := by decide +kernel
theorem tyX3_ok : ∀ k, k < 10 → parseFieldDescriptor (TX3 k).2.2.1 = some (tyX3 k) := by decide +kernel
abbrev cX3_init : ByteArray := prog_5_method_1_code
def yX3_init : MethodName := ⟨RX3, "<init>", "()V"⟩
abbrev cX3_copyFrom : ByteArray := prog_5_method_2_code
def yX3_copyFrom : MethodName := ⟨RX3, "copyFrom", "(LRoomTails$House;)V"⟩
abbrev cX3_roomAt : ByteArray := prog_5_method_3_code
def yX3_roomAt : MethodName := ⟨RX3, "roomAt", "(I)LRoomTails$Room;"⟩
abbrev cX3_doorAt : ByteArray := prog_5_method_4_code
def yX3_doorAt : MethodName := ⟨RX3, "doorAt", "(I)LRoomTails$Door;"⟩
abbrev cX3_addRoom : ByteArray := prog_5_method_5_code
def yX3_addRoom : MethodName := ⟨RX3, "addRoom", "(II)I"⟩
abbrev cX3_addDoor : ByteArray := prog_5_method_6_code
def yX3_addDoor : MethodName := ⟨RX3, "addDoor", "(IIIII)I"⟩
abbrev cX3_hasWallFor : ByteArray := prog_5_method_7_code
def yX3_hasWallFor : MethodName := ⟨RX3, "hasWallFor", "(II)Z"⟩
abbrev cX3_doorsOf : ByteArray := prog_5_method_8_code
def yX3_doorsOf : MethodName := ⟨RX3, "doorsOf", "(I)I"⟩
abbrev cX3_reasonToRefuse : ByteArray := prog_5_method_9_code
def yX3_reasonToRefuse : MethodName := ⟨RX3, "reasonToRefuse", "(LRoomTails$Door;I)I"⟩
abbrev cX3_densityAt : ByteArray := prog_5_method_11_code
def yX3_densityAt : MethodName := ⟨RX3, "densityAt", "(I)I"⟩
abbrev cX3_energyInRooms : ByteArray := prog_5_method_13_code
def yX3_energyInRooms : MethodName := ⟨RX3, "energyInRooms", "()I"⟩
abbrev cX3_energyOnItsWay : ByteArray := prog_5_method_14_code
def yX3_energyOnItsWay : MethodName := ⟨RX3, "energyOnItsWay", "()I"⟩
abbrev cX3_energyAbsorbed : ByteArray := prog_5_method_15_code
def yX3_energyAbsorbed : MethodName := ⟨RX3, "energyAbsorbed", "()I"⟩
abbrev cX3_energyGiven : ByteArray := prog_5_method_16_code
def yX3_energyGiven : MethodName := ⟨RX3, "energyGiven", "()I"⟩
abbrev cX3_take : ByteArray := prog_5_method_19_code
def yX3_take : MethodName := ⟨RX3, "take", "(LRoomTails$Entry;)V"⟩
abbrev cX3_goOn : ByteArray := prog_5_method_20_code
def yX3_goOn : MethodName := ⟨RX3, "goOn", "()V"⟩
abbrev cX3_aimPlannedDoors : ByteArray := prog_5_method_21_code
def yX3_aimPlannedDoors : MethodName := ⟨RX3, "aimPlannedDoors", "()V"⟩
abbrev cX3_moveDoors : ByteArray := prog_5_method_22_code
def yX3_moveDoors : MethodName := ⟨RX3, "moveDoors", "()V"⟩
abbrev cX3_giveSounds : ByteArray := prog_5_method_23_code
def yX3_giveSounds : MethodName := ⟨RX3, "giveSounds", "()V"⟩
abbrev cX3_wouldGo : ByteArray := prog_5_method_24_code
def yX3_wouldGo : MethodName := ⟨RX3, "wouldGo", "(LRoomTails$Door;I)I"⟩
abbrev cX3_sendThroughDoors : ByteArray := prog_5_method_25_code
def yX3_sendThroughDoors : MethodName := ⟨RX3, "sendThroughDoors", "()V"⟩
abbrev cX3_letArrive : ByteArray := prog_5_method_26_code
def yX3_letArrive : MethodName := ⟨RX3, "letArrive", "()V"⟩
def RX4 : String := "RoomTails$Plan"
def TX4 : u_T := fun k => match k with
  | 0 => ("RoomTails$Plan", "entries", "[LRoomTails$Entry;", true)
  | _ => ("RoomTails$Plan", "size", "I", false)
def tyX4 : Nat → FieldType := fun k => match k with
  | 0 => .array (.object "RoomTails$Entry")
  | _ => .int
abbrev wsX40 : List Cond := u_ws RX4 TX4 2
theorem nmX4 : ∀ a, a < 2 → ∀ b, b < 2 → a ≠ b → (TX4 a).2.1 ≠ (TX4 b).2.1 := by decide +kernel
theorem tyX4_ok : ∀ k, k < 2 → parseFieldDescriptor (TX4 k).2.2.1 = some (tyX4 k) := by decide +kernel
abbrev cX4_init : ByteArray := prog_6_method_1_code
def yX4_init : MethodName := ⟨RX4, "<init>", "()V"⟩
abbrev cX4_copyFrom : ByteArray := prog_6_method_2_code
def yX4_copyFrom : MethodName := ⟨RX4, "copyFrom", "(LRoomTails$Plan;)V"⟩
abbrev cX4_isFull : ByteArray := prog_6_method_3_code
def yX4_isFull : MethodName := ⟨RX4, "isFull", "()Z"⟩
abbrev cX4_entryAt : ByteArray := prog_6_method_4_code
def yX4_entryAt : MethodName := ⟨RX4, "entryAt", "(I)LRoomTails$Entry;"⟩
abbrev cX4_insert : ByteArray := prog_6_method_5_code
def yX4_insert : MethodName := ⟨RX4, "insert", "(LRoomTails$Entry;)V"⟩
abbrev cX4_drop : ByteArray := prog_6_method_6_code
def yX4_drop : MethodName := ⟨RX4, "drop", "(I)V"⟩
abbrev cX4_dropEnded : ByteArray := prog_6_method_7_code
def yX4_dropEnded : MethodName := ⟨RX4, "dropEnded", "(I)V"⟩
abbrev cX4_soundsHeard : ByteArray := prog_6_method_10_code
def yX4_soundsHeard : MethodName := ⟨RX4, "soundsHeard", "(II)I"⟩
def RX5 : String := "RoomTails$Room"
def TX5 : u_T := fun k => match k with
  | 0 => ("RoomTails$Room", "volume", "I", false)
  | 1 => ("RoomTails$Room", "absorption", "I", false)
  | 2 => ("RoomTails$Room", "energy", "I", false)
  | 3 => ("RoomTails$Room", "absorbed", "I", false)
  | 4 => ("RoomTails$Room", "given", "I", false)
  | 5 => ("RoomTails$Room", "firstStep", "I", false)
  | _ => ("RoomTails$Room", "energies", "[I", true)
def tyX5 : Nat → FieldType := fun k => match k with
  | 0 => .int
  | 1 => .int
  | 2 => .int
  | 3 => .int
  | 4 => .int
  | 5 => .int
  | _ => .array .int
abbrev wsX50 : List Cond := u_ws RX5 TX5 7
theorem nmX5 : ∀ a, a < 7 → ∀ b, b < 7 → a ≠ b → (TX5 a).2.1 ≠ (TX5 b).2.1 := by decide +kernel
theorem tyX5_ok : ∀ k, k < 7 → parseFieldDescriptor (TX5 k).2.2.1 = some (tyX5 k) := by decide +kernel
abbrev cX5_init : ByteArray := prog_7_method_1_code
def yX5_init : MethodName := ⟨RX5, "<init>", "()V"⟩
abbrev cX5_begin : ByteArray := prog_7_method_2_code
def yX5_begin : MethodName := ⟨RX5, "begin", "(III)V"⟩
abbrev cX5_copyFrom : ByteArray := prog_7_method_3_code
def yX5_copyFrom : MethodName := ⟨RX5, "copyFrom", "(LRoomTails$Room;)V"⟩
abbrev cX5_density : ByteArray := prog_7_method_4_code
def yX5_density : MethodName := ⟨RX5, "density", "()I"⟩
abbrev cX5_keepEnergy : ByteArray := prog_7_method_6_code
def yX5_keepEnergy : MethodName := ⟨RX5, "keepEnergy", "(I)V"⟩
abbrev cX5_hear : ByteArray := prog_7_method_7_code
def yX5_hear : MethodName := ⟨RX5, "hear", "(I)V"⟩
abbrev cX5_absorbShare : ByteArray := prog_7_method_8_code
def yX5_absorbShare : MethodName := ⟨RX5, "absorbShare", "()V"⟩
abbrev cX5_shareThrough : ByteArray := prog_7_method_9_code
def yX5_shareThrough : MethodName := ⟨RX5, "shareThrough", "(LRoomTails$Door;)I"⟩
def RX6 : String := "RoomTails$Script"
def TX6 : u_T := fun k => match k with
  | 0 => ("RoomTails$Script", "characters", "[C", true)
  | 1 => ("RoomTails$Script", "length", "I", false)
  | 2 => ("RoomTails$Script", "faultPosition", "I", false)
  | 3 => ("RoomTails$Script", "faultReason", "I", false)
  | 4 => ("RoomTails$Script", "at", "I", false)
  | _ => ("RoomTails$Script", "entry", "LRoomTails$Entry;", true)
def tyX6 : Nat → FieldType := fun k => match k with
  | 0 => .array .char
  | 1 => .int
  | 2 => .int
  | 3 => .int
  | 4 => .int
  | _ => .object "RoomTails$Entry"
abbrev wsX60 : List Cond := u_ws RX6 TX6 6
theorem nmX6 : ∀ a, a < 6 → ∀ b, b < 6 → a ≠ b → (TX6 a).2.1 ≠ (TX6 b).2.1 := by decide +kernel
theorem tyX6_ok : ∀ k, k < 6 → parseFieldDescriptor (TX6 k).2.2.1 = some (tyX6 k) := by decide +kernel
abbrev cX6_init : ByteArray := prog_8_method_1_code
def yX6_init : MethodName := ⟨RX6, "<init>", "()V"⟩
def RX7 : String := "RoomTails"
def TX7 : u_T := fun k => match k with
  | 0 => ("RoomTails", "house", "LRoomTails$House;", true)
  | 1 => ("RoomTails", "ahead", "LRoomTails$House;", true)
  | 2 => ("RoomTails", "history", "LRoomTails$History;", true)
  | 3 => ("RoomTails", "script", "LRoomTails$Script;", true)
  | _ => ("RoomTails", "told", "LRoomTails$Entry;", true)
def tyX7 : Nat → FieldType := fun k => match k with
  | 0 => .object "RoomTails$House"
  | 1 => .object "RoomTails$House"
  | 2 => .object "RoomTails$History"
  | 3 => .object "RoomTails$Script"
  | _ => .object "RoomTails$Entry"
abbrev wsX70 : List Cond := u_ws RX7 TX7 5
theorem nmX7 : ∀ a, a < 5 → ∀ b, b < 5 → a ≠ b → (TX7 a).2.1 ≠ (TX7 b).2.1 := by decide +kernel
theorem tyX7_ok : ∀ k, k < 5 → parseFieldDescriptor (TX7 k).2.2.1 = some (tyX7 k) := by decide +kernel
abbrev cX7_init : ByteArray := prog_1_method_1_code
def yX7_init : MethodName := ⟨RX7, "<init>", "()V"⟩
abbrev cX7_room : ByteArray := prog_1_method_2_code
def yX7_room : MethodName := ⟨RX7, "room", "(II)I"⟩
abbrev cX7_door : ByteArray := prog_1_method_3_code
def yX7_door : MethodName := ⟨RX7, "door", "(IIIII)I"⟩
abbrev cX7_open : ByteArray := prog_1_method_4_code
def yX7_open : MethodName := ⟨RX7, "open", "(II)I"⟩
abbrev cX7_lock : ByteArray := prog_1_method_6_code
def yX7_lock : MethodName := ⟨RX7, "lock", "(II)I"⟩
abbrev cX7_set : ByteArray := prog_1_method_7_code
def yX7_set : MethodName := ⟨RX7, "set", "(II)I"⟩
abbrev cX7_roomOf : ByteArray := prog_1_method_8_code
def yX7_roomOf : MethodName := ⟨RX7, "roomOf", "(II)I"⟩
abbrev cX7_doorOf : ByteArray := prog_1_method_9_code
def yX7_doorOf : MethodName := ⟨RX7, "doorOf", "(II)I"⟩
abbrev cX7_count : ByteArray := prog_1_method_10_code
def yX7_count : MethodName := ⟨RX7, "count", "(I)I"⟩
abbrev cX7_sound : ByteArray := prog_1_method_12_code
def yX7_sound : MethodName := ⟨RX7, "sound", "(IIII)I"⟩
abbrev cX7_planDoor : ByteArray := prog_1_method_13_code
def yX7_planDoor : MethodName := ⟨RX7, "planDoor", "(III)I"⟩
abbrev cX7_cancel : ByteArray := prog_1_method_14_code
def yX7_cancel : MethodName := ⟨RX7, "cancel", "(I)I"⟩
abbrev cX7_plan : ByteArray := prog_1_method_15_code
def yX7_plan : MethodName := ⟨RX7, "plan", "(II)I"⟩
abbrev cX7_pass : ByteArray := prog_1_method_16_code
def yX7_pass : MethodName := ⟨RX7, "pass", "(I)I"⟩
abbrev cX7_isWithin : ByteArray := prog_1_method_29_code
def yX7_isWithin : MethodName := ⟨RX7, "isWithin", "(III)Z"⟩
abbrev cX7_levelOf : ByteArray := prog_1_method_30_code
def yX7_levelOf : MethodName := ⟨RX7, "levelOf", "(I)I"⟩
abbrev cX7_isRoomOrOutside : ByteArray := prog_1_method_31_code
def yX7_isRoomOrOutside : MethodName := ⟨RX7, "isRoomOrOutside", "(I)Z"⟩
def RX8 : String := "RoomTailsModel"
def TX8 : u_T := fun k => match k with
  | _ => ("", "", "", false)
def tyX8 : Nat → FieldType := fun k => match k with
  | _ => .int
abbrev wsX80 : List Cond := u_ws RX8 TX8 0
theorem nmX8 : ∀ a, a < 0 → ∀ b, b < 0 → a ≠ b → (TX8 a).2.1 ≠ (TX8 b).2.1 := by decide +kernel
theorem tyX8_ok : ∀ k, k < 0 → parseFieldDescriptor (TX8 k).2.2.1 = some (tyX8 k) := by decide +kernel
def RJ9 : String := "java/lang/Math"
def TJ9 : u_T := fun k => match k with
  | _ => ("", "", "", false)
def tyJ9 : Nat → FieldType := fun k => match k with
  | _ => .int
abbrev wsJ90 : List Cond := u_ws RJ9 TJ9 0
theorem nmJ9 : ∀ a, a < 0 → ∀ b, b < 0 → a ≠ b → (TJ9 a).2.1 ≠ (TJ9 b).2.1 := by decide +kernel
theorem tyJ9_ok : ∀ k, k < 0 → parseFieldDescriptor (TJ9 k).2.2.1 = some (tyJ9 k) := by decide +kernel
abbrev cJ9_floorMod_7cf53 : ByteArray := prog_11_method_50_code
def yJ9_floorMod_7cf53 : MethodName := ⟨RJ9, "floorMod", "(II)I"⟩
abbrev cJ9_abs_0f7a4 : ByteArray := prog_11_method_59_code
def yJ9_abs_0f7a4 : MethodName := ⟨RJ9, "abs", "(I)I"⟩
abbrev cJ9_max_7cf53 : ByteArray := prog_11_method_65_code
def yJ9_max_7cf53 : MethodName := ⟨RJ9, "max", "(II)I"⟩
abbrev cJ9_min_7cf53 : ByteArray := prog_11_method_69_code
def yJ9_min_7cf53 : MethodName := ⟨RJ9, "min", "(II)I"⟩
def RJ10 : String := "java/lang/System"
def TJ10 : u_T := fun k => match k with
  | _ => ("", "", "", false)
def tyJ10 : Nat → FieldType := fun k => match k with
  | _ => .int
abbrev wsJ100 : List Cond := u_ws RJ10 TJ10 0
theorem nmJ10 : ∀ a, a < 0 → ∀ b, b < 0 → a ≠ b → (TJ10 a).2.1 ≠ (TJ10 b).2.1 := by decide +kernel
theorem tyJ10_ok : ∀ k, k < 0 → parseFieldDescriptor (TJ10 k).2.2.1 = some (tyJ10 k) := by decide +kernel
def RL : String := "RoomTailsLaw"
def wsX0_init : List Cond := .code yX0_init cX0_init 1 none :: ([.methodLink RX0 3 objectInit, .instanceMethod objectInit, .code objectInit ⟨#[0xb1]⟩ 1 none, .arrayClass .int, .fieldLink RX0 9 "RoomTails$Door" "sides" "[I", .fieldLink RX0 15 "RoomTails$Door" "gone" "[I", .fieldLink RX0 18 "RoomTails$Door" "leaving" "[I", .fieldLink RX0 21 "RoomTails$Door" "arriving" "[I"] ++ wsX00)
def wsX0_begin : List Cond := .code yX0_begin cX0_begin 6 none :: ([.fieldLink RX0 9 "RoomTails$Door" "sides" "[I", .fieldLink RX0 24 "RoomTails$Door" "area" "I", .fieldLink RX0 28 "RoomTails$Door" "speed" "I", .fieldLink RX0 31 "RoomTails$Door" "delay" "I"] ++ wsX00)
def wsX0_copyFrom : List Cond := .code yX0_copyFrom cX0_copyFrom 2 none :: ([.fieldLink RX0 24 "RoomTails$Door" "area" "I", .fieldLink RX0 28 "RoomTails$Door" "speed" "I", .fieldLink RX0 31 "RoomTails$Door" "delay" "I", .fieldLink RX0 34 "RoomTails$Door" "opening" "I", .fieldLink RX0 37 "RoomTails$Door" "target" "I", .fieldLink RX0 40 "RoomTails$Door" "locked" "Z", .fieldLink RX0 9 "RoomTails$Door" "sides" "[I", .methodLink RX0 44 arraycopyName, .native arraycopyName, .static arraycopyName, .initialized "java/lang/System", .fieldLink RX0 15 "RoomTails$Door" "gone" "[I", .fieldLink RX0 21 "RoomTails$Door" "arriving" "[I"] ++ wsX00)
def wsX0_isAt : List Cond := .code yX0_isAt cX0_isAt 2 (some .boolean) :: ([.fieldLink RX0 24 "RoomTails$Door" "area" "I", .fieldLink RX0 9 "RoomTails$Door" "sides" "[I"] ++ wsX00)
def wsX0_aimAt : List Cond := .code yX0_aimAt cX0_aimAt 2 none :: ([.fieldLink RX0 40 "RoomTails$Door" "locked" "Z", .fieldLink RX0 37 "RoomTails$Door" "target" "I"] ++ wsX00)
def wsX0_move : List Cond := .code yX0_move cX0_move 1 none :: ([.fieldLink RX0 34 "RoomTails$Door" "opening" "I", .fieldLink RX0 37 "RoomTails$Door" "target" "I", .fieldLink RX0 28 "RoomTails$Door" "speed" "I", .methodLink RX0 50 Lib.Math.min.name, .static Lib.Math.min.name, .initialized "java/lang/Math", .code Lib.Math.min.name Lib.Math.min.code 2 (some .int), .methodLink RX0 56 Lib.Math.max.name, .static Lib.Math.max.name, .code Lib.Math.max.name Lib.Math.max.code 2 (some .int)] ++ wsX00)
def wsJ9_floorMod_7cf53 : List Cond := .code yJ9_floorMod_7cf53 cJ9_floorMod_7cf53 3 (some .int) :: ([])
def wsX0_placeOf : List Cond := .code yX0_placeOf cX0_placeOf 2 (some .int) :: ([.methodLink RX0 62 yJ9_floorMod_7cf53, .static yJ9_floorMod_7cf53, .initialized RJ9, .code yJ9_floorMod_7cf53 cJ9_floorMod_7cf53 3 (some .int)])
def wsX0_send : List Cond := .code yX0_send cX0_send 5 none :: ([.fieldLink RX0 15 "RoomTails$Door" "gone" "[I", .fieldLink RX0 21 "RoomTails$Door" "arriving" "[I", .fieldLink RX0 31 "RoomTails$Door" "delay" "I", .methodLink RX0 59 yX0_placeOf, .static yX0_placeOf, .initialized RX0, .code yX0_placeOf cX0_placeOf 2 (some .int), .methodLink RX0 62 yJ9_floorMod_7cf53, .static yJ9_floorMod_7cf53, .initialized RJ9, .code yJ9_floorMod_7cf53 cJ9_floorMod_7cf53 3 (some .int)] ++ wsX00)
def wsX0_takeArrived : List Cond := .code yX0_takeArrived cX0_takeArrived 5 (some .int) :: ([.fieldLink RX0 21 "RoomTails$Door" "arriving" "[I", .methodLink RX0 59 yX0_placeOf, .static yX0_placeOf, .initialized RX0, .code yX0_placeOf cX0_placeOf 2 (some .int), .methodLink RX0 62 yJ9_floorMod_7cf53, .static yJ9_floorMod_7cf53, .initialized RJ9, .code yJ9_floorMod_7cf53 cJ9_floorMod_7cf53 3 (some .int)] ++ wsX00)
def wsX0_energyOnItsWay : List Cond := .code yX0_energyOnItsWay cX0_energyOnItsWay 6 (some .int) :: ([.fieldLink RX0 21 "RoomTails$Door" "arriving" "[I"] ++ wsX00)
def wsX1_init : List Cond := .code yX1_init cX1_init 1 none :: ([.methodLink RX1 1 objectInit, .instanceMethod objectInit, .code objectInit ⟨#[0xb1]⟩ 1 none])
def wsX1_becomeSound : List Cond := .code yX1_becomeSound cX1_becomeSound 5 none :: ([.fieldLink RX1 7 "RoomTails$Entry" "isSound" "Z", .fieldLink RX1 13 "RoomTails$Entry" "place" "I", .fieldLink RX1 17 "RoomTails$Entry" "step" "I", .fieldLink RX1 20 "RoomTails$Entry" "steps" "I", .fieldLink RX1 23 "RoomTails$Entry" "amount" "I"] ++ wsX10)
def wsX1_becomeTarget : List Cond := .code yX1_becomeTarget cX1_becomeTarget 4 none :: ([.fieldLink RX1 7 "RoomTails$Entry" "isSound" "Z", .fieldLink RX1 13 "RoomTails$Entry" "place" "I", .fieldLink RX1 17 "RoomTails$Entry" "step" "I", .fieldLink RX1 20 "RoomTails$Entry" "steps" "I", .fieldLink RX1 23 "RoomTails$Entry" "amount" "I"] ++ wsX10)
def wsX1_copyFrom : List Cond := .code yX1_copyFrom cX1_copyFrom 2 none :: ([.fieldLink RX1 7 "RoomTails$Entry" "isSound" "Z", .fieldLink RX1 17 "RoomTails$Entry" "step" "I", .fieldLink RX1 13 "RoomTails$Entry" "place" "I", .fieldLink RX1 20 "RoomTails$Entry" "steps" "I", .fieldLink RX1 23 "RoomTails$Entry" "amount" "I"] ++ wsX10)
def wsX1_isHeardIn : List Cond := .code yX1_isHeardIn cX1_isHeardIn 2 (some .boolean) :: ([.fieldLink RX1 7 "RoomTails$Entry" "isSound" "Z", .fieldLink RX1 17 "RoomTails$Entry" "step" "I", .fieldLink RX1 20 "RoomTails$Entry" "steps" "I"] ++ wsX10)
def wsX1_isTargetFor : List Cond := .code yX1_isTargetFor cX1_isTargetFor 2 (some .boolean) :: ([.fieldLink RX1 7 "RoomTails$Entry" "isSound" "Z", .fieldLink RX1 17 "RoomTails$Entry" "step" "I"] ++ wsX10)
def wsX1_endsWith : List Cond := .code yX1_endsWith cX1_endsWith 2 (some .boolean) :: ([.fieldLink RX1 7 "RoomTails$Entry" "isSound" "Z", .fieldLink RX1 17 "RoomTails$Entry" "step" "I", .fieldLink RX1 20 "RoomTails$Entry" "steps" "I"] ++ wsX10)
def wsX1_allEnergy : List Cond := .code yX1_allEnergy cX1_allEnergy 1 (some .int) :: ([.fieldLink RX1 7 "RoomTails$Entry" "isSound" "Z", .fieldLink RX1 20 "RoomTails$Entry" "steps" "I", .fieldLink RX1 23 "RoomTails$Entry" "amount" "I"] ++ wsX10)
def wsX4_init : List Cond := .code yX4_init cX4_init 2 none :: ([.methodLink RX4 3 objectInit, .instanceMethod objectInit, .code objectInit ⟨#[0xb1]⟩ 1 none, .classLink RX4 9 RX1, .fieldLink RX4 11 "RoomTails$Plan" "entries" "[LRoomTails$Entry;", .instantiable RX1 5, .initialized RX1, .instanceMethod yX1_init, .code yX1_init cX1_init 1 none, .methodLink RX1 1 objectInit] ++ wsX40 ++ wsX10)
def wsX5_init : List Cond := .code yX5_init cX5_init 1 none :: ([.methodLink RX5 3 objectInit, .instanceMethod objectInit, .code objectInit ⟨#[0xb1]⟩ 1 none, .arrayClass .int, .fieldLink RX5 9 "RoomTails$Room" "energies" "[I"] ++ wsX50)
def wsX3_init_r1 : List Cond := [Cond.methodLink RX3 3 objectInit, Cond.instanceMethod objectInit, Cond.code objectInit ⟨#[0xb1]⟩ 1 none, Cond.classLink RX3 9 RX5, Cond.fieldLink RX3 11 "RoomTails$House" "rooms" "[LRoomTails$Room;", Cond.classLink RX3 17 RX0, Cond.fieldLink RX3 19 "RoomTails$House" "doors" "[LRoomTails$Door;", Cond.classLink RX3 23 RX4, Cond.instantiable RX4 2, Cond.initialized RX4, Cond.fieldLink RX3 26 "RoomTails$House" "plan" "LRoomTails$Plan;", Cond.arrayClass .int, Cond.constant RX3 30 (1000000), Cond.fieldLink RX3 31 "RoomTails$House" "settings" "[I", Cond.instantiable RX5 7, Cond.initialized RX5, Cond.instantiable RX0 10, Cond.initialized RX0, Cond.methodLink RX3 25 yX4_init, Cond.instanceMethod yX4_init, Cond.code yX4_init cX4_init 2 none, Cond.methodLink RX4 3 objectInit, Cond.classLink RX4 9 RX1, Cond.fieldLink RX4 11 "RoomTails$Plan" "entries" "[LRoomTails$Entry;"]
def wsX3_init_r2 : List Cond := [Cond.instantiable RX1 5, Cond.initialized RX1, Cond.instanceMethod yX1_init, Cond.code yX1_init cX1_init 1 none, Cond.methodLink RX1 1 objectInit, Cond.instanceMethod yX5_init, Cond.code yX5_init cX5_init 1 none, Cond.methodLink RX5 3 objectInit, Cond.fieldLink RX5 9 "RoomTails$Room" "energies" "[I", Cond.instanceMethod yX0_init, Cond.code yX0_init cX0_init 1 none, Cond.methodLink RX0 3 objectInit, Cond.fieldLink RX0 9 "RoomTails$Door" "sides" "[I", Cond.fieldLink RX0 15 "RoomTails$Door" "gone" "[I", Cond.fieldLink RX0 18 "RoomTails$Door" "leaving" "[I", Cond.fieldLink RX0 21 "RoomTails$Door" "arriving" "[I"]
def wsX3_init : List Cond := .code yX3_init cX3_init 2 none :: ((wsX3_init_r1 ++ wsX3_init_r2) ++ wsX30 ++ wsX40 ++ wsX50 ++ wsX00 ++ wsX10)
def wsX2_init_r1 : List Cond := [Cond.methodLink RX2 3 objectInit, Cond.instanceMethod objectInit, Cond.code objectInit ⟨#[0xb1]⟩ 1 none, Cond.classLink RX2 9 RX3, Cond.fieldLink RX2 11 "RoomTails$History" "states" "[LRoomTails$House;", Cond.instantiable RX3 10, Cond.initialized RX3, Cond.methodLink RX2 17 yX3_init, Cond.instanceMethod yX3_init, Cond.code yX3_init cX3_init 2 none, Cond.methodLink RX3 3 objectInit, Cond.classLink RX3 9 RX5, Cond.fieldLink RX3 11 "RoomTails$House" "rooms" "[LRoomTails$Room;", Cond.classLink RX3 17 RX0, Cond.fieldLink RX3 19 "RoomTails$House" "doors" "[LRoomTails$Door;", Cond.classLink RX3 23 RX4, Cond.instantiable RX4 2, Cond.initialized RX4, Cond.fieldLink RX3 26 "RoomTails$House" "plan" "LRoomTails$Plan;", Cond.arrayClass .int, Cond.constant RX3 30 (1000000), Cond.fieldLink RX3 31 "RoomTails$House" "settings" "[I", Cond.instantiable RX5 7, Cond.initialized RX5]
def wsX2_init_r2 : List Cond := [Cond.instantiable RX0 10, Cond.initialized RX0, Cond.methodLink RX3 25 yX4_init, Cond.instanceMethod yX4_init, Cond.code yX4_init cX4_init 2 none, Cond.methodLink RX4 3 objectInit, Cond.classLink RX4 9 RX1, Cond.fieldLink RX4 11 "RoomTails$Plan" "entries" "[LRoomTails$Entry;", Cond.instantiable RX1 5, Cond.initialized RX1, Cond.instanceMethod yX1_init, Cond.code yX1_init cX1_init 1 none, Cond.methodLink RX1 1 objectInit, Cond.instanceMethod yX5_init, Cond.code yX5_init cX5_init 1 none, Cond.methodLink RX5 3 objectInit, Cond.fieldLink RX5 9 "RoomTails$Room" "energies" "[I", Cond.instanceMethod yX0_init, Cond.code yX0_init cX0_init 1 none, Cond.methodLink RX0 3 objectInit, Cond.fieldLink RX0 9 "RoomTails$Door" "sides" "[I", Cond.fieldLink RX0 15 "RoomTails$Door" "gone" "[I", Cond.fieldLink RX0 18 "RoomTails$Door" "leaving" "[I", Cond.fieldLink RX0 21 "RoomTails$Door" "arriving" "[I"]
def wsX2_init : List Cond := .code yX2_init cX2_init 2 none :: ((wsX2_init_r1 ++ wsX2_init_r2) ++ wsX20 ++ wsX30 ++ wsX40 ++ wsX50 ++ wsX00 ++ wsX10)
def wsX2_forgetOldest : List Cond := .code yX2_forgetOldest cX2_forgetOldest 3 none :: ([.fieldLink RX2 11 "RoomTails$History" "states" "[LRoomTails$House;", .fieldLink RX2 18 "RoomTails$History" "size" "I"] ++ wsX20)
def wsX5_copyFrom : List Cond := .code yX5_copyFrom cX5_copyFrom 2 none :: ([.fieldLink RX5 15 "RoomTails$Room" "volume" "I", .fieldLink RX5 19 "RoomTails$Room" "absorption" "I", .fieldLink RX5 25 "RoomTails$Room" "energy" "I", .fieldLink RX5 28 "RoomTails$Room" "absorbed" "I", .fieldLink RX5 31 "RoomTails$Room" "given" "I", .fieldLink RX5 22 "RoomTails$Room" "firstStep" "I", .fieldLink RX5 9 "RoomTails$Room" "energies" "[I", .methodLink RX5 34 arraycopyName, .native arraycopyName, .static arraycopyName, .initialized "java/lang/System"] ++ wsX50)
def wsX4_copyFrom : List Cond := .code yX4_copyFrom cX4_copyFrom 3 none :: ([.fieldLink RX4 18 "RoomTails$Plan" "size" "I", .fieldLink RX4 11 "RoomTails$Plan" "entries" "[LRoomTails$Entry;", .methodLink RX4 22 yX1_copyFrom, .instanceMethod yX1_copyFrom, .selects RX1 yX1_copyFrom yX1_copyFrom, .initialized RX1, .code yX1_copyFrom cX1_copyFrom 2 none, .fieldLink RX1 7 "RoomTails$Entry" "isSound" "Z", .fieldLink RX1 17 "RoomTails$Entry" "step" "I", .fieldLink RX1 13 "RoomTails$Entry" "place" "I", .fieldLink RX1 20 "RoomTails$Entry" "steps" "I", .fieldLink RX1 23 "RoomTails$Entry" "amount" "I"] ++ wsX40 ++ wsX10)
def wsX3_copyFrom_r1 : List Cond := [Cond.fieldLink RX3 11 "RoomTails$House" "rooms" "[LRoomTails$Room;", Cond.fieldLink RX3 19 "RoomTails$House" "doors" "[LRoomTails$Door;", Cond.fieldLink RX3 26 "RoomTails$House" "plan" "LRoomTails$Plan;", Cond.fieldLink RX3 31 "RoomTails$House" "settings" "[I", Cond.methodLink RX3 47 arraycopyName, Cond.native arraycopyName, Cond.static arraycopyName, Cond.initialized "java/lang/System", Cond.fieldLink RX3 53 "RoomTails$House" "roomCount" "I", Cond.fieldLink RX3 57 "RoomTails$House" "doorCount" "I", Cond.fieldLink RX3 60 "RoomTails$House" "present" "I", Cond.fieldLink RX3 63 "RoomTails$House" "escaped" "I", Cond.fieldLink RX3 66 "RoomTails$House" "toldEnergy" "I", Cond.fieldLink RX3 69 "RoomTails$House" "openedAmidSound" "I", Cond.methodLink RX3 37 yX5_copyFrom, Cond.instanceMethod yX5_copyFrom, Cond.selects RX5 yX5_copyFrom yX5_copyFrom, Cond.initialized RX5, Cond.code yX5_copyFrom cX5_copyFrom 2 none, Cond.fieldLink RX5 15 "RoomTails$Room" "volume" "I", Cond.fieldLink RX5 19 "RoomTails$Room" "absorption" "I", Cond.fieldLink RX5 25 "RoomTails$Room" "energy" "I", Cond.fieldLink RX5 28 "RoomTails$Room" "absorbed" "I", Cond.fieldLink RX5 31 "RoomTails$Room" "given" "I"]
def wsX3_copyFrom_r2 : List Cond := [Cond.fieldLink RX5 22 "RoomTails$Room" "firstStep" "I", Cond.fieldLink RX5 9 "RoomTails$Room" "energies" "[I", Cond.methodLink RX5 34 arraycopyName, Cond.methodLink RX3 41 yX0_copyFrom, Cond.instanceMethod yX0_copyFrom, Cond.selects RX0 yX0_copyFrom yX0_copyFrom, Cond.initialized RX0, Cond.code yX0_copyFrom cX0_copyFrom 2 none, Cond.fieldLink RX0 24 "RoomTails$Door" "area" "I", Cond.fieldLink RX0 28 "RoomTails$Door" "speed" "I", Cond.fieldLink RX0 31 "RoomTails$Door" "delay" "I", Cond.fieldLink RX0 34 "RoomTails$Door" "opening" "I", Cond.fieldLink RX0 37 "RoomTails$Door" "target" "I", Cond.fieldLink RX0 40 "RoomTails$Door" "locked" "Z", Cond.fieldLink RX0 9 "RoomTails$Door" "sides" "[I", Cond.methodLink RX0 44 arraycopyName, Cond.fieldLink RX0 15 "RoomTails$Door" "gone" "[I", Cond.fieldLink RX0 21 "RoomTails$Door" "arriving" "[I", Cond.methodLink RX3 44 yX4_copyFrom, Cond.instanceMethod yX4_copyFrom, Cond.selects RX4 yX4_copyFrom yX4_copyFrom, Cond.initialized RX4, Cond.code yX4_copyFrom cX4_copyFrom 3 none, Cond.fieldLink RX4 18 "RoomTails$Plan" "size" "I"]
def wsX3_copyFrom_r3 : List Cond := [Cond.fieldLink RX4 11 "RoomTails$Plan" "entries" "[LRoomTails$Entry;", Cond.methodLink RX4 22 yX1_copyFrom, Cond.instanceMethod yX1_copyFrom, Cond.selects RX1 yX1_copyFrom yX1_copyFrom, Cond.initialized RX1, Cond.code yX1_copyFrom cX1_copyFrom 2 none, Cond.fieldLink RX1 7 "RoomTails$Entry" "isSound" "Z", Cond.fieldLink RX1 17 "RoomTails$Entry" "step" "I", Cond.fieldLink RX1 13 "RoomTails$Entry" "place" "I", Cond.fieldLink RX1 20 "RoomTails$Entry" "steps" "I", Cond.fieldLink RX1 23 "RoomTails$Entry" "amount" "I"]
def wsX3_copyFrom : List Cond := .code yX3_copyFrom cX3_copyFrom 3 none :: ((wsX3_copyFrom_r1 ++ (wsX3_copyFrom_r2 ++ wsX3_copyFrom_r3)) ++ wsX30 ++ wsX50 ++ wsX00 ++ wsX40 ++ wsX10)
def wsX2_record_r1 : List Cond := [Cond.fieldLink RX2 18 "RoomTails$History" "size" "I", Cond.fieldLink RX2 11 "RoomTails$History" "states" "[LRoomTails$House;", Cond.methodLink RX2 22 yX2_forgetOldest, Cond.instanceMethod yX2_forgetOldest, Cond.selects RX2 yX2_forgetOldest yX2_forgetOldest, Cond.initialized RX2, Cond.code yX2_forgetOldest cX2_forgetOldest 3 none, Cond.methodLink RX2 25 yX3_copyFrom, Cond.instanceMethod yX3_copyFrom, Cond.selects RX3 yX3_copyFrom yX3_copyFrom, Cond.initialized RX3, Cond.code yX3_copyFrom cX3_copyFrom 3 none, Cond.fieldLink RX3 11 "RoomTails$House" "rooms" "[LRoomTails$Room;", Cond.fieldLink RX3 19 "RoomTails$House" "doors" "[LRoomTails$Door;", Cond.fieldLink RX3 26 "RoomTails$House" "plan" "LRoomTails$Plan;", Cond.fieldLink RX3 31 "RoomTails$House" "settings" "[I", Cond.methodLink RX3 47 arraycopyName, Cond.native arraycopyName, Cond.static arraycopyName, Cond.initialized "java/lang/System", Cond.fieldLink RX3 53 "RoomTails$House" "roomCount" "I", Cond.fieldLink RX3 57 "RoomTails$House" "doorCount" "I", Cond.fieldLink RX3 60 "RoomTails$House" "present" "I", Cond.fieldLink RX3 63 "RoomTails$House" "escaped" "I"]
def wsX2_record_r2 : List Cond := [Cond.fieldLink RX3 66 "RoomTails$House" "toldEnergy" "I", Cond.fieldLink RX3 69 "RoomTails$House" "openedAmidSound" "I", Cond.methodLink RX3 37 yX5_copyFrom, Cond.instanceMethod yX5_copyFrom, Cond.selects RX5 yX5_copyFrom yX5_copyFrom, Cond.initialized RX5, Cond.code yX5_copyFrom cX5_copyFrom 2 none, Cond.fieldLink RX5 15 "RoomTails$Room" "volume" "I", Cond.fieldLink RX5 19 "RoomTails$Room" "absorption" "I", Cond.fieldLink RX5 25 "RoomTails$Room" "energy" "I", Cond.fieldLink RX5 28 "RoomTails$Room" "absorbed" "I", Cond.fieldLink RX5 31 "RoomTails$Room" "given" "I", Cond.fieldLink RX5 22 "RoomTails$Room" "firstStep" "I", Cond.fieldLink RX5 9 "RoomTails$Room" "energies" "[I", Cond.methodLink RX5 34 arraycopyName, Cond.methodLink RX3 41 yX0_copyFrom, Cond.instanceMethod yX0_copyFrom, Cond.selects RX0 yX0_copyFrom yX0_copyFrom, Cond.initialized RX0, Cond.code yX0_copyFrom cX0_copyFrom 2 none, Cond.fieldLink RX0 24 "RoomTails$Door" "area" "I", Cond.fieldLink RX0 28 "RoomTails$Door" "speed" "I", Cond.fieldLink RX0 31 "RoomTails$Door" "delay" "I", Cond.fieldLink RX0 34 "RoomTails$Door" "opening" "I"]
def wsX2_record_r3 : List Cond := [Cond.fieldLink RX0 37 "RoomTails$Door" "target" "I", Cond.fieldLink RX0 40 "RoomTails$Door" "locked" "Z", Cond.fieldLink RX0 9 "RoomTails$Door" "sides" "[I", Cond.methodLink RX0 44 arraycopyName, Cond.fieldLink RX0 15 "RoomTails$Door" "gone" "[I", Cond.fieldLink RX0 21 "RoomTails$Door" "arriving" "[I", Cond.methodLink RX3 44 yX4_copyFrom, Cond.instanceMethod yX4_copyFrom, Cond.selects RX4 yX4_copyFrom yX4_copyFrom, Cond.initialized RX4, Cond.code yX4_copyFrom cX4_copyFrom 3 none, Cond.fieldLink RX4 18 "RoomTails$Plan" "size" "I", Cond.fieldLink RX4 11 "RoomTails$Plan" "entries" "[LRoomTails$Entry;", Cond.methodLink RX4 22 yX1_copyFrom, Cond.instanceMethod yX1_copyFrom, Cond.selects RX1 yX1_copyFrom yX1_copyFrom, Cond.initialized RX1, Cond.code yX1_copyFrom cX1_copyFrom 2 none, Cond.fieldLink RX1 7 "RoomTails$Entry" "isSound" "Z", Cond.fieldLink RX1 17 "RoomTails$Entry" "step" "I", Cond.fieldLink RX1 13 "RoomTails$Entry" "place" "I", Cond.fieldLink RX1 20 "RoomTails$Entry" "steps" "I", Cond.fieldLink RX1 23 "RoomTails$Entry" "amount" "I"]
def wsX2_record : List Cond := .code yX2_record cX2_record 2 none :: ((wsX2_record_r1 ++ (wsX2_record_r2 ++ wsX2_record_r3)) ++ wsX20 ++ wsX30 ++ wsX50 ++ wsX00 ++ wsX40 ++ wsX10)
def wsX3_roomAt : List Cond := .code yX3_roomAt cX3_roomAt 2 (some (.object "RoomTails$Room")) :: ([.fieldLink RX3 53 "RoomTails$House" "roomCount" "I", .fieldLink RX3 11 "RoomTails$House" "rooms" "[LRoomTails$Room;"] ++ wsX30)
def wsX3_doorAt : List Cond := .code yX3_doorAt cX3_doorAt 2 (some (.object "RoomTails$Door")) :: ([.fieldLink RX3 57 "RoomTails$House" "doorCount" "I", .fieldLink RX3 19 "RoomTails$House" "doors" "[LRoomTails$Door;"] ++ wsX30)
def wsX5_begin : List Cond := .code yX5_begin cX5_begin 4 none :: ([.fieldLink RX5 15 "RoomTails$Room" "volume" "I", .fieldLink RX5 19 "RoomTails$Room" "absorption" "I", .fieldLink RX5 22 "RoomTails$Room" "firstStep" "I"] ++ wsX50)
def wsX3_addRoom : List Cond := .code yX3_addRoom cX3_addRoom 3 (some .int) :: ([.fieldLink RX3 53 "RoomTails$House" "roomCount" "I", .fieldLink RX3 11 "RoomTails$House" "rooms" "[LRoomTails$Room;", .fieldLink RX3 60 "RoomTails$House" "present" "I", .methodLink RX3 72 yX5_begin, .instanceMethod yX5_begin, .selects RX5 yX5_begin yX5_begin, .initialized RX5, .code yX5_begin cX5_begin 4 none, .fieldLink RX5 15 "RoomTails$Room" "volume" "I", .fieldLink RX5 19 "RoomTails$Room" "absorption" "I", .fieldLink RX5 22 "RoomTails$Room" "firstStep" "I"] ++ wsX30 ++ wsX50)
def wsX3_addDoor : List Cond := .code yX3_addDoor cX3_addDoor 7 (some .int) :: ([.fieldLink RX3 57 "RoomTails$House" "doorCount" "I", .fieldLink RX3 19 "RoomTails$House" "doors" "[LRoomTails$Door;", .methodLink RX3 76 yX0_begin, .instanceMethod yX0_begin, .selects RX0 yX0_begin yX0_begin, .initialized RX0, .code yX0_begin cX0_begin 6 none, .fieldLink RX0 9 "RoomTails$Door" "sides" "[I", .fieldLink RX0 24 "RoomTails$Door" "area" "I", .fieldLink RX0 28 "RoomTails$Door" "speed" "I", .fieldLink RX0 31 "RoomTails$Door" "delay" "I"] ++ wsX30 ++ wsX00)
def wsX3_hasWallFor : List Cond := .code yX3_hasWallFor cX3_hasWallFor 9 (some .boolean) :: ([.fieldLink RX3 19 "RoomTails$House" "doors" "[LRoomTails$Door;", .fieldLink RX3 87 "RoomTails$Door" "area" "I", .fieldLink RX3 90 "RoomTails$Room" "volume" "I", .methodLink RX3 79 yX3_roomAt, .instanceMethod yX3_roomAt, .selects RX3 yX3_roomAt yX3_roomAt, .initialized RX3, .code yX3_roomAt cX3_roomAt 2 (some (.object "RoomTails$Room")), .fieldLink RX3 53 "RoomTails$House" "roomCount" "I", .fieldLink RX3 11 "RoomTails$House" "rooms" "[LRoomTails$Room;", .methodLink RX3 83 yX0_isAt, .instanceMethod yX0_isAt, .selects RX0 yX0_isAt yX0_isAt, .initialized RX0, .code yX0_isAt cX0_isAt 2 (some .boolean), .fieldLink RX0 24 "RoomTails$Door" "area" "I", .fieldLink RX0 9 "RoomTails$Door" "sides" "[I"] ++ wsX30 ++ wsX00 ++ wsX50)
def wsX3_doorsOf : List Cond := .code yX3_doorsOf cX3_doorsOf 7 (some .int) :: ([.fieldLink RX3 19 "RoomTails$House" "doors" "[LRoomTails$Door;", .methodLink RX3 83 yX0_isAt, .instanceMethod yX0_isAt, .selects RX0 yX0_isAt yX0_isAt, .initialized RX0, .code yX0_isAt cX0_isAt 2 (some .boolean), .fieldLink RX0 24 "RoomTails$Door" "area" "I", .fieldLink RX0 9 "RoomTails$Door" "sides" "[I"] ++ wsX30 ++ wsX00)
def wsX5_density : List Cond := .code yX5_density cX5_density 1 (some .int) :: ([.fieldLink RX5 15 "RoomTails$Room" "volume" "I", .fieldLink RX5 25 "RoomTails$Room" "energy" "I"] ++ wsX50)
def wsX3_densityAt : List Cond := .code yX3_densityAt cX3_densityAt 3 (some .int) :: ([.methodLink RX3 79 yX3_roomAt, .instanceMethod yX3_roomAt, .selects RX3 yX3_roomAt yX3_roomAt, .initialized RX3, .code yX3_roomAt cX3_roomAt 2 (some (.object "RoomTails$Room")), .fieldLink RX3 53 "RoomTails$House" "roomCount" "I", .fieldLink RX3 11 "RoomTails$House" "rooms" "[LRoomTails$Room;", .methodLink RX3 119 yX5_density, .instanceMethod yX5_density, .selects RX5 yX5_density yX5_density, .initialized RX5, .code yX5_density cX5_density 1 (some .int), .fieldLink RX5 15 "RoomTails$Room" "volume" "I", .fieldLink RX5 25 "RoomTails$Room" "energy" "I"] ++ wsX30 ++ wsX50)
def wsX3_reasonToRefuse_r1 : List Cond := [Cond.fieldLink RX3 93 "RoomTails$Door" "locked" "Z", Cond.fieldLink RX3 97 "RoomTails$Door" "target" "I", Cond.fieldLink RX3 100 "RoomTails$Door" "sides" "[I", Cond.methodLink RX3 107 Lib.Math.abs.name, Cond.static Lib.Math.abs.name, Cond.initialized "java/lang/Math", Cond.code Lib.Math.abs.name Lib.Math.abs.code 1 (some .int), Cond.fieldLink RX3 112 "RoomTails$Door" "opening" "I", Cond.fieldLink RX3 31 "RoomTails$House" "settings" "[I", Cond.methodLink RX3 103 yX3_densityAt, Cond.instanceMethod yX3_densityAt, Cond.selects RX3 yX3_densityAt yX3_densityAt, Cond.initialized RX3, Cond.code yX3_densityAt cX3_densityAt 3 (some .int), Cond.methodLink RX3 79 yX3_roomAt, Cond.instanceMethod yX3_roomAt, Cond.selects RX3 yX3_roomAt yX3_roomAt, Cond.code yX3_roomAt cX3_roomAt 2 (some (.object "RoomTails$Room")), Cond.fieldLink RX3 53 "RoomTails$House" "roomCount" "I", Cond.fieldLink RX3 11 "RoomTails$House" "rooms" "[LRoomTails$Room;", Cond.methodLink RX3 119 yX5_density, Cond.instanceMethod yX5_density, Cond.selects RX5 yX5_density yX5_density, Cond.initialized RX5]
def wsX3_reasonToRefuse_r2 : List Cond := [Cond.code yX5_density cX5_density 1 (some .int), Cond.fieldLink RX5 15 "RoomTails$Room" "volume" "I", Cond.fieldLink RX5 25 "RoomTails$Room" "energy" "I"]
def wsX3_reasonToRefuse : List Cond := .code yX3_reasonToRefuse cX3_reasonToRefuse 4 (some .int) :: ((wsX3_reasonToRefuse_r1 ++ wsX3_reasonToRefuse_r2) ++ wsX00 ++ wsX30 ++ wsX50)
def wsX3_energyInRooms : List Cond := .code yX3_energyInRooms cX3_energyInRooms 6 (some .int) :: ([.fieldLink RX3 11 "RoomTails$House" "rooms" "[LRoomTails$Room;", .fieldLink RX3 123 "RoomTails$Room" "energy" "I"] ++ wsX30 ++ wsX50)
def wsX3_energyOnItsWay : List Cond := .code yX3_energyOnItsWay cX3_energyOnItsWay 6 (some .int) :: ([.fieldLink RX3 19 "RoomTails$House" "doors" "[LRoomTails$Door;", .methodLink RX3 126 yX0_energyOnItsWay, .instanceMethod yX0_energyOnItsWay, .selects RX0 yX0_energyOnItsWay yX0_energyOnItsWay, .initialized RX0, .code yX0_energyOnItsWay cX0_energyOnItsWay 6 (some .int), .fieldLink RX0 21 "RoomTails$Door" "arriving" "[I"] ++ wsX30 ++ wsX00)
def wsX3_energyAbsorbed : List Cond := .code yX3_energyAbsorbed cX3_energyAbsorbed 6 (some .int) :: ([.fieldLink RX3 11 "RoomTails$House" "rooms" "[LRoomTails$Room;", .fieldLink RX3 129 "RoomTails$Room" "absorbed" "I"] ++ wsX30 ++ wsX50)
def wsX3_energyGiven : List Cond := .code yX3_energyGiven cX3_energyGiven 6 (some .int) :: ([.fieldLink RX3 11 "RoomTails$House" "rooms" "[LRoomTails$Room;", .fieldLink RX3 132 "RoomTails$Room" "given" "I"] ++ wsX30 ++ wsX50)
def wsX4_insert : List Cond := .code yX4_insert cX4_insert 4 none :: ([.fieldLink RX4 18 "RoomTails$Plan" "size" "I", .fieldLink RX4 11 "RoomTails$Plan" "entries" "[LRoomTails$Entry;", .fieldLink RX4 26 "RoomTails$Entry" "step" "I", .methodLink RX4 22 yX1_copyFrom, .instanceMethod yX1_copyFrom, .selects RX1 yX1_copyFrom yX1_copyFrom, .initialized RX1, .code yX1_copyFrom cX1_copyFrom 2 none, .fieldLink RX1 7 "RoomTails$Entry" "isSound" "Z", .fieldLink RX1 17 "RoomTails$Entry" "step" "I", .fieldLink RX1 13 "RoomTails$Entry" "place" "I", .fieldLink RX1 20 "RoomTails$Entry" "steps" "I", .fieldLink RX1 23 "RoomTails$Entry" "amount" "I"] ++ wsX40 ++ wsX10)
def wsX3_take : List Cond := .code yX3_take cX3_take 2 none :: ([.fieldLink RX3 26 "RoomTails$House" "plan" "LRoomTails$Plan;", .fieldLink RX3 66 "RoomTails$House" "toldEnergy" "I", .methodLink RX3 143 yX4_insert, .instanceMethod yX4_insert, .selects RX4 yX4_insert yX4_insert, .initialized RX4, .code yX4_insert cX4_insert 4 none, .fieldLink RX4 18 "RoomTails$Plan" "size" "I", .fieldLink RX4 11 "RoomTails$Plan" "entries" "[LRoomTails$Entry;", .fieldLink RX4 26 "RoomTails$Entry" "step" "I", .methodLink RX4 22 yX1_copyFrom, .instanceMethod yX1_copyFrom, .selects RX1 yX1_copyFrom yX1_copyFrom, .initialized RX1, .code yX1_copyFrom cX1_copyFrom 2 none, .fieldLink RX1 7 "RoomTails$Entry" "isSound" "Z", .fieldLink RX1 17 "RoomTails$Entry" "step" "I", .fieldLink RX1 13 "RoomTails$Entry" "place" "I", .fieldLink RX1 20 "RoomTails$Entry" "steps" "I", .fieldLink RX1 23 "RoomTails$Entry" "amount" "I", .methodLink RX3 147 yX1_allEnergy, .instanceMethod yX1_allEnergy, .selects RX1 yX1_allEnergy yX1_allEnergy, .code yX1_allEnergy cX1_allEnergy 1 (some .int)] ++ wsX30 ++ wsX40 ++ wsX10)
def wsX5_keepEnergy : List Cond := .code yX5_keepEnergy cX5_keepEnergy 2 none :: ([.fieldLink RX5 9 "RoomTails$Room" "energies" "[I", .fieldLink RX5 25 "RoomTails$Room" "energy" "I", .methodLink RX5 40 yJ9_floorMod_7cf53, .static yJ9_floorMod_7cf53, .initialized RJ9, .code yJ9_floorMod_7cf53 cJ9_floorMod_7cf53 3 (some .int)] ++ wsX50)
def wsX4_entryAt : List Cond := .code yX4_entryAt cX4_entryAt 2 (some (.object "RoomTails$Entry")) :: ([.fieldLink RX4 18 "RoomTails$Plan" "size" "I", .fieldLink RX4 11 "RoomTails$Plan" "entries" "[LRoomTails$Entry;"] ++ wsX40)
def wsX3_aimPlannedDoors_r1 : List Cond := [Cond.fieldLink RX3 26 "RoomTails$House" "plan" "LRoomTails$Plan;", Cond.fieldLink RX3 177 "RoomTails$Plan" "size" "I", Cond.fieldLink RX3 60 "RoomTails$House" "present" "I", Cond.fieldLink RX3 187 "RoomTails$Entry" "place" "I", Cond.fieldLink RX3 190 "RoomTails$Entry" "amount" "I", Cond.methodLink RX3 180 yX4_entryAt, Cond.instanceMethod yX4_entryAt, Cond.selects RX4 yX4_entryAt yX4_entryAt, Cond.initialized RX4, Cond.code yX4_entryAt cX4_entryAt 2 (some (.object "RoomTails$Entry")), Cond.fieldLink RX4 18 "RoomTails$Plan" "size" "I", Cond.fieldLink RX4 11 "RoomTails$Plan" "entries" "[LRoomTails$Entry;", Cond.methodLink RX3 184 yX1_isTargetFor, Cond.instanceMethod yX1_isTargetFor, Cond.selects RX1 yX1_isTargetFor yX1_isTargetFor, Cond.initialized RX1, Cond.code yX1_isTargetFor cX1_isTargetFor 2 (some .boolean), Cond.fieldLink RX1 7 "RoomTails$Entry" "isSound" "Z", Cond.fieldLink RX1 17 "RoomTails$Entry" "step" "I", Cond.methodLink RX3 115 yX3_doorAt, Cond.instanceMethod yX3_doorAt, Cond.selects RX3 yX3_doorAt yX3_doorAt, Cond.initialized RX3, Cond.code yX3_doorAt cX3_doorAt 2 (some (.object "RoomTails$Door"))]
def wsX3_aimPlannedDoors_r2 : List Cond := [Cond.fieldLink RX3 57 "RoomTails$House" "doorCount" "I", Cond.fieldLink RX3 19 "RoomTails$House" "doors" "[LRoomTails$Door;", Cond.methodLink RX3 193 yX0_aimAt, Cond.instanceMethod yX0_aimAt, Cond.selects RX0 yX0_aimAt yX0_aimAt, Cond.initialized RX0, Cond.code yX0_aimAt cX0_aimAt 2 none, Cond.fieldLink RX0 40 "RoomTails$Door" "locked" "Z", Cond.fieldLink RX0 37 "RoomTails$Door" "target" "I"]
def wsX3_aimPlannedDoors : List Cond := .code yX3_aimPlannedDoors cX3_aimPlannedDoors 4 none :: ((wsX3_aimPlannedDoors_r1 ++ wsX3_aimPlannedDoors_r2) ++ wsX30 ++ wsX40 ++ wsX10 ++ wsX00)
def wsX4_soundsHeard : List Cond := .code yX4_soundsHeard cX4_soundsHeard 5 (some .int) :: ([.fieldLink RX4 18 "RoomTails$Plan" "size" "I", .fieldLink RX4 11 "RoomTails$Plan" "entries" "[LRoomTails$Entry;", .fieldLink RX4 45 "RoomTails$Entry" "place" "I", .methodLink RX4 48 yX1_isHeardIn, .instanceMethod yX1_isHeardIn, .selects RX1 yX1_isHeardIn yX1_isHeardIn, .initialized RX1, .code yX1_isHeardIn cX1_isHeardIn 2 (some .boolean), .fieldLink RX1 7 "RoomTails$Entry" "isSound" "Z", .fieldLink RX1 17 "RoomTails$Entry" "step" "I", .fieldLink RX1 20 "RoomTails$Entry" "steps" "I"] ++ wsX40 ++ wsX10)
def wsX3_moveDoors_r1 : List Cond := [Cond.fieldLink RX3 57 "RoomTails$House" "doorCount" "I", Cond.fieldLink RX3 19 "RoomTails$House" "doors" "[LRoomTails$Door;", Cond.fieldLink RX3 112 "RoomTails$Door" "opening" "I", Cond.fieldLink RX3 26 "RoomTails$House" "plan" "LRoomTails$Plan;", Cond.fieldLink RX3 100 "RoomTails$Door" "sides" "[I", Cond.fieldLink RX3 60 "RoomTails$House" "present" "I", Cond.fieldLink RX3 69 "RoomTails$House" "openedAmidSound" "I", Cond.methodLink RX3 196 yX0_move, Cond.instanceMethod yX0_move, Cond.selects RX0 yX0_move yX0_move, Cond.initialized RX0, Cond.code yX0_move cX0_move 1 none, Cond.fieldLink RX0 34 "RoomTails$Door" "opening" "I", Cond.fieldLink RX0 37 "RoomTails$Door" "target" "I", Cond.fieldLink RX0 28 "RoomTails$Door" "speed" "I", Cond.methodLink RX0 50 Lib.Math.min.name, Cond.static Lib.Math.min.name, Cond.initialized "java/lang/Math", Cond.code Lib.Math.min.name Lib.Math.min.code 2 (some .int), Cond.methodLink RX0 56 Lib.Math.max.name, Cond.static Lib.Math.max.name, Cond.code Lib.Math.max.name Lib.Math.max.code 2 (some .int), Cond.methodLink RX3 199 yX4_soundsHeard, Cond.instanceMethod yX4_soundsHeard]
def wsX3_moveDoors_r2 : List Cond := [Cond.selects RX4 yX4_soundsHeard yX4_soundsHeard, Cond.initialized RX4, Cond.code yX4_soundsHeard cX4_soundsHeard 5 (some .int), Cond.fieldLink RX4 18 "RoomTails$Plan" "size" "I", Cond.fieldLink RX4 11 "RoomTails$Plan" "entries" "[LRoomTails$Entry;", Cond.fieldLink RX4 45 "RoomTails$Entry" "place" "I", Cond.methodLink RX4 48 yX1_isHeardIn, Cond.instanceMethod yX1_isHeardIn, Cond.selects RX1 yX1_isHeardIn yX1_isHeardIn, Cond.initialized RX1, Cond.code yX1_isHeardIn cX1_isHeardIn 2 (some .boolean), Cond.fieldLink RX1 7 "RoomTails$Entry" "isSound" "Z", Cond.fieldLink RX1 17 "RoomTails$Entry" "step" "I", Cond.fieldLink RX1 20 "RoomTails$Entry" "steps" "I"]
def wsX3_moveDoors : List Cond := .code yX3_moveDoors cX3_moveDoors 4 none :: ((wsX3_moveDoors_r1 ++ wsX3_moveDoors_r2) ++ wsX30 ++ wsX00 ++ wsX40 ++ wsX10)
def wsX5_hear : List Cond := .code yX5_hear cX5_hear 2 none :: ([.fieldLink RX5 25 "RoomTails$Room" "energy" "I", .fieldLink RX5 31 "RoomTails$Room" "given" "I"] ++ wsX50)
def wsX3_giveSounds_r1 : List Cond := [Cond.fieldLink RX3 26 "RoomTails$House" "plan" "LRoomTails$Plan;", Cond.fieldLink RX3 177 "RoomTails$Plan" "size" "I", Cond.fieldLink RX3 60 "RoomTails$House" "present" "I", Cond.fieldLink RX3 187 "RoomTails$Entry" "place" "I", Cond.fieldLink RX3 190 "RoomTails$Entry" "amount" "I", Cond.methodLink RX3 180 yX4_entryAt, Cond.instanceMethod yX4_entryAt, Cond.selects RX4 yX4_entryAt yX4_entryAt, Cond.initialized RX4, Cond.code yX4_entryAt cX4_entryAt 2 (some (.object "RoomTails$Entry")), Cond.fieldLink RX4 18 "RoomTails$Plan" "size" "I", Cond.fieldLink RX4 11 "RoomTails$Plan" "entries" "[LRoomTails$Entry;", Cond.methodLink RX3 203 yX1_isHeardIn, Cond.instanceMethod yX1_isHeardIn, Cond.selects RX1 yX1_isHeardIn yX1_isHeardIn, Cond.initialized RX1, Cond.code yX1_isHeardIn cX1_isHeardIn 2 (some .boolean), Cond.fieldLink RX1 7 "RoomTails$Entry" "isSound" "Z", Cond.fieldLink RX1 17 "RoomTails$Entry" "step" "I", Cond.fieldLink RX1 20 "RoomTails$Entry" "steps" "I", Cond.methodLink RX3 79 yX3_roomAt, Cond.instanceMethod yX3_roomAt, Cond.selects RX3 yX3_roomAt yX3_roomAt, Cond.initialized RX3]
def wsX3_giveSounds_r2 : List Cond := [Cond.code yX3_roomAt cX3_roomAt 2 (some (.object "RoomTails$Room")), Cond.fieldLink RX3 53 "RoomTails$House" "roomCount" "I", Cond.fieldLink RX3 11 "RoomTails$House" "rooms" "[LRoomTails$Room;", Cond.methodLink RX3 206 yX5_hear, Cond.instanceMethod yX5_hear, Cond.selects RX5 yX5_hear yX5_hear, Cond.initialized RX5, Cond.code yX5_hear cX5_hear 2 none, Cond.fieldLink RX5 25 "RoomTails$Room" "energy" "I", Cond.fieldLink RX5 31 "RoomTails$Room" "given" "I"]
def wsX3_giveSounds : List Cond := .code yX3_giveSounds cX3_giveSounds 4 none :: ((wsX3_giveSounds_r1 ++ wsX3_giveSounds_r2) ++ wsX30 ++ wsX40 ++ wsX10 ++ wsX50)
def wsX4_drop : List Cond := .code yX4_drop cX4_drop 4 none :: ([.fieldLink RX4 11 "RoomTails$Plan" "entries" "[LRoomTails$Entry;", .fieldLink RX4 18 "RoomTails$Plan" "size" "I", .methodLink RX4 29 yX4_entryAt, .instanceMethod yX4_entryAt, .selects RX4 yX4_entryAt yX4_entryAt, .initialized RX4, .code yX4_entryAt cX4_entryAt 2 (some (.object "RoomTails$Entry"))] ++ wsX40)
def wsX4_dropEnded : List Cond := .code yX4_dropEnded cX4_dropEnded 4 none :: ([.fieldLink RX4 18 "RoomTails$Plan" "size" "I", .methodLink RX4 29 yX4_entryAt, .instanceMethod yX4_entryAt, .selects RX4 yX4_entryAt yX4_entryAt, .initialized RX4, .code yX4_entryAt cX4_entryAt 2 (some (.object "RoomTails$Entry")), .fieldLink RX4 11 "RoomTails$Plan" "entries" "[LRoomTails$Entry;", .methodLink RX4 33 yX1_endsWith, .instanceMethod yX1_endsWith, .selects RX1 yX1_endsWith yX1_endsWith, .initialized RX1, .code yX1_endsWith cX1_endsWith 2 (some .boolean), .fieldLink RX1 7 "RoomTails$Entry" "isSound" "Z", .fieldLink RX1 17 "RoomTails$Entry" "step" "I", .fieldLink RX1 20 "RoomTails$Entry" "steps" "I", .methodLink RX4 37 yX4_drop, .instanceMethod yX4_drop, .selects RX4 yX4_drop yX4_drop, .code yX4_drop cX4_drop 4 none] ++ wsX40 ++ wsX10)
def wsX5_absorbShare : List Cond := .code yX5_absorbShare cX5_absorbShare 2 none :: ([.fieldLink RX5 25 "RoomTails$Room" "energy" "I", .fieldLink RX5 19 "RoomTails$Room" "absorption" "I", .constantLong RX5 46 (999), .constantLong RX5 48 (1000), .fieldLink RX5 28 "RoomTails$Room" "absorbed" "I"] ++ wsX50)
def wsX5_shareThrough : List Cond := .code yX5_shareThrough cX5_shareThrough 2 (some .int) :: ([.fieldLink RX5 15 "RoomTails$Room" "volume" "I", .fieldLink RX5 25 "RoomTails$Room" "energy" "I", .fieldLink RX5 50 "RoomTails$Door" "area" "I", .fieldLink RX5 55 "RoomTails$Door" "opening" "I", .constantLong RX5 58 (10)] ++ wsX50 ++ wsX00)
def wsX3_wouldGo : List Cond := .code yX3_wouldGo cX3_wouldGo 4 (some .int) :: ([.fieldLink RX3 100 "RoomTails$Door" "sides" "[I", .methodLink RX3 79 yX3_roomAt, .instanceMethod yX3_roomAt, .selects RX3 yX3_roomAt yX3_roomAt, .initialized RX3, .code yX3_roomAt cX3_roomAt 2 (some (.object "RoomTails$Room")), .fieldLink RX3 53 "RoomTails$House" "roomCount" "I", .fieldLink RX3 11 "RoomTails$House" "rooms" "[LRoomTails$Room;", .methodLink RX3 209 yX5_shareThrough, .instanceMethod yX5_shareThrough, .selects RX5 yX5_shareThrough yX5_shareThrough, .initialized RX5, .code yX5_shareThrough cX5_shareThrough 2 (some .int), .fieldLink RX5 15 "RoomTails$Room" "volume" "I", .fieldLink RX5 25 "RoomTails$Room" "energy" "I", .fieldLink RX5 50 "RoomTails$Door" "area" "I", .fieldLink RX5 55 "RoomTails$Door" "opening" "I", .constantLong RX5 58 (10)] ++ wsX00 ++ wsX30 ++ wsX50)
def wsX3_sendThroughDoors_r1 : List Cond := [Cond.fieldLink RX3 57 "RoomTails$House" "doorCount" "I", Cond.fieldLink RX3 19 "RoomTails$House" "doors" "[LRoomTails$Door;", Cond.fieldLink RX3 213 "RoomTails$Door" "leaving" "[I", Cond.fieldLink RX3 100 "RoomTails$Door" "sides" "[I", Cond.fieldLink RX3 123 "RoomTails$Room" "energy" "I", Cond.fieldLink RX3 60 "RoomTails$House" "present" "I", Cond.methodLink RX3 216 yX3_wouldGo, Cond.instanceMethod yX3_wouldGo, Cond.selects RX3 yX3_wouldGo yX3_wouldGo, Cond.initialized RX3, Cond.code yX3_wouldGo cX3_wouldGo 4 (some .int), Cond.methodLink RX3 79 yX3_roomAt, Cond.instanceMethod yX3_roomAt, Cond.selects RX3 yX3_roomAt yX3_roomAt, Cond.code yX3_roomAt cX3_roomAt 2 (some (.object "RoomTails$Room")), Cond.fieldLink RX3 53 "RoomTails$House" "roomCount" "I", Cond.fieldLink RX3 11 "RoomTails$House" "rooms" "[LRoomTails$Room;", Cond.methodLink RX3 209 yX5_shareThrough, Cond.instanceMethod yX5_shareThrough, Cond.selects RX5 yX5_shareThrough yX5_shareThrough, Cond.initialized RX5, Cond.code yX5_shareThrough cX5_shareThrough 2 (some .int), Cond.fieldLink RX5 15 "RoomTails$Room" "volume" "I", Cond.fieldLink RX5 25 "RoomTails$Room" "energy" "I"]
def wsX3_sendThroughDoors_r2 : List Cond := [Cond.fieldLink RX5 50 "RoomTails$Door" "area" "I", Cond.fieldLink RX5 55 "RoomTails$Door" "opening" "I", Cond.constantLong RX5 58 (10), Cond.methodLink RX3 220 yX0_send, Cond.instanceMethod yX0_send, Cond.selects RX0 yX0_send yX0_send, Cond.initialized RX0, Cond.code yX0_send cX0_send 5 none, Cond.fieldLink RX0 15 "RoomTails$Door" "gone" "[I", Cond.fieldLink RX0 21 "RoomTails$Door" "arriving" "[I", Cond.fieldLink RX0 31 "RoomTails$Door" "delay" "I", Cond.methodLink RX0 59 yX0_placeOf, Cond.static yX0_placeOf, Cond.code yX0_placeOf cX0_placeOf 2 (some .int), Cond.methodLink RX0 62 yJ9_floorMod_7cf53, Cond.static yJ9_floorMod_7cf53, Cond.initialized RJ9, Cond.code yJ9_floorMod_7cf53 cJ9_floorMod_7cf53 3 (some .int)]
def wsX3_sendThroughDoors : List Cond := .code yX3_sendThroughDoors cX3_sendThroughDoors 5 none :: ((wsX3_sendThroughDoors_r1 ++ wsX3_sendThroughDoors_r2) ++ wsX30 ++ wsX00 ++ wsX50)
def wsX3_letArrive_r1 : List Cond := [Cond.fieldLink RX3 57 "RoomTails$House" "doorCount" "I", Cond.fieldLink RX3 19 "RoomTails$House" "doors" "[LRoomTails$Door;", Cond.fieldLink RX3 60 "RoomTails$House" "present" "I", Cond.fieldLink RX3 100 "RoomTails$Door" "sides" "[I", Cond.fieldLink RX3 63 "RoomTails$House" "escaped" "I", Cond.fieldLink RX3 123 "RoomTails$Room" "energy" "I", Cond.methodLink RX3 223 yX0_takeArrived, Cond.instanceMethod yX0_takeArrived, Cond.selects RX0 yX0_takeArrived yX0_takeArrived, Cond.initialized RX0, Cond.code yX0_takeArrived cX0_takeArrived 5 (some .int), Cond.fieldLink RX0 21 "RoomTails$Door" "arriving" "[I", Cond.methodLink RX0 59 yX0_placeOf, Cond.static yX0_placeOf, Cond.code yX0_placeOf cX0_placeOf 2 (some .int), Cond.methodLink RX0 62 yJ9_floorMod_7cf53, Cond.static yJ9_floorMod_7cf53, Cond.initialized RJ9, Cond.code yJ9_floorMod_7cf53 cJ9_floorMod_7cf53 3 (some .int), Cond.methodLink RX3 79 yX3_roomAt, Cond.instanceMethod yX3_roomAt, Cond.selects RX3 yX3_roomAt yX3_roomAt, Cond.initialized RX3, Cond.code yX3_roomAt cX3_roomAt 2 (some (.object "RoomTails$Room"))]
def wsX3_letArrive_r2 : List Cond := [Cond.fieldLink RX3 53 "RoomTails$House" "roomCount" "I", Cond.fieldLink RX3 11 "RoomTails$House" "rooms" "[LRoomTails$Room;"]
def wsX3_letArrive : List Cond := .code yX3_letArrive cX3_letArrive 6 none :: ((wsX3_letArrive_r1 ++ wsX3_letArrive_r2) ++ wsX30 ++ wsX00 ++ wsX50)
def wsX3_goOn_r1 : List Cond := [Cond.fieldLink RX3 53 "RoomTails$House" "roomCount" "I", Cond.fieldLink RX3 11 "RoomTails$House" "rooms" "[LRoomTails$Room;", Cond.fieldLink RX3 60 "RoomTails$House" "present" "I", Cond.fieldLink RX3 26 "RoomTails$House" "plan" "LRoomTails$Plan;", Cond.methodLink RX3 152 yX5_keepEnergy, Cond.instanceMethod yX5_keepEnergy, Cond.selects RX5 yX5_keepEnergy yX5_keepEnergy, Cond.initialized RX5, Cond.code yX5_keepEnergy cX5_keepEnergy 2 none, Cond.fieldLink RX5 9 "RoomTails$Room" "energies" "[I", Cond.fieldLink RX5 25 "RoomTails$Room" "energy" "I", Cond.methodLink RX5 40 yJ9_floorMod_7cf53, Cond.static yJ9_floorMod_7cf53, Cond.initialized RJ9, Cond.code yJ9_floorMod_7cf53 cJ9_floorMod_7cf53 3 (some .int), Cond.methodLink RX3 156 yX3_aimPlannedDoors, Cond.instanceMethod yX3_aimPlannedDoors, Cond.selects RX3 yX3_aimPlannedDoors yX3_aimPlannedDoors, Cond.initialized RX3, Cond.code yX3_aimPlannedDoors cX3_aimPlannedDoors 4 none, Cond.fieldLink RX3 177 "RoomTails$Plan" "size" "I", Cond.fieldLink RX3 187 "RoomTails$Entry" "place" "I", Cond.fieldLink RX3 190 "RoomTails$Entry" "amount" "I", Cond.methodLink RX3 180 yX4_entryAt]
def wsX3_goOn_r2 : List Cond := [Cond.instanceMethod yX4_entryAt, Cond.selects RX4 yX4_entryAt yX4_entryAt, Cond.initialized RX4, Cond.code yX4_entryAt cX4_entryAt 2 (some (.object "RoomTails$Entry")), Cond.fieldLink RX4 18 "RoomTails$Plan" "size" "I", Cond.fieldLink RX4 11 "RoomTails$Plan" "entries" "[LRoomTails$Entry;", Cond.methodLink RX3 184 yX1_isTargetFor, Cond.instanceMethod yX1_isTargetFor, Cond.selects RX1 yX1_isTargetFor yX1_isTargetFor, Cond.initialized RX1, Cond.code yX1_isTargetFor cX1_isTargetFor 2 (some .boolean), Cond.fieldLink RX1 7 "RoomTails$Entry" "isSound" "Z", Cond.fieldLink RX1 17 "RoomTails$Entry" "step" "I", Cond.methodLink RX3 115 yX3_doorAt, Cond.instanceMethod yX3_doorAt, Cond.selects RX3 yX3_doorAt yX3_doorAt, Cond.code yX3_doorAt cX3_doorAt 2 (some (.object "RoomTails$Door")), Cond.fieldLink RX3 57 "RoomTails$House" "doorCount" "I", Cond.fieldLink RX3 19 "RoomTails$House" "doors" "[LRoomTails$Door;", Cond.methodLink RX3 193 yX0_aimAt, Cond.instanceMethod yX0_aimAt, Cond.selects RX0 yX0_aimAt yX0_aimAt, Cond.initialized RX0, Cond.code yX0_aimAt cX0_aimAt 2 none]
def wsX3_goOn_r3 : List Cond := [Cond.fieldLink RX0 40 "RoomTails$Door" "locked" "Z", Cond.fieldLink RX0 37 "RoomTails$Door" "target" "I", Cond.methodLink RX3 159 yX3_moveDoors, Cond.instanceMethod yX3_moveDoors, Cond.selects RX3 yX3_moveDoors yX3_moveDoors, Cond.code yX3_moveDoors cX3_moveDoors 4 none, Cond.fieldLink RX3 112 "RoomTails$Door" "opening" "I", Cond.fieldLink RX3 100 "RoomTails$Door" "sides" "[I", Cond.fieldLink RX3 69 "RoomTails$House" "openedAmidSound" "I", Cond.methodLink RX3 196 yX0_move, Cond.instanceMethod yX0_move, Cond.selects RX0 yX0_move yX0_move, Cond.code yX0_move cX0_move 1 none, Cond.fieldLink RX0 34 "RoomTails$Door" "opening" "I", Cond.fieldLink RX0 28 "RoomTails$Door" "speed" "I", Cond.methodLink RX0 50 Lib.Math.min.name, Cond.static Lib.Math.min.name, Cond.initialized "java/lang/Math", Cond.code Lib.Math.min.name Lib.Math.min.code 2 (some .int), Cond.methodLink RX0 56 Lib.Math.max.name, Cond.static Lib.Math.max.name, Cond.code Lib.Math.max.name Lib.Math.max.code 2 (some .int), Cond.methodLink RX3 199 yX4_soundsHeard, Cond.instanceMethod yX4_soundsHeard]
def wsX3_goOn_r4 : List Cond := [Cond.selects RX4 yX4_soundsHeard yX4_soundsHeard, Cond.code yX4_soundsHeard cX4_soundsHeard 5 (some .int), Cond.fieldLink RX4 45 "RoomTails$Entry" "place" "I", Cond.methodLink RX4 48 yX1_isHeardIn, Cond.instanceMethod yX1_isHeardIn, Cond.selects RX1 yX1_isHeardIn yX1_isHeardIn, Cond.code yX1_isHeardIn cX1_isHeardIn 2 (some .boolean), Cond.fieldLink RX1 20 "RoomTails$Entry" "steps" "I", Cond.methodLink RX3 162 yX3_giveSounds, Cond.instanceMethod yX3_giveSounds, Cond.selects RX3 yX3_giveSounds yX3_giveSounds, Cond.code yX3_giveSounds cX3_giveSounds 4 none, Cond.methodLink RX3 203 yX1_isHeardIn, Cond.methodLink RX3 79 yX3_roomAt, Cond.instanceMethod yX3_roomAt, Cond.selects RX3 yX3_roomAt yX3_roomAt, Cond.code yX3_roomAt cX3_roomAt 2 (some (.object "RoomTails$Room")), Cond.methodLink RX3 206 yX5_hear, Cond.instanceMethod yX5_hear, Cond.selects RX5 yX5_hear yX5_hear, Cond.code yX5_hear cX5_hear 2 none, Cond.fieldLink RX5 31 "RoomTails$Room" "given" "I", Cond.methodLink RX3 165 yX4_dropEnded, Cond.instanceMethod yX4_dropEnded]
def wsX3_goOn_r5 : List Cond := [Cond.selects RX4 yX4_dropEnded yX4_dropEnded, Cond.code yX4_dropEnded cX4_dropEnded 4 none, Cond.methodLink RX4 29 yX4_entryAt, Cond.methodLink RX4 33 yX1_endsWith, Cond.instanceMethod yX1_endsWith, Cond.selects RX1 yX1_endsWith yX1_endsWith, Cond.code yX1_endsWith cX1_endsWith 2 (some .boolean), Cond.methodLink RX4 37 yX4_drop, Cond.instanceMethod yX4_drop, Cond.selects RX4 yX4_drop yX4_drop, Cond.code yX4_drop cX4_drop 4 none, Cond.methodLink RX3 168 yX5_absorbShare, Cond.instanceMethod yX5_absorbShare, Cond.selects RX5 yX5_absorbShare yX5_absorbShare, Cond.code yX5_absorbShare cX5_absorbShare 2 none, Cond.fieldLink RX5 19 "RoomTails$Room" "absorption" "I", Cond.constantLong RX5 46 (999), Cond.constantLong RX5 48 (1000), Cond.fieldLink RX5 28 "RoomTails$Room" "absorbed" "I", Cond.methodLink RX3 171 yX3_sendThroughDoors, Cond.instanceMethod yX3_sendThroughDoors, Cond.selects RX3 yX3_sendThroughDoors yX3_sendThroughDoors, Cond.code yX3_sendThroughDoors cX3_sendThroughDoors 5 none, Cond.fieldLink RX3 213 "RoomTails$Door" "leaving" "[I"]
def wsX3_goOn_r6 : List Cond := [Cond.fieldLink RX3 123 "RoomTails$Room" "energy" "I", Cond.methodLink RX3 216 yX3_wouldGo, Cond.instanceMethod yX3_wouldGo, Cond.selects RX3 yX3_wouldGo yX3_wouldGo, Cond.code yX3_wouldGo cX3_wouldGo 4 (some .int), Cond.methodLink RX3 209 yX5_shareThrough, Cond.instanceMethod yX5_shareThrough, Cond.selects RX5 yX5_shareThrough yX5_shareThrough, Cond.code yX5_shareThrough cX5_shareThrough 2 (some .int), Cond.fieldLink RX5 15 "RoomTails$Room" "volume" "I", Cond.fieldLink RX5 50 "RoomTails$Door" "area" "I", Cond.fieldLink RX5 55 "RoomTails$Door" "opening" "I", Cond.constantLong RX5 58 (10), Cond.methodLink RX3 220 yX0_send, Cond.instanceMethod yX0_send, Cond.selects RX0 yX0_send yX0_send, Cond.code yX0_send cX0_send 5 none, Cond.fieldLink RX0 15 "RoomTails$Door" "gone" "[I", Cond.fieldLink RX0 21 "RoomTails$Door" "arriving" "[I", Cond.fieldLink RX0 31 "RoomTails$Door" "delay" "I", Cond.methodLink RX0 59 yX0_placeOf, Cond.static yX0_placeOf, Cond.code yX0_placeOf cX0_placeOf 2 (some .int), Cond.methodLink RX0 62 yJ9_floorMod_7cf53]
def wsX3_goOn_r7 : List Cond := [Cond.methodLink RX3 174 yX3_letArrive, Cond.instanceMethod yX3_letArrive, Cond.selects RX3 yX3_letArrive yX3_letArrive, Cond.code yX3_letArrive cX3_letArrive 6 none, Cond.fieldLink RX3 63 "RoomTails$House" "escaped" "I", Cond.methodLink RX3 223 yX0_takeArrived, Cond.instanceMethod yX0_takeArrived, Cond.selects RX0 yX0_takeArrived yX0_takeArrived, Cond.code yX0_takeArrived cX0_takeArrived 5 (some .int)]
def wsX3_goOn : List Cond := .code yX3_goOn cX3_goOn 2 none :: ((wsX3_goOn_r1 ++ (wsX3_goOn_r2 ++ (wsX3_goOn_r3 ++ (wsX3_goOn_r4 ++ (wsX3_goOn_r5 ++ (wsX3_goOn_r6 ++ wsX3_goOn_r7)))))) ++ wsX30 ++ wsX50 ++ wsX40 ++ wsX10 ++ wsX00)
def wsX4_isFull : List Cond := .code yX4_isFull cX4_isFull 1 (some .boolean) :: ([.fieldLink RX4 18 "RoomTails$Plan" "size" "I", .fieldLink RX4 11 "RoomTails$Plan" "entries" "[LRoomTails$Entry;"] ++ wsX40)
def wsX6_init : List Cond := .code yX6_init cX6_init 1 none :: ([.methodLink RX6 3 objectInit, .instanceMethod objectInit, .code objectInit ⟨#[0xb1]⟩ 1 none, .arrayClass .char, .fieldLink RX6 9 "RoomTails$Script" "characters" "[C", .classLink RX6 15 RX1, .instantiable RX1 5, .initialized RX1, .fieldLink RX6 18 "RoomTails$Script" "entry" "LRoomTails$Entry;", .instanceMethod yX1_init, .code yX1_init cX1_init 1 none, .methodLink RX1 1 objectInit] ++ wsX60 ++ wsX10)
def wsX7_init_r1 : List Cond := [Cond.methodLink RX7 1 objectInit, Cond.instanceMethod objectInit, Cond.code objectInit ⟨#[0xb1]⟩ 1 none, Cond.classLink RX7 7 RX3, Cond.instantiable RX3 10, Cond.initialized RX3, Cond.fieldLink RX7 10 "RoomTails" "house" "LRoomTails$House;", Cond.fieldLink RX7 16 "RoomTails" "ahead" "LRoomTails$House;", Cond.classLink RX7 19 RX2, Cond.instantiable RX2 2, Cond.initialized RX2, Cond.fieldLink RX7 22 "RoomTails" "history" "LRoomTails$History;", Cond.classLink RX7 26 RX6, Cond.instantiable RX6 6, Cond.initialized RX6, Cond.fieldLink RX7 29 "RoomTails" "script" "LRoomTails$Script;", Cond.classLink RX7 33 RX1, Cond.instantiable RX1 5, Cond.initialized RX1, Cond.fieldLink RX7 36 "RoomTails" "told" "LRoomTails$Entry;", Cond.methodLink RX7 9 yX3_init, Cond.instanceMethod yX3_init, Cond.code yX3_init cX3_init 2 none, Cond.methodLink RX3 3 objectInit]
def wsX7_init_r2 : List Cond := [Cond.classLink RX3 9 RX5, Cond.fieldLink RX3 11 "RoomTails$House" "rooms" "[LRoomTails$Room;", Cond.classLink RX3 17 RX0, Cond.fieldLink RX3 19 "RoomTails$House" "doors" "[LRoomTails$Door;", Cond.classLink RX3 23 RX4, Cond.instantiable RX4 2, Cond.initialized RX4, Cond.fieldLink RX3 26 "RoomTails$House" "plan" "LRoomTails$Plan;", Cond.arrayClass .int, Cond.constant RX3 30 (1000000), Cond.fieldLink RX3 31 "RoomTails$House" "settings" "[I", Cond.instantiable RX5 7, Cond.initialized RX5, Cond.instantiable RX0 10, Cond.initialized RX0, Cond.methodLink RX3 25 yX4_init, Cond.instanceMethod yX4_init, Cond.code yX4_init cX4_init 2 none, Cond.methodLink RX4 3 objectInit, Cond.classLink RX4 9 RX1, Cond.fieldLink RX4 11 "RoomTails$Plan" "entries" "[LRoomTails$Entry;", Cond.instanceMethod yX1_init, Cond.code yX1_init cX1_init 1 none, Cond.methodLink RX1 1 objectInit]
def wsX7_init_r3 : List Cond := [Cond.instanceMethod yX5_init, Cond.code yX5_init cX5_init 1 none, Cond.methodLink RX5 3 objectInit, Cond.fieldLink RX5 9 "RoomTails$Room" "energies" "[I", Cond.instanceMethod yX0_init, Cond.code yX0_init cX0_init 1 none, Cond.methodLink RX0 3 objectInit, Cond.fieldLink RX0 9 "RoomTails$Door" "sides" "[I", Cond.fieldLink RX0 15 "RoomTails$Door" "gone" "[I", Cond.fieldLink RX0 18 "RoomTails$Door" "leaving" "[I", Cond.fieldLink RX0 21 "RoomTails$Door" "arriving" "[I", Cond.methodLink RX7 21 yX2_init, Cond.instanceMethod yX2_init, Cond.code yX2_init cX2_init 2 none, Cond.methodLink RX2 3 objectInit, Cond.classLink RX2 9 RX3, Cond.fieldLink RX2 11 "RoomTails$History" "states" "[LRoomTails$House;", Cond.methodLink RX2 17 yX3_init, Cond.instanceMethod yX6_init, Cond.code yX6_init cX6_init 1 none, Cond.methodLink RX6 3 objectInit, Cond.arrayClass .char, Cond.fieldLink RX6 9 "RoomTails$Script" "characters" "[C", Cond.classLink RX6 15 RX1]
def wsX7_init_r4 : List Cond := [Cond.fieldLink RX6 18 "RoomTails$Script" "entry" "LRoomTails$Entry;"]
def wsX7_init : List Cond := .code yX7_init cX7_init 1 none :: ((wsX7_init_r1 ++ (wsX7_init_r2 ++ (wsX7_init_r3 ++ wsX7_init_r4))) ++ wsX30 ++ wsX70 ++ wsX20 ++ wsX60 ++ wsX10 ++ wsX40 ++ wsX50 ++ wsX00)
def wsX7_isWithin : List Cond := .code yX7_isWithin cX7_isWithin 3 (some .boolean) :: ([])
def wsX7_room_r1 : List Cond := [Cond.fieldLink RX7 10 "RoomTails" "house" "LRoomTails$House;", Cond.fieldLink RX7 44 "RoomTails$House" "roomCount" "I", Cond.fieldLink RX7 22 "RoomTails" "history" "LRoomTails$History;", Cond.methodLink RX7 40 yX7_isWithin, Cond.static yX7_isWithin, Cond.initialized RX7, Cond.code yX7_isWithin cX7_isWithin 3 (some .boolean), Cond.methodLink RX7 48 yX2_record, Cond.instanceMethod yX2_record, Cond.selects RX2 yX2_record yX2_record, Cond.initialized RX2, Cond.code yX2_record cX2_record 2 none, Cond.fieldLink RX2 18 "RoomTails$History" "size" "I", Cond.fieldLink RX2 11 "RoomTails$History" "states" "[LRoomTails$House;", Cond.methodLink RX2 22 yX2_forgetOldest, Cond.instanceMethod yX2_forgetOldest, Cond.selects RX2 yX2_forgetOldest yX2_forgetOldest, Cond.code yX2_forgetOldest cX2_forgetOldest 3 none, Cond.methodLink RX2 25 yX3_copyFrom, Cond.instanceMethod yX3_copyFrom, Cond.selects RX3 yX3_copyFrom yX3_copyFrom, Cond.initialized RX3, Cond.code yX3_copyFrom cX3_copyFrom 3 none, Cond.fieldLink RX3 11 "RoomTails$House" "rooms" "[LRoomTails$Room;"]
def wsX7_room_r2 : List Cond := [Cond.fieldLink RX3 19 "RoomTails$House" "doors" "[LRoomTails$Door;", Cond.fieldLink RX3 26 "RoomTails$House" "plan" "LRoomTails$Plan;", Cond.fieldLink RX3 31 "RoomTails$House" "settings" "[I", Cond.methodLink RX3 47 arraycopyName, Cond.native arraycopyName, Cond.static arraycopyName, Cond.initialized "java/lang/System", Cond.fieldLink RX3 53 "RoomTails$House" "roomCount" "I", Cond.fieldLink RX3 57 "RoomTails$House" "doorCount" "I", Cond.fieldLink RX3 60 "RoomTails$House" "present" "I", Cond.fieldLink RX3 63 "RoomTails$House" "escaped" "I", Cond.fieldLink RX3 66 "RoomTails$House" "toldEnergy" "I", Cond.fieldLink RX3 69 "RoomTails$House" "openedAmidSound" "I", Cond.methodLink RX3 37 yX5_copyFrom, Cond.instanceMethod yX5_copyFrom, Cond.selects RX5 yX5_copyFrom yX5_copyFrom, Cond.initialized RX5, Cond.code yX5_copyFrom cX5_copyFrom 2 none, Cond.fieldLink RX5 15 "RoomTails$Room" "volume" "I", Cond.fieldLink RX5 19 "RoomTails$Room" "absorption" "I", Cond.fieldLink RX5 25 "RoomTails$Room" "energy" "I", Cond.fieldLink RX5 28 "RoomTails$Room" "absorbed" "I", Cond.fieldLink RX5 31 "RoomTails$Room" "given" "I", Cond.fieldLink RX5 22 "RoomTails$Room" "firstStep" "I"]
def wsX7_room_r3 : List Cond := [Cond.fieldLink RX5 9 "RoomTails$Room" "energies" "[I", Cond.methodLink RX5 34 arraycopyName, Cond.methodLink RX3 41 yX0_copyFrom, Cond.instanceMethod yX0_copyFrom, Cond.selects RX0 yX0_copyFrom yX0_copyFrom, Cond.initialized RX0, Cond.code yX0_copyFrom cX0_copyFrom 2 none, Cond.fieldLink RX0 24 "RoomTails$Door" "area" "I", Cond.fieldLink RX0 28 "RoomTails$Door" "speed" "I", Cond.fieldLink RX0 31 "RoomTails$Door" "delay" "I", Cond.fieldLink RX0 34 "RoomTails$Door" "opening" "I", Cond.fieldLink RX0 37 "RoomTails$Door" "target" "I", Cond.fieldLink RX0 40 "RoomTails$Door" "locked" "Z", Cond.fieldLink RX0 9 "RoomTails$Door" "sides" "[I", Cond.methodLink RX0 44 arraycopyName, Cond.fieldLink RX0 15 "RoomTails$Door" "gone" "[I", Cond.fieldLink RX0 21 "RoomTails$Door" "arriving" "[I", Cond.methodLink RX3 44 yX4_copyFrom, Cond.instanceMethod yX4_copyFrom, Cond.selects RX4 yX4_copyFrom yX4_copyFrom, Cond.initialized RX4, Cond.code yX4_copyFrom cX4_copyFrom 3 none, Cond.fieldLink RX4 18 "RoomTails$Plan" "size" "I", Cond.fieldLink RX4 11 "RoomTails$Plan" "entries" "[LRoomTails$Entry;"]
def wsX7_room_r4 : List Cond := [Cond.methodLink RX4 22 yX1_copyFrom, Cond.instanceMethod yX1_copyFrom, Cond.selects RX1 yX1_copyFrom yX1_copyFrom, Cond.initialized RX1, Cond.code yX1_copyFrom cX1_copyFrom 2 none, Cond.fieldLink RX1 7 "RoomTails$Entry" "isSound" "Z", Cond.fieldLink RX1 17 "RoomTails$Entry" "step" "I", Cond.fieldLink RX1 13 "RoomTails$Entry" "place" "I", Cond.fieldLink RX1 20 "RoomTails$Entry" "steps" "I", Cond.fieldLink RX1 23 "RoomTails$Entry" "amount" "I", Cond.methodLink RX7 52 yX3_addRoom, Cond.instanceMethod yX3_addRoom, Cond.selects RX3 yX3_addRoom yX3_addRoom, Cond.code yX3_addRoom cX3_addRoom 3 (some .int), Cond.methodLink RX3 72 yX5_begin, Cond.instanceMethod yX5_begin, Cond.selects RX5 yX5_begin yX5_begin, Cond.code yX5_begin cX5_begin 4 none]
def wsX7_room : List Cond := .code yX7_room cX7_room 3 (some .int) :: ((wsX7_room_r1 ++ (wsX7_room_r2 ++ (wsX7_room_r3 ++ wsX7_room_r4))) ++ wsX70 ++ wsX30 ++ wsX20 ++ wsX50 ++ wsX00 ++ wsX40 ++ wsX10)
def wsX7_isRoomOrOutside : List Cond := .code yX7_isRoomOrOutside cX7_isRoomOrOutside 2 (some .boolean) :: ([.fieldLink RX7 10 "RoomTails" "house" "LRoomTails$House;", .methodLink RX7 56 yX3_roomAt, .instanceMethod yX3_roomAt, .selects RX3 yX3_roomAt yX3_roomAt, .initialized RX3, .code yX3_roomAt cX3_roomAt 2 (some (.object "RoomTails$Room")), .fieldLink RX3 53 "RoomTails$House" "roomCount" "I", .fieldLink RX3 11 "RoomTails$House" "rooms" "[LRoomTails$Room;"] ++ wsX70 ++ wsX30)
def wsX7_door_r1 : List Cond := [Cond.fieldLink RX7 10 "RoomTails" "house" "LRoomTails$House;", Cond.fieldLink RX7 68 "RoomTails$House" "doorCount" "I", Cond.fieldLink RX7 22 "RoomTails" "history" "LRoomTails$History;", Cond.methodLink RX7 56 yX3_roomAt, Cond.instanceMethod yX3_roomAt, Cond.selects RX3 yX3_roomAt yX3_roomAt, Cond.initialized RX3, Cond.code yX3_roomAt cX3_roomAt 2 (some (.object "RoomTails$Room")), Cond.fieldLink RX3 53 "RoomTails$House" "roomCount" "I", Cond.fieldLink RX3 11 "RoomTails$House" "rooms" "[LRoomTails$Room;", Cond.methodLink RX7 60 yX7_isRoomOrOutside, Cond.instanceMethod yX7_isRoomOrOutside, Cond.selects RX7 yX7_isRoomOrOutside yX7_isRoomOrOutside, Cond.initialized RX7, Cond.code yX7_isRoomOrOutside cX7_isRoomOrOutside 2 (some .boolean), Cond.methodLink RX7 40 yX7_isWithin, Cond.static yX7_isWithin, Cond.code yX7_isWithin cX7_isWithin 3 (some .boolean), Cond.methodLink RX7 64 yX3_hasWallFor, Cond.instanceMethod yX3_hasWallFor, Cond.selects RX3 yX3_hasWallFor yX3_hasWallFor, Cond.code yX3_hasWallFor cX3_hasWallFor 9 (some .boolean), Cond.fieldLink RX3 19 "RoomTails$House" "doors" "[LRoomTails$Door;", Cond.fieldLink RX3 87 "RoomTails$Door" "area" "I"]
def wsX7_door_r2 : List Cond := [Cond.fieldLink RX3 90 "RoomTails$Room" "volume" "I", Cond.methodLink RX3 79 yX3_roomAt, Cond.methodLink RX3 83 yX0_isAt, Cond.instanceMethod yX0_isAt, Cond.selects RX0 yX0_isAt yX0_isAt, Cond.initialized RX0, Cond.code yX0_isAt cX0_isAt 2 (some .boolean), Cond.fieldLink RX0 24 "RoomTails$Door" "area" "I", Cond.fieldLink RX0 9 "RoomTails$Door" "sides" "[I", Cond.methodLink RX7 48 yX2_record, Cond.instanceMethod yX2_record, Cond.selects RX2 yX2_record yX2_record, Cond.initialized RX2, Cond.code yX2_record cX2_record 2 none, Cond.fieldLink RX2 18 "RoomTails$History" "size" "I", Cond.fieldLink RX2 11 "RoomTails$History" "states" "[LRoomTails$House;", Cond.methodLink RX2 22 yX2_forgetOldest, Cond.instanceMethod yX2_forgetOldest, Cond.selects RX2 yX2_forgetOldest yX2_forgetOldest, Cond.code yX2_forgetOldest cX2_forgetOldest 3 none, Cond.methodLink RX2 25 yX3_copyFrom, Cond.instanceMethod yX3_copyFrom, Cond.selects RX3 yX3_copyFrom yX3_copyFrom, Cond.code yX3_copyFrom cX3_copyFrom 3 none]
def wsX7_door_r3 : List Cond := [Cond.fieldLink RX3 26 "RoomTails$House" "plan" "LRoomTails$Plan;", Cond.fieldLink RX3 31 "RoomTails$House" "settings" "[I", Cond.methodLink RX3 47 arraycopyName, Cond.native arraycopyName, Cond.static arraycopyName, Cond.initialized "java/lang/System", Cond.fieldLink RX3 57 "RoomTails$House" "doorCount" "I", Cond.fieldLink RX3 60 "RoomTails$House" "present" "I", Cond.fieldLink RX3 63 "RoomTails$House" "escaped" "I", Cond.fieldLink RX3 66 "RoomTails$House" "toldEnergy" "I", Cond.fieldLink RX3 69 "RoomTails$House" "openedAmidSound" "I", Cond.methodLink RX3 37 yX5_copyFrom, Cond.instanceMethod yX5_copyFrom, Cond.selects RX5 yX5_copyFrom yX5_copyFrom, Cond.initialized RX5, Cond.code yX5_copyFrom cX5_copyFrom 2 none, Cond.fieldLink RX5 15 "RoomTails$Room" "volume" "I", Cond.fieldLink RX5 19 "RoomTails$Room" "absorption" "I", Cond.fieldLink RX5 25 "RoomTails$Room" "energy" "I", Cond.fieldLink RX5 28 "RoomTails$Room" "absorbed" "I", Cond.fieldLink RX5 31 "RoomTails$Room" "given" "I", Cond.fieldLink RX5 22 "RoomTails$Room" "firstStep" "I", Cond.fieldLink RX5 9 "RoomTails$Room" "energies" "[I", Cond.methodLink RX5 34 arraycopyName]
def wsX7_door_r4 : List Cond := [Cond.methodLink RX3 41 yX0_copyFrom, Cond.instanceMethod yX0_copyFrom, Cond.selects RX0 yX0_copyFrom yX0_copyFrom, Cond.code yX0_copyFrom cX0_copyFrom 2 none, Cond.fieldLink RX0 28 "RoomTails$Door" "speed" "I", Cond.fieldLink RX0 31 "RoomTails$Door" "delay" "I", Cond.fieldLink RX0 34 "RoomTails$Door" "opening" "I", Cond.fieldLink RX0 37 "RoomTails$Door" "target" "I", Cond.fieldLink RX0 40 "RoomTails$Door" "locked" "Z", Cond.methodLink RX0 44 arraycopyName, Cond.fieldLink RX0 15 "RoomTails$Door" "gone" "[I", Cond.fieldLink RX0 21 "RoomTails$Door" "arriving" "[I", Cond.methodLink RX3 44 yX4_copyFrom, Cond.instanceMethod yX4_copyFrom, Cond.selects RX4 yX4_copyFrom yX4_copyFrom, Cond.initialized RX4, Cond.code yX4_copyFrom cX4_copyFrom 3 none, Cond.fieldLink RX4 18 "RoomTails$Plan" "size" "I", Cond.fieldLink RX4 11 "RoomTails$Plan" "entries" "[LRoomTails$Entry;", Cond.methodLink RX4 22 yX1_copyFrom, Cond.instanceMethod yX1_copyFrom, Cond.selects RX1 yX1_copyFrom yX1_copyFrom, Cond.initialized RX1, Cond.code yX1_copyFrom cX1_copyFrom 2 none]
def wsX7_door_r5 : List Cond := [Cond.fieldLink RX1 7 "RoomTails$Entry" "isSound" "Z", Cond.fieldLink RX1 17 "RoomTails$Entry" "step" "I", Cond.fieldLink RX1 13 "RoomTails$Entry" "place" "I", Cond.fieldLink RX1 20 "RoomTails$Entry" "steps" "I", Cond.fieldLink RX1 23 "RoomTails$Entry" "amount" "I", Cond.methodLink RX7 71 yX3_addDoor, Cond.instanceMethod yX3_addDoor, Cond.selects RX3 yX3_addDoor yX3_addDoor, Cond.code yX3_addDoor cX3_addDoor 7 (some .int), Cond.methodLink RX3 76 yX0_begin, Cond.instanceMethod yX0_begin, Cond.selects RX0 yX0_begin yX0_begin, Cond.code yX0_begin cX0_begin 6 none]
def wsX7_door : List Cond := .code yX7_door cX7_door 6 (some .int) :: ((wsX7_door_r1 ++ (wsX7_door_r2 ++ (wsX7_door_r3 ++ (wsX7_door_r4 ++ wsX7_door_r5)))) ++ wsX70 ++ wsX30 ++ wsX00 ++ wsX50 ++ wsX20 ++ wsX40 ++ wsX10)
def wsX7_open_r1 : List Cond := [Cond.fieldLink RX7 10 "RoomTails" "house" "LRoomTails$House;", Cond.fieldLink RX7 22 "RoomTails" "history" "LRoomTails$History;", Cond.fieldLink RX7 83 "RoomTails$Door" "target" "I", Cond.methodLink RX7 75 yX3_doorAt, Cond.instanceMethod yX3_doorAt, Cond.selects RX3 yX3_doorAt yX3_doorAt, Cond.initialized RX3, Cond.code yX3_doorAt cX3_doorAt 2 (some (.object "RoomTails$Door")), Cond.fieldLink RX3 57 "RoomTails$House" "doorCount" "I", Cond.fieldLink RX3 19 "RoomTails$House" "doors" "[LRoomTails$Door;", Cond.methodLink RX7 40 yX7_isWithin, Cond.static yX7_isWithin, Cond.initialized RX7, Cond.code yX7_isWithin cX7_isWithin 3 (some .boolean), Cond.methodLink RX7 79 yX3_reasonToRefuse, Cond.instanceMethod yX3_reasonToRefuse, Cond.selects RX3 yX3_reasonToRefuse yX3_reasonToRefuse, Cond.code yX3_reasonToRefuse cX3_reasonToRefuse 4 (some .int), Cond.fieldLink RX3 93 "RoomTails$Door" "locked" "Z", Cond.fieldLink RX3 97 "RoomTails$Door" "target" "I", Cond.fieldLink RX3 100 "RoomTails$Door" "sides" "[I", Cond.methodLink RX3 107 Lib.Math.abs.name, Cond.static Lib.Math.abs.name, Cond.initialized "java/lang/Math"]
def wsX7_open_r2 : List Cond := [Cond.code Lib.Math.abs.name Lib.Math.abs.code 1 (some .int), Cond.fieldLink RX3 112 "RoomTails$Door" "opening" "I", Cond.fieldLink RX3 31 "RoomTails$House" "settings" "[I", Cond.methodLink RX3 103 yX3_densityAt, Cond.instanceMethod yX3_densityAt, Cond.selects RX3 yX3_densityAt yX3_densityAt, Cond.code yX3_densityAt cX3_densityAt 3 (some .int), Cond.methodLink RX3 79 yX3_roomAt, Cond.instanceMethod yX3_roomAt, Cond.selects RX3 yX3_roomAt yX3_roomAt, Cond.code yX3_roomAt cX3_roomAt 2 (some (.object "RoomTails$Room")), Cond.fieldLink RX3 53 "RoomTails$House" "roomCount" "I", Cond.fieldLink RX3 11 "RoomTails$House" "rooms" "[LRoomTails$Room;", Cond.methodLink RX3 119 yX5_density, Cond.instanceMethod yX5_density, Cond.selects RX5 yX5_density yX5_density, Cond.initialized RX5, Cond.code yX5_density cX5_density 1 (some .int), Cond.fieldLink RX5 15 "RoomTails$Room" "volume" "I", Cond.fieldLink RX5 25 "RoomTails$Room" "energy" "I", Cond.methodLink RX7 48 yX2_record, Cond.instanceMethod yX2_record, Cond.selects RX2 yX2_record yX2_record, Cond.initialized RX2]
def wsX7_open_r3 : List Cond := [Cond.code yX2_record cX2_record 2 none, Cond.fieldLink RX2 18 "RoomTails$History" "size" "I", Cond.fieldLink RX2 11 "RoomTails$History" "states" "[LRoomTails$House;", Cond.methodLink RX2 22 yX2_forgetOldest, Cond.instanceMethod yX2_forgetOldest, Cond.selects RX2 yX2_forgetOldest yX2_forgetOldest, Cond.code yX2_forgetOldest cX2_forgetOldest 3 none, Cond.methodLink RX2 25 yX3_copyFrom, Cond.instanceMethod yX3_copyFrom, Cond.selects RX3 yX3_copyFrom yX3_copyFrom, Cond.code yX3_copyFrom cX3_copyFrom 3 none, Cond.fieldLink RX3 26 "RoomTails$House" "plan" "LRoomTails$Plan;", Cond.methodLink RX3 47 arraycopyName, Cond.native arraycopyName, Cond.static arraycopyName, Cond.initialized "java/lang/System", Cond.fieldLink RX3 60 "RoomTails$House" "present" "I", Cond.fieldLink RX3 63 "RoomTails$House" "escaped" "I", Cond.fieldLink RX3 66 "RoomTails$House" "toldEnergy" "I", Cond.fieldLink RX3 69 "RoomTails$House" "openedAmidSound" "I", Cond.methodLink RX3 37 yX5_copyFrom, Cond.instanceMethod yX5_copyFrom, Cond.selects RX5 yX5_copyFrom yX5_copyFrom, Cond.code yX5_copyFrom cX5_copyFrom 2 none]
def wsX7_open_r4 : List Cond := [Cond.fieldLink RX5 19 "RoomTails$Room" "absorption" "I", Cond.fieldLink RX5 28 "RoomTails$Room" "absorbed" "I", Cond.fieldLink RX5 31 "RoomTails$Room" "given" "I", Cond.fieldLink RX5 22 "RoomTails$Room" "firstStep" "I", Cond.fieldLink RX5 9 "RoomTails$Room" "energies" "[I", Cond.methodLink RX5 34 arraycopyName, Cond.methodLink RX3 41 yX0_copyFrom, Cond.instanceMethod yX0_copyFrom, Cond.selects RX0 yX0_copyFrom yX0_copyFrom, Cond.initialized RX0, Cond.code yX0_copyFrom cX0_copyFrom 2 none, Cond.fieldLink RX0 24 "RoomTails$Door" "area" "I", Cond.fieldLink RX0 28 "RoomTails$Door" "speed" "I", Cond.fieldLink RX0 31 "RoomTails$Door" "delay" "I", Cond.fieldLink RX0 34 "RoomTails$Door" "opening" "I", Cond.fieldLink RX0 37 "RoomTails$Door" "target" "I", Cond.fieldLink RX0 40 "RoomTails$Door" "locked" "Z", Cond.fieldLink RX0 9 "RoomTails$Door" "sides" "[I", Cond.methodLink RX0 44 arraycopyName, Cond.fieldLink RX0 15 "RoomTails$Door" "gone" "[I", Cond.fieldLink RX0 21 "RoomTails$Door" "arriving" "[I", Cond.methodLink RX3 44 yX4_copyFrom, Cond.instanceMethod yX4_copyFrom, Cond.selects RX4 yX4_copyFrom yX4_copyFrom]
def wsX7_open_r5 : List Cond := [Cond.initialized RX4, Cond.code yX4_copyFrom cX4_copyFrom 3 none, Cond.fieldLink RX4 18 "RoomTails$Plan" "size" "I", Cond.fieldLink RX4 11 "RoomTails$Plan" "entries" "[LRoomTails$Entry;", Cond.methodLink RX4 22 yX1_copyFrom, Cond.instanceMethod yX1_copyFrom, Cond.selects RX1 yX1_copyFrom yX1_copyFrom, Cond.initialized RX1, Cond.code yX1_copyFrom cX1_copyFrom 2 none, Cond.fieldLink RX1 7 "RoomTails$Entry" "isSound" "Z", Cond.fieldLink RX1 17 "RoomTails$Entry" "step" "I", Cond.fieldLink RX1 13 "RoomTails$Entry" "place" "I", Cond.fieldLink RX1 20 "RoomTails$Entry" "steps" "I", Cond.fieldLink RX1 23 "RoomTails$Entry" "amount" "I", Cond.methodLink RX7 88 yX0_aimAt, Cond.instanceMethod yX0_aimAt, Cond.selects RX0 yX0_aimAt yX0_aimAt, Cond.code yX0_aimAt cX0_aimAt 2 none]
def wsX7_open : List Cond := .code yX7_open cX7_open 5 (some .int) :: ((wsX7_open_r1 ++ (wsX7_open_r2 ++ (wsX7_open_r3 ++ (wsX7_open_r4 ++ wsX7_open_r5)))) ++ wsX70 ++ wsX00 ++ wsX30 ++ wsX50 ++ wsX20 ++ wsX40 ++ wsX10)
def wsX7_lock_r1 : List Cond := [Cond.fieldLink RX7 10 "RoomTails" "house" "LRoomTails$House;", Cond.fieldLink RX7 92 "RoomTails$Door" "locked" "Z", Cond.fieldLink RX7 22 "RoomTails" "history" "LRoomTails$History;", Cond.fieldLink RX7 96 "RoomTails$Door" "opening" "I", Cond.fieldLink RX7 83 "RoomTails$Door" "target" "I", Cond.methodLink RX7 75 yX3_doorAt, Cond.instanceMethod yX3_doorAt, Cond.selects RX3 yX3_doorAt yX3_doorAt, Cond.initialized RX3, Cond.code yX3_doorAt cX3_doorAt 2 (some (.object "RoomTails$Door")), Cond.fieldLink RX3 57 "RoomTails$House" "doorCount" "I", Cond.fieldLink RX3 19 "RoomTails$House" "doors" "[LRoomTails$Door;", Cond.methodLink RX7 40 yX7_isWithin, Cond.static yX7_isWithin, Cond.initialized RX7, Cond.code yX7_isWithin cX7_isWithin 3 (some .boolean), Cond.methodLink RX7 48 yX2_record, Cond.instanceMethod yX2_record, Cond.selects RX2 yX2_record yX2_record, Cond.initialized RX2, Cond.code yX2_record cX2_record 2 none, Cond.fieldLink RX2 18 "RoomTails$History" "size" "I", Cond.fieldLink RX2 11 "RoomTails$History" "states" "[LRoomTails$House;", Cond.methodLink RX2 22 yX2_forgetOldest]
def wsX7_lock_r2 : List Cond := [Cond.instanceMethod yX2_forgetOldest, Cond.selects RX2 yX2_forgetOldest yX2_forgetOldest, Cond.code yX2_forgetOldest cX2_forgetOldest 3 none, Cond.methodLink RX2 25 yX3_copyFrom, Cond.instanceMethod yX3_copyFrom, Cond.selects RX3 yX3_copyFrom yX3_copyFrom, Cond.code yX3_copyFrom cX3_copyFrom 3 none, Cond.fieldLink RX3 11 "RoomTails$House" "rooms" "[LRoomTails$Room;", Cond.fieldLink RX3 26 "RoomTails$House" "plan" "LRoomTails$Plan;", Cond.fieldLink RX3 31 "RoomTails$House" "settings" "[I", Cond.methodLink RX3 47 arraycopyName, Cond.native arraycopyName, Cond.static arraycopyName, Cond.initialized "java/lang/System", Cond.fieldLink RX3 53 "RoomTails$House" "roomCount" "I", Cond.fieldLink RX3 60 "RoomTails$House" "present" "I", Cond.fieldLink RX3 63 "RoomTails$House" "escaped" "I", Cond.fieldLink RX3 66 "RoomTails$House" "toldEnergy" "I", Cond.fieldLink RX3 69 "RoomTails$House" "openedAmidSound" "I", Cond.methodLink RX3 37 yX5_copyFrom, Cond.instanceMethod yX5_copyFrom, Cond.selects RX5 yX5_copyFrom yX5_copyFrom, Cond.initialized RX5, Cond.code yX5_copyFrom cX5_copyFrom 2 none]
def wsX7_lock_r3 : List Cond := [Cond.fieldLink RX5 15 "RoomTails$Room" "volume" "I", Cond.fieldLink RX5 19 "RoomTails$Room" "absorption" "I", Cond.fieldLink RX5 25 "RoomTails$Room" "energy" "I", Cond.fieldLink RX5 28 "RoomTails$Room" "absorbed" "I", Cond.fieldLink RX5 31 "RoomTails$Room" "given" "I", Cond.fieldLink RX5 22 "RoomTails$Room" "firstStep" "I", Cond.fieldLink RX5 9 "RoomTails$Room" "energies" "[I", Cond.methodLink RX5 34 arraycopyName, Cond.methodLink RX3 41 yX0_copyFrom, Cond.instanceMethod yX0_copyFrom, Cond.selects RX0 yX0_copyFrom yX0_copyFrom, Cond.initialized RX0, Cond.code yX0_copyFrom cX0_copyFrom 2 none, Cond.fieldLink RX0 24 "RoomTails$Door" "area" "I", Cond.fieldLink RX0 28 "RoomTails$Door" "speed" "I", Cond.fieldLink RX0 31 "RoomTails$Door" "delay" "I", Cond.fieldLink RX0 34 "RoomTails$Door" "opening" "I", Cond.fieldLink RX0 37 "RoomTails$Door" "target" "I", Cond.fieldLink RX0 40 "RoomTails$Door" "locked" "Z", Cond.fieldLink RX0 9 "RoomTails$Door" "sides" "[I", Cond.methodLink RX0 44 arraycopyName, Cond.fieldLink RX0 15 "RoomTails$Door" "gone" "[I", Cond.fieldLink RX0 21 "RoomTails$Door" "arriving" "[I", Cond.methodLink RX3 44 yX4_copyFrom]
def wsX7_lock_r4 : List Cond := [Cond.instanceMethod yX4_copyFrom, Cond.selects RX4 yX4_copyFrom yX4_copyFrom, Cond.initialized RX4, Cond.code yX4_copyFrom cX4_copyFrom 3 none, Cond.fieldLink RX4 18 "RoomTails$Plan" "size" "I", Cond.fieldLink RX4 11 "RoomTails$Plan" "entries" "[LRoomTails$Entry;", Cond.methodLink RX4 22 yX1_copyFrom, Cond.instanceMethod yX1_copyFrom, Cond.selects RX1 yX1_copyFrom yX1_copyFrom, Cond.initialized RX1, Cond.code yX1_copyFrom cX1_copyFrom 2 none, Cond.fieldLink RX1 7 "RoomTails$Entry" "isSound" "Z", Cond.fieldLink RX1 17 "RoomTails$Entry" "step" "I", Cond.fieldLink RX1 13 "RoomTails$Entry" "place" "I", Cond.fieldLink RX1 20 "RoomTails$Entry" "steps" "I", Cond.fieldLink RX1 23 "RoomTails$Entry" "amount" "I"]
def wsX7_lock : List Cond := .code yX7_lock cX7_lock 4 (some .int) :: ((wsX7_lock_r1 ++ (wsX7_lock_r2 ++ (wsX7_lock_r3 ++ wsX7_lock_r4))) ++ wsX70 ++ wsX00 ++ wsX30 ++ wsX20 ++ wsX50 ++ wsX40 ++ wsX10)
def wsX7_set_r1 : List Cond := [Cond.constant RX7 99 (1000000), Cond.fieldLink RX7 22 "RoomTails" "history" "LRoomTails$History;", Cond.fieldLink RX7 10 "RoomTails" "house" "LRoomTails$House;", Cond.fieldLink RX7 100 "RoomTails$House" "settings" "[I", Cond.methodLink RX7 40 yX7_isWithin, Cond.static yX7_isWithin, Cond.initialized RX7, Cond.code yX7_isWithin cX7_isWithin 3 (some .boolean), Cond.methodLink RX7 48 yX2_record, Cond.instanceMethod yX2_record, Cond.selects RX2 yX2_record yX2_record, Cond.initialized RX2, Cond.code yX2_record cX2_record 2 none, Cond.fieldLink RX2 18 "RoomTails$History" "size" "I", Cond.fieldLink RX2 11 "RoomTails$History" "states" "[LRoomTails$House;", Cond.methodLink RX2 22 yX2_forgetOldest, Cond.instanceMethod yX2_forgetOldest, Cond.selects RX2 yX2_forgetOldest yX2_forgetOldest, Cond.code yX2_forgetOldest cX2_forgetOldest 3 none, Cond.methodLink RX2 25 yX3_copyFrom, Cond.instanceMethod yX3_copyFrom, Cond.selects RX3 yX3_copyFrom yX3_copyFrom, Cond.initialized RX3, Cond.code yX3_copyFrom cX3_copyFrom 3 none]
def wsX7_set_r2 : List Cond := [Cond.fieldLink RX3 11 "RoomTails$House" "rooms" "[LRoomTails$Room;", Cond.fieldLink RX3 19 "RoomTails$House" "doors" "[LRoomTails$Door;", Cond.fieldLink RX3 26 "RoomTails$House" "plan" "LRoomTails$Plan;", Cond.fieldLink RX3 31 "RoomTails$House" "settings" "[I", Cond.methodLink RX3 47 arraycopyName, Cond.native arraycopyName, Cond.static arraycopyName, Cond.initialized "java/lang/System", Cond.fieldLink RX3 53 "RoomTails$House" "roomCount" "I", Cond.fieldLink RX3 57 "RoomTails$House" "doorCount" "I", Cond.fieldLink RX3 60 "RoomTails$House" "present" "I", Cond.fieldLink RX3 63 "RoomTails$House" "escaped" "I", Cond.fieldLink RX3 66 "RoomTails$House" "toldEnergy" "I", Cond.fieldLink RX3 69 "RoomTails$House" "openedAmidSound" "I", Cond.methodLink RX3 37 yX5_copyFrom, Cond.instanceMethod yX5_copyFrom, Cond.selects RX5 yX5_copyFrom yX5_copyFrom, Cond.initialized RX5, Cond.code yX5_copyFrom cX5_copyFrom 2 none, Cond.fieldLink RX5 15 "RoomTails$Room" "volume" "I", Cond.fieldLink RX5 19 "RoomTails$Room" "absorption" "I", Cond.fieldLink RX5 25 "RoomTails$Room" "energy" "I", Cond.fieldLink RX5 28 "RoomTails$Room" "absorbed" "I", Cond.fieldLink RX5 31 "RoomTails$Room" "given" "I"]
def wsX7_set_r3 : List Cond := [Cond.fieldLink RX5 22 "RoomTails$Room" "firstStep" "I", Cond.fieldLink RX5 9 "RoomTails$Room" "energies" "[I", Cond.methodLink RX5 34 arraycopyName, Cond.methodLink RX3 41 yX0_copyFrom, Cond.instanceMethod yX0_copyFrom, Cond.selects RX0 yX0_copyFrom yX0_copyFrom, Cond.initialized RX0, Cond.code yX0_copyFrom cX0_copyFrom 2 none, Cond.fieldLink RX0 24 "RoomTails$Door" "area" "I", Cond.fieldLink RX0 28 "RoomTails$Door" "speed" "I", Cond.fieldLink RX0 31 "RoomTails$Door" "delay" "I", Cond.fieldLink RX0 34 "RoomTails$Door" "opening" "I", Cond.fieldLink RX0 37 "RoomTails$Door" "target" "I", Cond.fieldLink RX0 40 "RoomTails$Door" "locked" "Z", Cond.fieldLink RX0 9 "RoomTails$Door" "sides" "[I", Cond.methodLink RX0 44 arraycopyName, Cond.fieldLink RX0 15 "RoomTails$Door" "gone" "[I", Cond.fieldLink RX0 21 "RoomTails$Door" "arriving" "[I", Cond.methodLink RX3 44 yX4_copyFrom, Cond.instanceMethod yX4_copyFrom, Cond.selects RX4 yX4_copyFrom yX4_copyFrom, Cond.initialized RX4, Cond.code yX4_copyFrom cX4_copyFrom 3 none, Cond.fieldLink RX4 18 "RoomTails$Plan" "size" "I"]
def wsX7_set_r4 : List Cond := [Cond.fieldLink RX4 11 "RoomTails$Plan" "entries" "[LRoomTails$Entry;", Cond.methodLink RX4 22 yX1_copyFrom, Cond.instanceMethod yX1_copyFrom, Cond.selects RX1 yX1_copyFrom yX1_copyFrom, Cond.initialized RX1, Cond.code yX1_copyFrom cX1_copyFrom 2 none, Cond.fieldLink RX1 7 "RoomTails$Entry" "isSound" "Z", Cond.fieldLink RX1 17 "RoomTails$Entry" "step" "I", Cond.fieldLink RX1 13 "RoomTails$Entry" "place" "I", Cond.fieldLink RX1 20 "RoomTails$Entry" "steps" "I", Cond.fieldLink RX1 23 "RoomTails$Entry" "amount" "I"]
def wsX7_set : List Cond := .code yX7_set cX7_set 4 (some .int) :: ((wsX7_set_r1 ++ (wsX7_set_r2 ++ (wsX7_set_r3 ++ wsX7_set_r4))) ++ wsX70 ++ wsX30 ++ wsX20 ++ wsX50 ++ wsX00 ++ wsX40 ++ wsX10)
def wsX7_levelOf : List Cond := .code yX7_levelOf cX7_levelOf 3 (some .int) :: ([])
def wsX7_roomOf_r1 : List Cond := [Cond.fieldLink RX7 10 "RoomTails" "house" "LRoomTails$House;", Cond.fieldLink RX7 104 "RoomTails$Room" "volume" "I", Cond.fieldLink RX7 109 "RoomTails$Room" "absorption" "I", Cond.fieldLink RX7 112 "RoomTails$Room" "energy" "I", Cond.fieldLink RX7 123 "RoomTails$Room" "absorbed" "I", Cond.fieldLink RX7 126 "RoomTails$Room" "given" "I", Cond.fieldLink RX7 132 "RoomTails$House" "plan" "LRoomTails$Plan;", Cond.fieldLink RX7 136 "RoomTails$House" "present" "I", Cond.methodLink RX7 56 yX3_roomAt, Cond.instanceMethod yX3_roomAt, Cond.selects RX3 yX3_roomAt yX3_roomAt, Cond.initialized RX3, Cond.code yX3_roomAt cX3_roomAt 2 (some (.object "RoomTails$Room")), Cond.fieldLink RX3 53 "RoomTails$House" "roomCount" "I", Cond.fieldLink RX3 11 "RoomTails$House" "rooms" "[LRoomTails$Room;", Cond.methodLink RX7 115 yX5_density, Cond.instanceMethod yX5_density, Cond.selects RX5 yX5_density yX5_density, Cond.initialized RX5, Cond.code yX5_density cX5_density 1 (some .int), Cond.fieldLink RX5 15 "RoomTails$Room" "volume" "I", Cond.fieldLink RX5 25 "RoomTails$Room" "energy" "I", Cond.methodLink RX7 119 yX7_levelOf, Cond.static yX7_levelOf]
def wsX7_roomOf_r2 : List Cond := [Cond.initialized RX7, Cond.code yX7_levelOf cX7_levelOf 3 (some .int), Cond.methodLink RX7 129 yX3_doorsOf, Cond.instanceMethod yX3_doorsOf, Cond.selects RX3 yX3_doorsOf yX3_doorsOf, Cond.code yX3_doorsOf cX3_doorsOf 7 (some .int), Cond.fieldLink RX3 19 "RoomTails$House" "doors" "[LRoomTails$Door;", Cond.methodLink RX3 83 yX0_isAt, Cond.instanceMethod yX0_isAt, Cond.selects RX0 yX0_isAt yX0_isAt, Cond.initialized RX0, Cond.code yX0_isAt cX0_isAt 2 (some .boolean), Cond.fieldLink RX0 24 "RoomTails$Door" "area" "I", Cond.fieldLink RX0 9 "RoomTails$Door" "sides" "[I", Cond.methodLink RX7 139 yX4_soundsHeard, Cond.instanceMethod yX4_soundsHeard, Cond.selects RX4 yX4_soundsHeard yX4_soundsHeard, Cond.initialized RX4, Cond.code yX4_soundsHeard cX4_soundsHeard 5 (some .int), Cond.fieldLink RX4 18 "RoomTails$Plan" "size" "I", Cond.fieldLink RX4 11 "RoomTails$Plan" "entries" "[LRoomTails$Entry;", Cond.fieldLink RX4 45 "RoomTails$Entry" "place" "I", Cond.methodLink RX4 48 yX1_isHeardIn, Cond.instanceMethod yX1_isHeardIn]
def wsX7_roomOf_r3 : List Cond := [Cond.selects RX1 yX1_isHeardIn yX1_isHeardIn, Cond.initialized RX1, Cond.code yX1_isHeardIn cX1_isHeardIn 2 (some .boolean), Cond.fieldLink RX1 7 "RoomTails$Entry" "isSound" "Z", Cond.fieldLink RX1 17 "RoomTails$Entry" "step" "I", Cond.fieldLink RX1 20 "RoomTails$Entry" "steps" "I"]
def wsX7_roomOf : List Cond := .code yX7_roomOf cX7_roomOf 4 (some .int) :: ((wsX7_roomOf_r1 ++ (wsX7_roomOf_r2 ++ wsX7_roomOf_r3)) ++ wsX70 ++ wsX50 ++ wsX30 ++ wsX00 ++ wsX40 ++ wsX10)
def wsX7_doorOf_r1 : List Cond := [Cond.fieldLink RX7 10 "RoomTails" "house" "LRoomTails$House;", Cond.fieldLink RX7 144 "RoomTails$Door" "sides" "[I", Cond.fieldLink RX7 147 "RoomTails$Door" "area" "I", Cond.fieldLink RX7 150 "RoomTails$Door" "speed" "I", Cond.fieldLink RX7 153 "RoomTails$Door" "delay" "I", Cond.fieldLink RX7 96 "RoomTails$Door" "opening" "I", Cond.fieldLink RX7 83 "RoomTails$Door" "target" "I", Cond.fieldLink RX7 92 "RoomTails$Door" "locked" "Z", Cond.fieldLink RX7 159 "RoomTails$Door" "gone" "[I", Cond.methodLink RX7 75 yX3_doorAt, Cond.instanceMethod yX3_doorAt, Cond.selects RX3 yX3_doorAt yX3_doorAt, Cond.initialized RX3, Cond.code yX3_doorAt cX3_doorAt 2 (some (.object "RoomTails$Door")), Cond.fieldLink RX3 57 "RoomTails$House" "doorCount" "I", Cond.fieldLink RX3 19 "RoomTails$House" "doors" "[LRoomTails$Door;", Cond.methodLink RX7 156 yX0_energyOnItsWay, Cond.instanceMethod yX0_energyOnItsWay, Cond.selects RX0 yX0_energyOnItsWay yX0_energyOnItsWay, Cond.initialized RX0, Cond.code yX0_energyOnItsWay cX0_energyOnItsWay 6 (some .int), Cond.fieldLink RX0 21 "RoomTails$Door" "arriving" "[I", Cond.methodLink RX7 162 yX3_wouldGo, Cond.instanceMethod yX3_wouldGo]
def wsX7_doorOf_r2 : List Cond := [Cond.selects RX3 yX3_wouldGo yX3_wouldGo, Cond.code yX3_wouldGo cX3_wouldGo 4 (some .int), Cond.fieldLink RX3 100 "RoomTails$Door" "sides" "[I", Cond.methodLink RX3 79 yX3_roomAt, Cond.instanceMethod yX3_roomAt, Cond.selects RX3 yX3_roomAt yX3_roomAt, Cond.code yX3_roomAt cX3_roomAt 2 (some (.object "RoomTails$Room")), Cond.fieldLink RX3 53 "RoomTails$House" "roomCount" "I", Cond.fieldLink RX3 11 "RoomTails$House" "rooms" "[LRoomTails$Room;", Cond.methodLink RX3 209 yX5_shareThrough, Cond.instanceMethod yX5_shareThrough, Cond.selects RX5 yX5_shareThrough yX5_shareThrough, Cond.initialized RX5, Cond.code yX5_shareThrough cX5_shareThrough 2 (some .int), Cond.fieldLink RX5 15 "RoomTails$Room" "volume" "I", Cond.fieldLink RX5 25 "RoomTails$Room" "energy" "I", Cond.fieldLink RX5 50 "RoomTails$Door" "area" "I", Cond.fieldLink RX5 55 "RoomTails$Door" "opening" "I", Cond.constantLong RX5 58 (10)]
def wsX7_doorOf : List Cond := .code yX7_doorOf cX7_doorOf 4 (some .int) :: ((wsX7_doorOf_r1 ++ wsX7_doorOf_r2) ++ wsX70 ++ wsX00 ++ wsX30 ++ wsX50)
def wsX7_count_r1 : List Cond := [Cond.fieldLink RX7 10 "RoomTails" "house" "LRoomTails$House;", Cond.fieldLink RX7 44 "RoomTails$House" "roomCount" "I", Cond.fieldLink RX7 68 "RoomTails$House" "doorCount" "I", Cond.fieldLink RX7 132 "RoomTails$House" "plan" "LRoomTails$Plan;", Cond.fieldLink RX7 165 "RoomTails$Plan" "size" "I", Cond.fieldLink RX7 136 "RoomTails$House" "present" "I", Cond.fieldLink RX7 175 "RoomTails$House" "escaped" "I", Cond.fieldLink RX7 181 "RoomTails$House" "toldEnergy" "I", Cond.fieldLink RX7 184 "RoomTails$House" "openedAmidSound" "I", Cond.fieldLink RX7 22 "RoomTails" "history" "LRoomTails$History;", Cond.fieldLink RX7 187 "RoomTails$History" "size" "I", Cond.fieldLink RX7 29 "RoomTails" "script" "LRoomTails$Script;", Cond.fieldLink RX7 188 "RoomTails$Script" "length" "I", Cond.fieldLink RX7 100 "RoomTails$House" "settings" "[I", Cond.methodLink RX7 168 yX3_energyInRooms, Cond.instanceMethod yX3_energyInRooms, Cond.selects RX3 yX3_energyInRooms yX3_energyInRooms, Cond.initialized RX3, Cond.code yX3_energyInRooms cX3_energyInRooms 6 (some .int), Cond.fieldLink RX3 11 "RoomTails$House" "rooms" "[LRoomTails$Room;", Cond.fieldLink RX3 123 "RoomTails$Room" "energy" "I", Cond.methodLink RX7 171 yX3_energyOnItsWay, Cond.instanceMethod yX3_energyOnItsWay, Cond.selects RX3 yX3_energyOnItsWay yX3_energyOnItsWay]
def wsX7_count_r2 : List Cond := [Cond.code yX3_energyOnItsWay cX3_energyOnItsWay 6 (some .int), Cond.fieldLink RX3 19 "RoomTails$House" "doors" "[LRoomTails$Door;", Cond.methodLink RX3 126 yX0_energyOnItsWay, Cond.instanceMethod yX0_energyOnItsWay, Cond.selects RX0 yX0_energyOnItsWay yX0_energyOnItsWay, Cond.initialized RX0, Cond.code yX0_energyOnItsWay cX0_energyOnItsWay 6 (some .int), Cond.fieldLink RX0 21 "RoomTails$Door" "arriving" "[I", Cond.methodLink RX7 172 yX3_energyAbsorbed, Cond.instanceMethod yX3_energyAbsorbed, Cond.selects RX3 yX3_energyAbsorbed yX3_energyAbsorbed, Cond.code yX3_energyAbsorbed cX3_energyAbsorbed 6 (some .int), Cond.fieldLink RX3 129 "RoomTails$Room" "absorbed" "I", Cond.methodLink RX7 178 yX3_energyGiven, Cond.instanceMethod yX3_energyGiven, Cond.selects RX3 yX3_energyGiven yX3_energyGiven, Cond.code yX3_energyGiven cX3_energyGiven 6 (some .int), Cond.fieldLink RX3 132 "RoomTails$Room" "given" "I"]
def wsX7_count : List Cond := .code yX7_count cX7_count 2 (some .int) :: ((wsX7_count_r1 ++ wsX7_count_r2) ++ wsX70 ++ wsX30 ++ wsX40 ++ wsX20 ++ wsX60 ++ wsX50 ++ wsX00)
def wsX7_sound_r1 : List Cond := [Cond.fieldLink RX7 10 "RoomTails" "house" "LRoomTails$House;", Cond.constant RX7 99 (1000000), Cond.fieldLink RX7 136 "RoomTails$House" "present" "I", Cond.fieldLink RX7 36 "RoomTails" "told" "LRoomTails$Entry;", Cond.fieldLink RX7 132 "RoomTails$House" "plan" "LRoomTails$Plan;", Cond.fieldLink RX7 181 "RoomTails$House" "toldEnergy" "I", Cond.constant RX7 205 (1000000000), Cond.fieldLink RX7 22 "RoomTails" "history" "LRoomTails$History;", Cond.fieldLink RX7 165 "RoomTails$Plan" "size" "I", Cond.methodLink RX7 56 yX3_roomAt, Cond.instanceMethod yX3_roomAt, Cond.selects RX3 yX3_roomAt yX3_roomAt, Cond.initialized RX3, Cond.code yX3_roomAt cX3_roomAt 2 (some (.object "RoomTails$Room")), Cond.fieldLink RX3 53 "RoomTails$House" "roomCount" "I", Cond.fieldLink RX3 11 "RoomTails$House" "rooms" "[LRoomTails$Room;", Cond.methodLink RX7 40 yX7_isWithin, Cond.static yX7_isWithin, Cond.initialized RX7, Cond.code yX7_isWithin cX7_isWithin 3 (some .boolean), Cond.methodLink RX7 194 yX1_becomeSound, Cond.instanceMethod yX1_becomeSound, Cond.selects RX1 yX1_becomeSound yX1_becomeSound, Cond.initialized RX1]
def wsX7_sound_r2 : List Cond := [Cond.code yX1_becomeSound cX1_becomeSound 5 none, Cond.fieldLink RX1 7 "RoomTails$Entry" "isSound" "Z", Cond.fieldLink RX1 13 "RoomTails$Entry" "place" "I", Cond.fieldLink RX1 17 "RoomTails$Entry" "step" "I", Cond.fieldLink RX1 20 "RoomTails$Entry" "steps" "I", Cond.fieldLink RX1 23 "RoomTails$Entry" "amount" "I", Cond.methodLink RX7 198 yX4_isFull, Cond.instanceMethod yX4_isFull, Cond.selects RX4 yX4_isFull yX4_isFull, Cond.initialized RX4, Cond.code yX4_isFull cX4_isFull 1 (some .boolean), Cond.fieldLink RX4 18 "RoomTails$Plan" "size" "I", Cond.fieldLink RX4 11 "RoomTails$Plan" "entries" "[LRoomTails$Entry;", Cond.methodLink RX7 202 yX1_allEnergy, Cond.instanceMethod yX1_allEnergy, Cond.selects RX1 yX1_allEnergy yX1_allEnergy, Cond.code yX1_allEnergy cX1_allEnergy 1 (some .int), Cond.methodLink RX7 48 yX2_record, Cond.instanceMethod yX2_record, Cond.selects RX2 yX2_record yX2_record, Cond.initialized RX2, Cond.code yX2_record cX2_record 2 none, Cond.fieldLink RX2 18 "RoomTails$History" "size" "I", Cond.fieldLink RX2 11 "RoomTails$History" "states" "[LRoomTails$House;"]
def wsX7_sound_r3 : List Cond := [Cond.methodLink RX2 22 yX2_forgetOldest, Cond.instanceMethod yX2_forgetOldest, Cond.selects RX2 yX2_forgetOldest yX2_forgetOldest, Cond.code yX2_forgetOldest cX2_forgetOldest 3 none, Cond.methodLink RX2 25 yX3_copyFrom, Cond.instanceMethod yX3_copyFrom, Cond.selects RX3 yX3_copyFrom yX3_copyFrom, Cond.code yX3_copyFrom cX3_copyFrom 3 none, Cond.fieldLink RX3 19 "RoomTails$House" "doors" "[LRoomTails$Door;", Cond.fieldLink RX3 26 "RoomTails$House" "plan" "LRoomTails$Plan;", Cond.fieldLink RX3 31 "RoomTails$House" "settings" "[I", Cond.methodLink RX3 47 arraycopyName, Cond.native arraycopyName, Cond.static arraycopyName, Cond.initialized "java/lang/System", Cond.fieldLink RX3 57 "RoomTails$House" "doorCount" "I", Cond.fieldLink RX3 60 "RoomTails$House" "present" "I", Cond.fieldLink RX3 63 "RoomTails$House" "escaped" "I", Cond.fieldLink RX3 66 "RoomTails$House" "toldEnergy" "I", Cond.fieldLink RX3 69 "RoomTails$House" "openedAmidSound" "I", Cond.methodLink RX3 37 yX5_copyFrom, Cond.instanceMethod yX5_copyFrom, Cond.selects RX5 yX5_copyFrom yX5_copyFrom, Cond.initialized RX5]
def wsX7_sound_r4 : List Cond := [Cond.code yX5_copyFrom cX5_copyFrom 2 none, Cond.fieldLink RX5 15 "RoomTails$Room" "volume" "I", Cond.fieldLink RX5 19 "RoomTails$Room" "absorption" "I", Cond.fieldLink RX5 25 "RoomTails$Room" "energy" "I", Cond.fieldLink RX5 28 "RoomTails$Room" "absorbed" "I", Cond.fieldLink RX5 31 "RoomTails$Room" "given" "I", Cond.fieldLink RX5 22 "RoomTails$Room" "firstStep" "I", Cond.fieldLink RX5 9 "RoomTails$Room" "energies" "[I", Cond.methodLink RX5 34 arraycopyName, Cond.methodLink RX3 41 yX0_copyFrom, Cond.instanceMethod yX0_copyFrom, Cond.selects RX0 yX0_copyFrom yX0_copyFrom, Cond.initialized RX0, Cond.code yX0_copyFrom cX0_copyFrom 2 none, Cond.fieldLink RX0 24 "RoomTails$Door" "area" "I", Cond.fieldLink RX0 28 "RoomTails$Door" "speed" "I", Cond.fieldLink RX0 31 "RoomTails$Door" "delay" "I", Cond.fieldLink RX0 34 "RoomTails$Door" "opening" "I", Cond.fieldLink RX0 37 "RoomTails$Door" "target" "I", Cond.fieldLink RX0 40 "RoomTails$Door" "locked" "Z", Cond.fieldLink RX0 9 "RoomTails$Door" "sides" "[I", Cond.methodLink RX0 44 arraycopyName, Cond.fieldLink RX0 15 "RoomTails$Door" "gone" "[I", Cond.fieldLink RX0 21 "RoomTails$Door" "arriving" "[I"]
def wsX7_sound_r5 : List Cond := [Cond.methodLink RX3 44 yX4_copyFrom, Cond.instanceMethod yX4_copyFrom, Cond.selects RX4 yX4_copyFrom yX4_copyFrom, Cond.code yX4_copyFrom cX4_copyFrom 3 none, Cond.methodLink RX4 22 yX1_copyFrom, Cond.instanceMethod yX1_copyFrom, Cond.selects RX1 yX1_copyFrom yX1_copyFrom, Cond.code yX1_copyFrom cX1_copyFrom 2 none, Cond.methodLink RX7 206 yX3_take, Cond.instanceMethod yX3_take, Cond.selects RX3 yX3_take yX3_take, Cond.code yX3_take cX3_take 2 none, Cond.methodLink RX3 143 yX4_insert, Cond.instanceMethod yX4_insert, Cond.selects RX4 yX4_insert yX4_insert, Cond.code yX4_insert cX4_insert 4 none, Cond.fieldLink RX4 26 "RoomTails$Entry" "step" "I", Cond.methodLink RX3 147 yX1_allEnergy]
def wsX7_sound : List Cond := .code yX7_sound cX7_sound 5 (some .int) :: ((wsX7_sound_r1 ++ (wsX7_sound_r2 ++ (wsX7_sound_r3 ++ (wsX7_sound_r4 ++ wsX7_sound_r5)))) ++ wsX70 ++ wsX30 ++ wsX40 ++ wsX10 ++ wsX20 ++ wsX50 ++ wsX00)
def wsX7_planDoor_r1 : List Cond := [Cond.fieldLink RX7 10 "RoomTails" "house" "LRoomTails$House;", Cond.fieldLink RX7 136 "RoomTails$House" "present" "I", Cond.fieldLink RX7 132 "RoomTails$House" "plan" "LRoomTails$Plan;", Cond.fieldLink RX7 22 "RoomTails" "history" "LRoomTails$History;", Cond.fieldLink RX7 36 "RoomTails" "told" "LRoomTails$Entry;", Cond.fieldLink RX7 165 "RoomTails$Plan" "size" "I", Cond.methodLink RX7 75 yX3_doorAt, Cond.instanceMethod yX3_doorAt, Cond.selects RX3 yX3_doorAt yX3_doorAt, Cond.initialized RX3, Cond.code yX3_doorAt cX3_doorAt 2 (some (.object "RoomTails$Door")), Cond.fieldLink RX3 57 "RoomTails$House" "doorCount" "I", Cond.fieldLink RX3 19 "RoomTails$House" "doors" "[LRoomTails$Door;", Cond.methodLink RX7 40 yX7_isWithin, Cond.static yX7_isWithin, Cond.initialized RX7, Cond.code yX7_isWithin cX7_isWithin 3 (some .boolean), Cond.methodLink RX7 198 yX4_isFull, Cond.instanceMethod yX4_isFull, Cond.selects RX4 yX4_isFull yX4_isFull, Cond.initialized RX4, Cond.code yX4_isFull cX4_isFull 1 (some .boolean), Cond.fieldLink RX4 18 "RoomTails$Plan" "size" "I", Cond.fieldLink RX4 11 "RoomTails$Plan" "entries" "[LRoomTails$Entry;"]
def wsX7_planDoor_r2 : List Cond := [Cond.methodLink RX7 48 yX2_record, Cond.instanceMethod yX2_record, Cond.selects RX2 yX2_record yX2_record, Cond.initialized RX2, Cond.code yX2_record cX2_record 2 none, Cond.fieldLink RX2 18 "RoomTails$History" "size" "I", Cond.fieldLink RX2 11 "RoomTails$History" "states" "[LRoomTails$House;", Cond.methodLink RX2 22 yX2_forgetOldest, Cond.instanceMethod yX2_forgetOldest, Cond.selects RX2 yX2_forgetOldest yX2_forgetOldest, Cond.code yX2_forgetOldest cX2_forgetOldest 3 none, Cond.methodLink RX2 25 yX3_copyFrom, Cond.instanceMethod yX3_copyFrom, Cond.selects RX3 yX3_copyFrom yX3_copyFrom, Cond.code yX3_copyFrom cX3_copyFrom 3 none, Cond.fieldLink RX3 11 "RoomTails$House" "rooms" "[LRoomTails$Room;", Cond.fieldLink RX3 26 "RoomTails$House" "plan" "LRoomTails$Plan;", Cond.fieldLink RX3 31 "RoomTails$House" "settings" "[I", Cond.methodLink RX3 47 arraycopyName, Cond.native arraycopyName, Cond.static arraycopyName, Cond.initialized "java/lang/System", Cond.fieldLink RX3 53 "RoomTails$House" "roomCount" "I", Cond.fieldLink RX3 60 "RoomTails$House" "present" "I"]
def wsX7_planDoor_r3 : List Cond := [Cond.fieldLink RX3 63 "RoomTails$House" "escaped" "I", Cond.fieldLink RX3 66 "RoomTails$House" "toldEnergy" "I", Cond.fieldLink RX3 69 "RoomTails$House" "openedAmidSound" "I", Cond.methodLink RX3 37 yX5_copyFrom, Cond.instanceMethod yX5_copyFrom, Cond.selects RX5 yX5_copyFrom yX5_copyFrom, Cond.initialized RX5, Cond.code yX5_copyFrom cX5_copyFrom 2 none, Cond.fieldLink RX5 15 "RoomTails$Room" "volume" "I", Cond.fieldLink RX5 19 "RoomTails$Room" "absorption" "I", Cond.fieldLink RX5 25 "RoomTails$Room" "energy" "I", Cond.fieldLink RX5 28 "RoomTails$Room" "absorbed" "I", Cond.fieldLink RX5 31 "RoomTails$Room" "given" "I", Cond.fieldLink RX5 22 "RoomTails$Room" "firstStep" "I", Cond.fieldLink RX5 9 "RoomTails$Room" "energies" "[I", Cond.methodLink RX5 34 arraycopyName, Cond.methodLink RX3 41 yX0_copyFrom, Cond.instanceMethod yX0_copyFrom, Cond.selects RX0 yX0_copyFrom yX0_copyFrom, Cond.initialized RX0, Cond.code yX0_copyFrom cX0_copyFrom 2 none, Cond.fieldLink RX0 24 "RoomTails$Door" "area" "I", Cond.fieldLink RX0 28 "RoomTails$Door" "speed" "I", Cond.fieldLink RX0 31 "RoomTails$Door" "delay" "I"]
def wsX7_planDoor_r4 : List Cond := [Cond.fieldLink RX0 34 "RoomTails$Door" "opening" "I", Cond.fieldLink RX0 37 "RoomTails$Door" "target" "I", Cond.fieldLink RX0 40 "RoomTails$Door" "locked" "Z", Cond.fieldLink RX0 9 "RoomTails$Door" "sides" "[I", Cond.methodLink RX0 44 arraycopyName, Cond.fieldLink RX0 15 "RoomTails$Door" "gone" "[I", Cond.fieldLink RX0 21 "RoomTails$Door" "arriving" "[I", Cond.methodLink RX3 44 yX4_copyFrom, Cond.instanceMethod yX4_copyFrom, Cond.selects RX4 yX4_copyFrom yX4_copyFrom, Cond.code yX4_copyFrom cX4_copyFrom 3 none, Cond.methodLink RX4 22 yX1_copyFrom, Cond.instanceMethod yX1_copyFrom, Cond.selects RX1 yX1_copyFrom yX1_copyFrom, Cond.initialized RX1, Cond.code yX1_copyFrom cX1_copyFrom 2 none, Cond.fieldLink RX1 7 "RoomTails$Entry" "isSound" "Z", Cond.fieldLink RX1 17 "RoomTails$Entry" "step" "I", Cond.fieldLink RX1 13 "RoomTails$Entry" "place" "I", Cond.fieldLink RX1 20 "RoomTails$Entry" "steps" "I", Cond.fieldLink RX1 23 "RoomTails$Entry" "amount" "I", Cond.methodLink RX7 210 yX1_becomeTarget, Cond.instanceMethod yX1_becomeTarget, Cond.selects RX1 yX1_becomeTarget yX1_becomeTarget]
def wsX7_planDoor_r5 : List Cond := [Cond.code yX1_becomeTarget cX1_becomeTarget 4 none, Cond.methodLink RX7 206 yX3_take, Cond.instanceMethod yX3_take, Cond.selects RX3 yX3_take yX3_take, Cond.code yX3_take cX3_take 2 none, Cond.methodLink RX3 143 yX4_insert, Cond.instanceMethod yX4_insert, Cond.selects RX4 yX4_insert yX4_insert, Cond.code yX4_insert cX4_insert 4 none, Cond.fieldLink RX4 26 "RoomTails$Entry" "step" "I", Cond.methodLink RX3 147 yX1_allEnergy, Cond.instanceMethod yX1_allEnergy, Cond.selects RX1 yX1_allEnergy yX1_allEnergy, Cond.code yX1_allEnergy cX1_allEnergy 1 (some .int)]
def wsX7_planDoor : List Cond := .code yX7_planDoor cX7_planDoor 4 (some .int) :: ((wsX7_planDoor_r1 ++ (wsX7_planDoor_r2 ++ (wsX7_planDoor_r3 ++ (wsX7_planDoor_r4 ++ wsX7_planDoor_r5)))) ++ wsX70 ++ wsX30 ++ wsX40 ++ wsX20 ++ wsX50 ++ wsX00 ++ wsX10)
def wsX7_cancel_r1 : List Cond := [Cond.fieldLink RX7 10 "RoomTails" "house" "LRoomTails$House;", Cond.fieldLink RX7 132 "RoomTails$House" "plan" "LRoomTails$Plan;", Cond.fieldLink RX7 22 "RoomTails" "history" "LRoomTails$History;", Cond.fieldLink RX7 165 "RoomTails$Plan" "size" "I", Cond.methodLink RX7 214 yX4_entryAt, Cond.instanceMethod yX4_entryAt, Cond.selects RX4 yX4_entryAt yX4_entryAt, Cond.initialized RX4, Cond.code yX4_entryAt cX4_entryAt 2 (some (.object "RoomTails$Entry")), Cond.fieldLink RX4 18 "RoomTails$Plan" "size" "I", Cond.fieldLink RX4 11 "RoomTails$Plan" "entries" "[LRoomTails$Entry;", Cond.methodLink RX7 48 yX2_record, Cond.instanceMethod yX2_record, Cond.selects RX2 yX2_record yX2_record, Cond.initialized RX2, Cond.code yX2_record cX2_record 2 none, Cond.fieldLink RX2 18 "RoomTails$History" "size" "I", Cond.fieldLink RX2 11 "RoomTails$History" "states" "[LRoomTails$House;", Cond.methodLink RX2 22 yX2_forgetOldest, Cond.instanceMethod yX2_forgetOldest, Cond.selects RX2 yX2_forgetOldest yX2_forgetOldest, Cond.code yX2_forgetOldest cX2_forgetOldest 3 none, Cond.methodLink RX2 25 yX3_copyFrom, Cond.instanceMethod yX3_copyFrom]
def wsX7_cancel_r2 : List Cond := [Cond.selects RX3 yX3_copyFrom yX3_copyFrom, Cond.initialized RX3, Cond.code yX3_copyFrom cX3_copyFrom 3 none, Cond.fieldLink RX3 11 "RoomTails$House" "rooms" "[LRoomTails$Room;", Cond.fieldLink RX3 19 "RoomTails$House" "doors" "[LRoomTails$Door;", Cond.fieldLink RX3 26 "RoomTails$House" "plan" "LRoomTails$Plan;", Cond.fieldLink RX3 31 "RoomTails$House" "settings" "[I", Cond.methodLink RX3 47 arraycopyName, Cond.native arraycopyName, Cond.static arraycopyName, Cond.initialized "java/lang/System", Cond.fieldLink RX3 53 "RoomTails$House" "roomCount" "I", Cond.fieldLink RX3 57 "RoomTails$House" "doorCount" "I", Cond.fieldLink RX3 60 "RoomTails$House" "present" "I", Cond.fieldLink RX3 63 "RoomTails$House" "escaped" "I", Cond.fieldLink RX3 66 "RoomTails$House" "toldEnergy" "I", Cond.fieldLink RX3 69 "RoomTails$House" "openedAmidSound" "I", Cond.methodLink RX3 37 yX5_copyFrom, Cond.instanceMethod yX5_copyFrom, Cond.selects RX5 yX5_copyFrom yX5_copyFrom, Cond.initialized RX5, Cond.code yX5_copyFrom cX5_copyFrom 2 none, Cond.fieldLink RX5 15 "RoomTails$Room" "volume" "I", Cond.fieldLink RX5 19 "RoomTails$Room" "absorption" "I"]
def wsX7_cancel_r3 : List Cond := [Cond.fieldLink RX5 25 "RoomTails$Room" "energy" "I", Cond.fieldLink RX5 28 "RoomTails$Room" "absorbed" "I", Cond.fieldLink RX5 31 "RoomTails$Room" "given" "I", Cond.fieldLink RX5 22 "RoomTails$Room" "firstStep" "I", Cond.fieldLink RX5 9 "RoomTails$Room" "energies" "[I", Cond.methodLink RX5 34 arraycopyName, Cond.methodLink RX3 41 yX0_copyFrom, Cond.instanceMethod yX0_copyFrom, Cond.selects RX0 yX0_copyFrom yX0_copyFrom, Cond.initialized RX0, Cond.code yX0_copyFrom cX0_copyFrom 2 none, Cond.fieldLink RX0 24 "RoomTails$Door" "area" "I", Cond.fieldLink RX0 28 "RoomTails$Door" "speed" "I", Cond.fieldLink RX0 31 "RoomTails$Door" "delay" "I", Cond.fieldLink RX0 34 "RoomTails$Door" "opening" "I", Cond.fieldLink RX0 37 "RoomTails$Door" "target" "I", Cond.fieldLink RX0 40 "RoomTails$Door" "locked" "Z", Cond.fieldLink RX0 9 "RoomTails$Door" "sides" "[I", Cond.methodLink RX0 44 arraycopyName, Cond.fieldLink RX0 15 "RoomTails$Door" "gone" "[I", Cond.fieldLink RX0 21 "RoomTails$Door" "arriving" "[I", Cond.methodLink RX3 44 yX4_copyFrom, Cond.instanceMethod yX4_copyFrom, Cond.selects RX4 yX4_copyFrom yX4_copyFrom]
def wsX7_cancel_r4 : List Cond := [Cond.code yX4_copyFrom cX4_copyFrom 3 none, Cond.methodLink RX4 22 yX1_copyFrom, Cond.instanceMethod yX1_copyFrom, Cond.selects RX1 yX1_copyFrom yX1_copyFrom, Cond.initialized RX1, Cond.code yX1_copyFrom cX1_copyFrom 2 none, Cond.fieldLink RX1 7 "RoomTails$Entry" "isSound" "Z", Cond.fieldLink RX1 17 "RoomTails$Entry" "step" "I", Cond.fieldLink RX1 13 "RoomTails$Entry" "place" "I", Cond.fieldLink RX1 20 "RoomTails$Entry" "steps" "I", Cond.fieldLink RX1 23 "RoomTails$Entry" "amount" "I", Cond.methodLink RX7 218 yX4_drop, Cond.instanceMethod yX4_drop, Cond.selects RX4 yX4_drop yX4_drop, Cond.code yX4_drop cX4_drop 4 none, Cond.methodLink RX4 29 yX4_entryAt]
def wsX7_cancel : List Cond := .code yX7_cancel cX7_cancel 2 (some .int) :: ((wsX7_cancel_r1 ++ (wsX7_cancel_r2 ++ (wsX7_cancel_r3 ++ wsX7_cancel_r4))) ++ wsX70 ++ wsX30 ++ wsX40 ++ wsX20 ++ wsX50 ++ wsX00 ++ wsX10)
def wsX7_plan : List Cond := .code yX7_plan cX7_plan 4 (some .int) :: ([.fieldLink RX7 10 "RoomTails" "house" "LRoomTails$House;", .fieldLink RX7 132 "RoomTails$House" "plan" "LRoomTails$Plan;", .fieldLink RX7 221 "RoomTails$Entry" "step" "I", .fieldLink RX7 224 "RoomTails$Entry" "isSound" "Z", .fieldLink RX7 227 "RoomTails$Entry" "place" "I", .fieldLink RX7 230 "RoomTails$Entry" "steps" "I", .fieldLink RX7 233 "RoomTails$Entry" "amount" "I", .methodLink RX7 40 yX7_isWithin, .static yX7_isWithin, .initialized RX7, .code yX7_isWithin cX7_isWithin 3 (some .boolean), .methodLink RX7 214 yX4_entryAt, .instanceMethod yX4_entryAt, .selects RX4 yX4_entryAt yX4_entryAt, .initialized RX4, .code yX4_entryAt cX4_entryAt 2 (some (.object "RoomTails$Entry")), .fieldLink RX4 18 "RoomTails$Plan" "size" "I", .fieldLink RX4 11 "RoomTails$Plan" "entries" "[LRoomTails$Entry;"] ++ wsX70 ++ wsX30 ++ wsX10 ++ wsX40)
def wsX7_pass_r1 : List Cond := [Cond.fieldLink RX7 10 "RoomTails" "house" "LRoomTails$House;", Cond.fieldLink RX7 136 "RoomTails$House" "present" "I", Cond.fieldLink RX7 22 "RoomTails" "history" "LRoomTails$History;", Cond.methodLink RX7 40 yX7_isWithin, Cond.static yX7_isWithin, Cond.initialized RX7, Cond.code yX7_isWithin cX7_isWithin 3 (some .boolean), Cond.methodLink RX7 48 yX2_record, Cond.instanceMethod yX2_record, Cond.selects RX2 yX2_record yX2_record, Cond.initialized RX2, Cond.code yX2_record cX2_record 2 none, Cond.fieldLink RX2 18 "RoomTails$History" "size" "I", Cond.fieldLink RX2 11 "RoomTails$History" "states" "[LRoomTails$House;", Cond.methodLink RX2 22 yX2_forgetOldest, Cond.instanceMethod yX2_forgetOldest, Cond.selects RX2 yX2_forgetOldest yX2_forgetOldest, Cond.code yX2_forgetOldest cX2_forgetOldest 3 none, Cond.methodLink RX2 25 yX3_copyFrom, Cond.instanceMethod yX3_copyFrom, Cond.selects RX3 yX3_copyFrom yX3_copyFrom, Cond.initialized RX3, Cond.code yX3_copyFrom cX3_copyFrom 3 none, Cond.fieldLink RX3 11 "RoomTails$House" "rooms" "[LRoomTails$Room;"]
def wsX7_pass_r2 : List Cond := [Cond.fieldLink RX3 19 "RoomTails$House" "doors" "[LRoomTails$Door;", Cond.fieldLink RX3 26 "RoomTails$House" "plan" "LRoomTails$Plan;", Cond.fieldLink RX3 31 "RoomTails$House" "settings" "[I", Cond.methodLink RX3 47 arraycopyName, Cond.native arraycopyName, Cond.static arraycopyName, Cond.initialized "java/lang/System", Cond.fieldLink RX3 53 "RoomTails$House" "roomCount" "I", Cond.fieldLink RX3 57 "RoomTails$House" "doorCount" "I", Cond.fieldLink RX3 60 "RoomTails$House" "present" "I", Cond.fieldLink RX3 63 "RoomTails$House" "escaped" "I", Cond.fieldLink RX3 66 "RoomTails$House" "toldEnergy" "I", Cond.fieldLink RX3 69 "RoomTails$House" "openedAmidSound" "I", Cond.methodLink RX3 37 yX5_copyFrom, Cond.instanceMethod yX5_copyFrom, Cond.selects RX5 yX5_copyFrom yX5_copyFrom, Cond.initialized RX5, Cond.code yX5_copyFrom cX5_copyFrom 2 none, Cond.fieldLink RX5 15 "RoomTails$Room" "volume" "I", Cond.fieldLink RX5 19 "RoomTails$Room" "absorption" "I", Cond.fieldLink RX5 25 "RoomTails$Room" "energy" "I", Cond.fieldLink RX5 28 "RoomTails$Room" "absorbed" "I", Cond.fieldLink RX5 31 "RoomTails$Room" "given" "I", Cond.fieldLink RX5 22 "RoomTails$Room" "firstStep" "I"]
def wsX7_pass_r3 : List Cond := [Cond.fieldLink RX5 9 "RoomTails$Room" "energies" "[I", Cond.methodLink RX5 34 arraycopyName, Cond.methodLink RX3 41 yX0_copyFrom, Cond.instanceMethod yX0_copyFrom, Cond.selects RX0 yX0_copyFrom yX0_copyFrom, Cond.initialized RX0, Cond.code yX0_copyFrom cX0_copyFrom 2 none, Cond.fieldLink RX0 24 "RoomTails$Door" "area" "I", Cond.fieldLink RX0 28 "RoomTails$Door" "speed" "I", Cond.fieldLink RX0 31 "RoomTails$Door" "delay" "I", Cond.fieldLink RX0 34 "RoomTails$Door" "opening" "I", Cond.fieldLink RX0 37 "RoomTails$Door" "target" "I", Cond.fieldLink RX0 40 "RoomTails$Door" "locked" "Z", Cond.fieldLink RX0 9 "RoomTails$Door" "sides" "[I", Cond.methodLink RX0 44 arraycopyName, Cond.fieldLink RX0 15 "RoomTails$Door" "gone" "[I", Cond.fieldLink RX0 21 "RoomTails$Door" "arriving" "[I", Cond.methodLink RX3 44 yX4_copyFrom, Cond.instanceMethod yX4_copyFrom, Cond.selects RX4 yX4_copyFrom yX4_copyFrom, Cond.initialized RX4, Cond.code yX4_copyFrom cX4_copyFrom 3 none, Cond.fieldLink RX4 18 "RoomTails$Plan" "size" "I", Cond.fieldLink RX4 11 "RoomTails$Plan" "entries" "[LRoomTails$Entry;"]
def wsX7_pass_r4 : List Cond := [Cond.methodLink RX4 22 yX1_copyFrom, Cond.instanceMethod yX1_copyFrom, Cond.selects RX1 yX1_copyFrom yX1_copyFrom, Cond.initialized RX1, Cond.code yX1_copyFrom cX1_copyFrom 2 none, Cond.fieldLink RX1 7 "RoomTails$Entry" "isSound" "Z", Cond.fieldLink RX1 17 "RoomTails$Entry" "step" "I", Cond.fieldLink RX1 13 "RoomTails$Entry" "place" "I", Cond.fieldLink RX1 20 "RoomTails$Entry" "steps" "I", Cond.fieldLink RX1 23 "RoomTails$Entry" "amount" "I", Cond.methodLink RX7 236 yX3_goOn, Cond.instanceMethod yX3_goOn, Cond.selects RX3 yX3_goOn yX3_goOn, Cond.code yX3_goOn cX3_goOn 2 none, Cond.methodLink RX3 152 yX5_keepEnergy, Cond.instanceMethod yX5_keepEnergy, Cond.selects RX5 yX5_keepEnergy yX5_keepEnergy, Cond.code yX5_keepEnergy cX5_keepEnergy 2 none, Cond.methodLink RX5 40 yJ9_floorMod_7cf53, Cond.static yJ9_floorMod_7cf53, Cond.initialized RJ9, Cond.code yJ9_floorMod_7cf53 cJ9_floorMod_7cf53 3 (some .int), Cond.methodLink RX3 156 yX3_aimPlannedDoors, Cond.instanceMethod yX3_aimPlannedDoors]
def wsX7_pass_r5 : List Cond := [Cond.selects RX3 yX3_aimPlannedDoors yX3_aimPlannedDoors, Cond.code yX3_aimPlannedDoors cX3_aimPlannedDoors 4 none, Cond.fieldLink RX3 177 "RoomTails$Plan" "size" "I", Cond.fieldLink RX3 187 "RoomTails$Entry" "place" "I", Cond.fieldLink RX3 190 "RoomTails$Entry" "amount" "I", Cond.methodLink RX3 180 yX4_entryAt, Cond.instanceMethod yX4_entryAt, Cond.selects RX4 yX4_entryAt yX4_entryAt, Cond.code yX4_entryAt cX4_entryAt 2 (some (.object "RoomTails$Entry")), Cond.methodLink RX3 184 yX1_isTargetFor, Cond.instanceMethod yX1_isTargetFor, Cond.selects RX1 yX1_isTargetFor yX1_isTargetFor, Cond.code yX1_isTargetFor cX1_isTargetFor 2 (some .boolean), Cond.methodLink RX3 115 yX3_doorAt, Cond.instanceMethod yX3_doorAt, Cond.selects RX3 yX3_doorAt yX3_doorAt, Cond.code yX3_doorAt cX3_doorAt 2 (some (.object "RoomTails$Door")), Cond.methodLink RX3 193 yX0_aimAt, Cond.instanceMethod yX0_aimAt, Cond.selects RX0 yX0_aimAt yX0_aimAt, Cond.code yX0_aimAt cX0_aimAt 2 none, Cond.methodLink RX3 159 yX3_moveDoors, Cond.instanceMethod yX3_moveDoors, Cond.selects RX3 yX3_moveDoors yX3_moveDoors]
def wsX7_pass_r6 : List Cond := [Cond.code yX3_moveDoors cX3_moveDoors 4 none, Cond.fieldLink RX3 112 "RoomTails$Door" "opening" "I", Cond.fieldLink RX3 100 "RoomTails$Door" "sides" "[I", Cond.methodLink RX3 196 yX0_move, Cond.instanceMethod yX0_move, Cond.selects RX0 yX0_move yX0_move, Cond.code yX0_move cX0_move 1 none, Cond.methodLink RX0 50 Lib.Math.min.name, Cond.static Lib.Math.min.name, Cond.initialized "java/lang/Math", Cond.code Lib.Math.min.name Lib.Math.min.code 2 (some .int), Cond.methodLink RX0 56 Lib.Math.max.name, Cond.static Lib.Math.max.name, Cond.code Lib.Math.max.name Lib.Math.max.code 2 (some .int), Cond.methodLink RX3 199 yX4_soundsHeard, Cond.instanceMethod yX4_soundsHeard, Cond.selects RX4 yX4_soundsHeard yX4_soundsHeard, Cond.code yX4_soundsHeard cX4_soundsHeard 5 (some .int), Cond.fieldLink RX4 45 "RoomTails$Entry" "place" "I", Cond.methodLink RX4 48 yX1_isHeardIn, Cond.instanceMethod yX1_isHeardIn, Cond.selects RX1 yX1_isHeardIn yX1_isHeardIn, Cond.code yX1_isHeardIn cX1_isHeardIn 2 (some .boolean), Cond.methodLink RX3 162 yX3_giveSounds]
def wsX7_pass_r7 : List Cond := [Cond.instanceMethod yX3_giveSounds, Cond.selects RX3 yX3_giveSounds yX3_giveSounds, Cond.code yX3_giveSounds cX3_giveSounds 4 none, Cond.methodLink RX3 203 yX1_isHeardIn, Cond.methodLink RX3 79 yX3_roomAt, Cond.instanceMethod yX3_roomAt, Cond.selects RX3 yX3_roomAt yX3_roomAt, Cond.code yX3_roomAt cX3_roomAt 2 (some (.object "RoomTails$Room")), Cond.methodLink RX3 206 yX5_hear, Cond.instanceMethod yX5_hear, Cond.selects RX5 yX5_hear yX5_hear, Cond.code yX5_hear cX5_hear 2 none, Cond.methodLink RX3 165 yX4_dropEnded, Cond.instanceMethod yX4_dropEnded, Cond.selects RX4 yX4_dropEnded yX4_dropEnded, Cond.code yX4_dropEnded cX4_dropEnded 4 none, Cond.methodLink RX4 29 yX4_entryAt, Cond.methodLink RX4 33 yX1_endsWith, Cond.instanceMethod yX1_endsWith, Cond.selects RX1 yX1_endsWith yX1_endsWith, Cond.code yX1_endsWith cX1_endsWith 2 (some .boolean), Cond.methodLink RX4 37 yX4_drop, Cond.instanceMethod yX4_drop, Cond.selects RX4 yX4_drop yX4_drop]
def wsX7_pass_r8 : List Cond := [Cond.code yX4_drop cX4_drop 4 none, Cond.methodLink RX3 168 yX5_absorbShare, Cond.instanceMethod yX5_absorbShare, Cond.selects RX5 yX5_absorbShare yX5_absorbShare, Cond.code yX5_absorbShare cX5_absorbShare 2 none, Cond.constantLong RX5 46 (999), Cond.constantLong RX5 48 (1000), Cond.methodLink RX3 171 yX3_sendThroughDoors, Cond.instanceMethod yX3_sendThroughDoors, Cond.selects RX3 yX3_sendThroughDoors yX3_sendThroughDoors, Cond.code yX3_sendThroughDoors cX3_sendThroughDoors 5 none, Cond.fieldLink RX3 213 "RoomTails$Door" "leaving" "[I", Cond.fieldLink RX3 123 "RoomTails$Room" "energy" "I", Cond.methodLink RX3 216 yX3_wouldGo, Cond.instanceMethod yX3_wouldGo, Cond.selects RX3 yX3_wouldGo yX3_wouldGo, Cond.code yX3_wouldGo cX3_wouldGo 4 (some .int), Cond.methodLink RX3 209 yX5_shareThrough, Cond.instanceMethod yX5_shareThrough, Cond.selects RX5 yX5_shareThrough yX5_shareThrough, Cond.code yX5_shareThrough cX5_shareThrough 2 (some .int), Cond.fieldLink RX5 50 "RoomTails$Door" "area" "I", Cond.fieldLink RX5 55 "RoomTails$Door" "opening" "I", Cond.constantLong RX5 58 (10)]
def wsX7_pass_r9 : List Cond := [Cond.methodLink RX3 220 yX0_send, Cond.instanceMethod yX0_send, Cond.selects RX0 yX0_send yX0_send, Cond.code yX0_send cX0_send 5 none, Cond.methodLink RX0 59 yX0_placeOf, Cond.static yX0_placeOf, Cond.code yX0_placeOf cX0_placeOf 2 (some .int), Cond.methodLink RX0 62 yJ9_floorMod_7cf53, Cond.methodLink RX3 174 yX3_letArrive, Cond.instanceMethod yX3_letArrive, Cond.selects RX3 yX3_letArrive yX3_letArrive, Cond.code yX3_letArrive cX3_letArrive 6 none, Cond.methodLink RX3 223 yX0_takeArrived, Cond.instanceMethod yX0_takeArrived, Cond.selects RX0 yX0_takeArrived yX0_takeArrived, Cond.code yX0_takeArrived cX0_takeArrived 5 (some .int)]
def wsX7_pass : List Cond := .code yX7_pass cX7_pass 3 (some .int) :: ((wsX7_pass_r1 ++ (wsX7_pass_r2 ++ (wsX7_pass_r3 ++ (wsX7_pass_r4 ++ (wsX7_pass_r5 ++ (wsX7_pass_r6 ++ (wsX7_pass_r7 ++ (wsX7_pass_r8 ++ wsX7_pass_r9)))))))) ++ wsX70 ++ wsX30 ++ wsX20 ++ wsX50 ++ wsX00 ++ wsX40 ++ wsX10)
def wsJ9_abs_0f7a4 : List Cond := .code yJ9_abs_0f7a4 cJ9_abs_0f7a4 1 (some .int) :: ([])
def wsJ9_max_7cf53 : List Cond := .code yJ9_max_7cf53 cJ9_max_7cf53 2 (some .int) :: ([])
def wsJ9_min_7cf53 : List Cond := .code yJ9_min_7cf53 cJ9_min_7cf53 2 (some .int) :: ([])
theorem dX0_init_0 : decode cX0_init 0 = .ok (.aload_n 0, 1) := by decide +kernel
theorem dX0_init_1 : decode cX0_init 1 = .ok (.invokespecial 3, 3) := by decide +kernel
theorem dX0_init_4 : decode cX0_init 4 = .ok (.aload_n 0, 1) := by decide +kernel
theorem dX0_init_5 : decode cX0_init 5 = .ok (.iconst 2, 1) := by decide +kernel
theorem dX0_init_6 : decode cX0_init 6 = .ok (.newarray .int, 2) := by decide +kernel
theorem dX0_init_8 : decode cX0_init 8 = .ok (.putfield 9, 3) := by decide +kernel
theorem dX0_init_11 : decode cX0_init 11 = .ok (.aload_n 0, 1) := by decide +kernel
theorem dX0_init_12 : decode cX0_init 12 = .ok (.iconst 2, 1) := by decide +kernel
theorem dX0_init_13 : decode cX0_init 13 = .ok (.newarray .int, 2) := by decide +kernel
theorem dX0_init_15 : decode cX0_init 15 = .ok (.putfield 15, 3) := by decide +kernel
theorem dX0_init_18 : decode cX0_init 18 = .ok (.aload_n 0, 1) := by decide +kernel
theorem dX0_init_19 : decode cX0_init 19 = .ok (.iconst 2, 1) := by decide +kernel
theorem dX0_init_20 : decode cX0_init 20 = .ok (.newarray .int, 2) := by decide +kernel
theorem dX0_init_22 : decode cX0_init 22 = .ok (.putfield 18, 3) := by decide +kernel
theorem dX0_init_25 : decode cX0_init 25 = .ok (.aload_n 0, 1) := by decide +kernel
theorem dX0_init_26 : decode cX0_init 26 = .ok (.bipush 12, 2) := by decide +kernel
theorem dX0_init_28 : decode cX0_init 28 = .ok (.newarray .int, 2) := by decide +kernel
theorem dX0_init_30 : decode cX0_init 30 = .ok (.putfield 21, 3) := by decide +kernel
theorem dX0_init_33 : decode cX0_init 33 = .ok (.return_, 1) := by decide +kernel
theorem dX0_begin_0 : decode cX0_begin 0 = .ok (.aload_n 0, 1) := by decide +kernel
theorem dX0_begin_1 : decode cX0_begin 1 = .ok (.getfield 9, 3) := by decide +kernel
theorem dX0_begin_4 : decode cX0_begin 4 = .ok (.iconst 0, 1) := by decide +kernel
theorem dX0_begin_5 : decode cX0_begin 5 = .ok (.iload_n 1, 1) := by decide +kernel
theorem dX0_begin_6 : decode cX0_begin 6 = .ok (.iastore, 1) := by decide +kernel
theorem dX0_begin_7 : decode cX0_begin 7 = .ok (.aload_n 0, 1) := by decide +kernel
theorem dX0_begin_8 : decode cX0_begin 8 = .ok (.getfield 9, 3) := by decide +kernel
theorem dX0_begin_11 : decode cX0_begin 11 = .ok (.iconst 1, 1) := by decide +kernel
theorem dX0_begin_12 : decode cX0_begin 12 = .ok (.iload_n 2, 1) := by decide +kernel
theorem dX0_begin_13 : decode cX0_begin 13 = .ok (.iastore, 1) := by decide +kernel
theorem dX0_begin_14 : decode cX0_begin 14 = .ok (.aload_n 0, 1) := by decide +kernel
theorem dX0_begin_15 : decode cX0_begin 15 = .ok (.iload_n 3, 1) := by decide +kernel
theorem dX0_begin_16 : decode cX0_begin 16 = .ok (.putfield 24, 3) := by decide +kernel
theorem dX0_begin_19 : decode cX0_begin 19 = .ok (.aload_n 0, 1) := by decide +kernel
theorem dX0_begin_20 : decode cX0_begin 20 = .ok (.iload 4, 2) := by decide +kernel
theorem dX0_begin_22 : decode cX0_begin 22 = .ok (.putfield 28, 3) := by decide +kernel
theorem dX0_begin_25 : decode cX0_begin 25 = .ok (.aload_n 0, 1) := by decide +kernel
theorem dX0_begin_26 : decode cX0_begin 26 = .ok (.iload 5, 2) := by decide +kernel
theorem dX0_begin_28 : decode cX0_begin 28 = .ok (.putfield 31, 3) := by decide +kernel
theorem dX0_begin_31 : decode cX0_begin 31 = .ok (.return_, 1) := by decide +kernel
theorem dX0_copyFrom_0 : decode cX0_copyFrom 0 = .ok (.aload_n 0, 1) := by decide +kernel
theorem dX0_copyFrom_1 : decode cX0_copyFrom 1 = .ok (.aload_n 1, 1) := by decide +kernel
theorem dX0_copyFrom_2 : decode cX0_copyFrom 2 = .ok (.getfield 24, 3) := by decide +kernel
theorem dX0_copyFrom_5 : decode cX0_copyFrom 5 = .ok (.putfield 24, 3) := by decide +kernel
theorem dX0_copyFrom_8 : decode cX0_copyFrom 8 = .ok (.aload_n 0, 1) := by decide +kernel
theorem dX0_copyFrom_9 : decode cX0_copyFrom 9 = .ok (.aload_n 1, 1) := by decide +kernel
theorem dX0_copyFrom_10 : decode cX0_copyFrom 10 = .ok (.getfield 28, 3) := by decide +kernel
theorem dX0_copyFrom_13 : decode cX0_copyFrom 13 = .ok (.putfield 28, 3) := by decide +kernel
theorem dX0_copyFrom_16 : decode cX0_copyFrom 16 = .ok (.aload_n 0, 1) := by decide +kernel
theorem dX0_copyFrom_17 : decode cX0_copyFrom 17 = .ok (.aload_n 1, 1) := by decide +kernel
theorem dX0_copyFrom_18 : decode cX0_copyFrom 18 = .ok (.getfield 31, 3) := by decide +kernel
theorem dX0_copyFrom_21 : decode cX0_copyFrom 21 = .ok (.putfield 31, 3) := by decide +kernel
theorem dX0_copyFrom_24 : decode cX0_copyFrom 24 = .ok (.aload_n 0, 1) := by decide +kernel
theorem dX0_copyFrom_25 : decode cX0_copyFrom 25 = .ok (.aload_n 1, 1) := by decide +kernel
theorem dX0_copyFrom_26 : decode cX0_copyFrom 26 = .ok (.getfield 34, 3) := by decide +kernel
theorem dX0_copyFrom_29 : decode cX0_copyFrom 29 = .ok (.putfield 34, 3) := by decide +kernel
theorem dX0_copyFrom_32 : decode cX0_copyFrom 32 = .ok (.aload_n 0, 1) := by decide +kernel
theorem dX0_copyFrom_33 : decode cX0_copyFrom 33 = .ok (.aload_n 1, 1) := by decide +kernel
theorem dX0_copyFrom_34 : decode cX0_copyFrom 34 = .ok (.getfield 37, 3) := by decide +kernel
theorem dX0_copyFrom_37 : decode cX0_copyFrom 37 = .ok (.putfield 37, 3) := by decide +kernel
theorem dX0_copyFrom_40 : decode cX0_copyFrom 40 = .ok (.aload_n 0, 1) := by decide +kernel
theorem dX0_copyFrom_41 : decode cX0_copyFrom 41 = .ok (.aload_n 1, 1) := by decide +kernel
theorem dX0_copyFrom_42 : decode cX0_copyFrom 42 = .ok (.getfield 40, 3) := by decide +kernel
theorem dX0_copyFrom_45 : decode cX0_copyFrom 45 = .ok (.putfield 40, 3) := by decide +kernel
theorem dX0_copyFrom_48 : decode cX0_copyFrom 48 = .ok (.aload_n 1, 1) := by decide +kernel
theorem dX0_copyFrom_49 : decode cX0_copyFrom 49 = .ok (.getfield 9, 3) := by decide +kernel
theorem dX0_copyFrom_52 : decode cX0_copyFrom 52 = .ok (.iconst 0, 1) := by decide +kernel
theorem dX0_copyFrom_53 : decode cX0_copyFrom 53 = .ok (.aload_n 0, 1) := by decide +kernel
theorem dX0_copyFrom_54 : decode cX0_copyFrom 54 = .ok (.getfield 9, 3) := by decide +kernel
theorem dX0_copyFrom_57 : decode cX0_copyFrom 57 = .ok (.iconst 0, 1) := by decide +kernel
theorem dX0_copyFrom_58 : decode cX0_copyFrom 58 = .ok (.iconst 2, 1) := by decide +kernel
theorem dX0_copyFrom_59 : decode cX0_copyFrom 59 = .ok (.invokestatic 44, 3) := by decide +kernel
theorem dX0_copyFrom_62 : decode cX0_copyFrom 62 = .ok (.aload_n 1, 1) := by decide +kernel
theorem dX0_copyFrom_63 : decode cX0_copyFrom 63 = .ok (.getfield 15, 3) := by decide +kernel
theorem dX0_copyFrom_66 : decode cX0_copyFrom 66 = .ok (.iconst 0, 1) := by decide +kernel
theorem dX0_copyFrom_67 : decode cX0_copyFrom 67 = .ok (.aload_n 0, 1) := by decide +kernel
theorem dX0_copyFrom_68 : decode cX0_copyFrom 68 = .ok (.getfield 15, 3) := by decide +kernel
theorem dX0_copyFrom_71 : decode cX0_copyFrom 71 = .ok (.iconst 0, 1) := by decide +kernel
theorem dX0_copyFrom_72 : decode cX0_copyFrom 72 = .ok (.iconst 2, 1) := by decide +kernel
theorem dX0_copyFrom_73 : decode cX0_copyFrom 73 = .ok (.invokestatic 44, 3) := by decide +kernel
theorem dX0_copyFrom_76 : decode cX0_copyFrom 76 = .ok (.aload_n 1, 1) := by decide +kernel
theorem dX0_copyFrom_77 : decode cX0_copyFrom 77 = .ok (.getfield 21, 3) := by decide +kernel
theorem dX0_copyFrom_80 : decode cX0_copyFrom 80 = .ok (.iconst 0, 1) := by decide +kernel
theorem dX0_copyFrom_81 : decode cX0_copyFrom 81 = .ok (.aload_n 0, 1) := by decide +kernel
theorem dX0_copyFrom_82 : decode cX0_copyFrom 82 = .ok (.getfield 21, 3) := by decide +kernel
theorem dX0_copyFrom_85 : decode cX0_copyFrom 85 = .ok (.iconst 0, 1) := by decide +kernel
theorem dX0_copyFrom_86 : decode cX0_copyFrom 86 = .ok (.bipush 12, 2) := by decide +kernel
theorem dX0_copyFrom_88 : decode cX0_copyFrom 88 = .ok (.invokestatic 44, 3) := by decide +kernel
theorem dX0_copyFrom_91 : decode cX0_copyFrom 91 = .ok (.return_, 1) := by decide +kernel
theorem dX0_isAt_0 : decode cX0_isAt 0 = .ok (.aload_n 0, 1) := by decide +kernel
theorem dX0_isAt_1 : decode cX0_isAt 1 = .ok (.getfield 24, 3) := by decide +kernel
theorem dX0_isAt_4 : decode cX0_isAt 4 = .ok (.ifCond .le 27, 3) := by decide +kernel
theorem dX0_isAt_7 : decode cX0_isAt 7 = .ok (.aload_n 0, 1) := by decide +kernel
theorem dX0_isAt_8 : decode cX0_isAt 8 = .ok (.getfield 9, 3) := by decide +kernel
theorem dX0_isAt_11 : decode cX0_isAt 11 = .ok (.iconst 0, 1) := by decide +kernel
theorem dX0_isAt_12 : decode cX0_isAt 12 = .ok (.iaload, 1) := by decide +kernel
theorem dX0_isAt_13 : decode cX0_isAt 13 = .ok (.iload_n 1, 1) := by decide +kernel
theorem dX0_isAt_14 : decode cX0_isAt 14 = .ok (.if_icmp .eq 13, 3) := by decide +kernel
theorem dX0_isAt_17 : decode cX0_isAt 17 = .ok (.aload_n 0, 1) := by decide +kernel
theorem dX0_isAt_18 : decode cX0_isAt 18 = .ok (.getfield 9, 3) := by decide +kernel
theorem dX0_isAt_21 : decode cX0_isAt 21 = .ok (.iconst 1, 1) := by decide +kernel
theorem dX0_isAt_22 : decode cX0_isAt 22 = .ok (.iaload, 1) := by decide +kernel
theorem dX0_isAt_23 : decode cX0_isAt 23 = .ok (.iload_n 1, 1) := by decide +kernel
theorem dX0_isAt_24 : decode cX0_isAt 24 = .ok (.if_icmp .ne 7, 3) := by decide +kernel
theorem dX0_isAt_27 : decode cX0_isAt 27 = .ok (.iconst 1, 1) := by decide +kernel
theorem dX0_isAt_28 : decode cX0_isAt 28 = .ok (.goto 4, 3) := by decide +kernel
theorem dX0_isAt_31 : decode cX0_isAt 31 = .ok (.iconst 0, 1) := by decide +kernel
theorem dX0_isAt_32 : decode cX0_isAt 32 = .ok (.ireturn, 1) := by decide +kernel
theorem dX0_aimAt_0 : decode cX0_aimAt 0 = .ok (.aload_n 0, 1) := by decide +kernel
theorem dX0_aimAt_1 : decode cX0_aimAt 1 = .ok (.getfield 40, 3) := by decide +kernel
theorem dX0_aimAt_4 : decode cX0_aimAt 4 = .ok (.ifCond .ne 8, 3) := by decide +kernel
theorem dX0_aimAt_7 : decode cX0_aimAt 7 = .ok (.aload_n 0, 1) := by decide +kernel
theorem dX0_aimAt_8 : decode cX0_aimAt 8 = .ok (.iload_n 1, 1) := by decide +kernel
theorem dX0_aimAt_9 : decode cX0_aimAt 9 = .ok (.putfield 37, 3) := by decide +kernel
theorem dX0_aimAt_12 : decode cX0_aimAt 12 = .ok (.return_, 1) := by decide +kernel
theorem dX0_move_0 : decode cX0_move 0 = .ok (.aload_n 0, 1) := by decide +kernel
theorem dX0_move_1 : decode cX0_move 1 = .ok (.getfield 34, 3) := by decide +kernel
theorem dX0_move_4 : decode cX0_move 4 = .ok (.aload_n 0, 1) := by decide +kernel
theorem dX0_move_5 : decode cX0_move 5 = .ok (.getfield 37, 3) := by decide +kernel
theorem dX0_move_8 : decode cX0_move 8 = .ok (.if_icmp .ge 26, 3) := by decide +kernel
theorem dX0_move_11 : decode cX0_move 11 = .ok (.aload_n 0, 1) := by decide +kernel
theorem dX0_move_12 : decode cX0_move 12 = .ok (.aload_n 0, 1) := by decide +kernel
theorem dX0_move_13 : decode cX0_move 13 = .ok (.getfield 37, 3) := by decide +kernel
theorem dX0_move_16 : decode cX0_move 16 = .ok (.aload_n 0, 1) := by decide +kernel
theorem dX0_move_17 : decode cX0_move 17 = .ok (.getfield 34, 3) := by decide +kernel
theorem dX0_move_20 : decode cX0_move 20 = .ok (.aload_n 0, 1) := by decide +kernel
theorem dX0_move_21 : decode cX0_move 21 = .ok (.getfield 28, 3) := by decide +kernel
theorem dX0_move_24 : decode cX0_move 24 = .ok (.iadd, 1) := by decide +kernel
theorem dX0_move_25 : decode cX0_move 25 = .ok (.invokestatic 50, 3) := by decide +kernel
theorem dX0_move_28 : decode cX0_move 28 = .ok (.putfield 34, 3) := by decide +kernel
theorem dX0_move_31 : decode cX0_move 31 = .ok (.goto 23, 3) := by decide +kernel
theorem dX0_move_34 : decode cX0_move 34 = .ok (.aload_n 0, 1) := by decide +kernel
theorem dX0_move_35 : decode cX0_move 35 = .ok (.aload_n 0, 1) := by decide +kernel
theorem dX0_move_36 : decode cX0_move 36 = .ok (.getfield 37, 3) := by decide +kernel
theorem dX0_move_39 : decode cX0_move 39 = .ok (.aload_n 0, 1) := by decide +kernel
theorem dX0_move_40 : decode cX0_move 40 = .ok (.getfield 34, 3) := by decide +kernel
theorem dX0_move_43 : decode cX0_move 43 = .ok (.aload_n 0, 1) := by decide +kernel
theorem dX0_move_44 : decode cX0_move 44 = .ok (.getfield 28, 3) := by decide +kernel
theorem dX0_move_47 : decode cX0_move 47 = .ok (.isub, 1) := by decide +kernel
theorem dX0_move_48 : decode cX0_move 48 = .ok (.invokestatic 56, 3) := by decide +kernel
theorem dX0_move_51 : decode cX0_move 51 = .ok (.putfield 34, 3) := by decide +kernel
theorem dX0_move_54 : decode cX0_move 54 = .ok (.return_, 1) := by decide +kernel
set_option maxRecDepth 20000 in
theorem ggX0_send_X0_placeOf : GoodIn wsX0_send wsX0_placeOf := goodIn_r _ [7, 8, 9, 10, 11] (by decide +kernel) (by decide +kernel)
set_option maxRecDepth 20000 in
theorem gX0_send_X0_placeOf : GoodIn wsX0_send (va_wsS RX0 59 yX0_placeOf wsX0_placeOf) := goodIn_app (goodIn_of _ (by decide +kernel)) ggX0_send_X0_placeOf
theorem dX0_send_0 : decode cX0_send 0 = .ok (.iload_n 2, 1) := by decide +kernel
theorem dX0_send_1 : decode cX0_send 1 = .ok (.ifCond .ne 7, 3) := by decide +kernel
theorem dX0_send_4 : decode cX0_send 4 = .ok (.iconst 0, 1) := by decide +kernel
theorem dX0_send_5 : decode cX0_send 5 = .ok (.goto 4, 3) := by decide +kernel
theorem dX0_send_8 : decode cX0_send 8 = .ok (.iconst 1, 1) := by decide +kernel
theorem dX0_send_9 : decode cX0_send 9 = .ok (.istore 4, 2) := by decide +kernel
theorem dX0_send_11 : decode cX0_send 11 = .ok (.aload_n 0, 1) := by decide +kernel
theorem dX0_send_12 : decode cX0_send 12 = .ok (.getfield 15, 3) := by decide +kernel
theorem dX0_send_15 : decode cX0_send 15 = .ok (.iload 4, 2) := by decide +kernel
theorem dX0_send_17 : decode cX0_send 17 = .ok (.dup2, 1) := by decide +kernel
theorem dX0_send_18 : decode cX0_send 18 = .ok (.iaload, 1) := by decide +kernel
theorem dX0_send_19 : decode cX0_send 19 = .ok (.iload_n 1, 1) := by decide +kernel
theorem dX0_send_20 : decode cX0_send 20 = .ok (.iadd, 1) := by decide +kernel
theorem dX0_send_21 : decode cX0_send 21 = .ok (.iastore, 1) := by decide +kernel
theorem dX0_send_22 : decode cX0_send 22 = .ok (.aload_n 0, 1) := by decide +kernel
theorem dX0_send_23 : decode cX0_send 23 = .ok (.getfield 21, 3) := by decide +kernel
theorem dX0_send_26 : decode cX0_send 26 = .ok (.iload_n 3, 1) := by decide +kernel
theorem dX0_send_27 : decode cX0_send 27 = .ok (.aload_n 0, 1) := by decide +kernel
theorem dX0_send_28 : decode cX0_send 28 = .ok (.getfield 31, 3) := by decide +kernel
theorem dX0_send_31 : decode cX0_send 31 = .ok (.iadd, 1) := by decide +kernel
theorem dX0_send_32 : decode cX0_send 32 = .ok (.iconst 1, 1) := by decide +kernel
theorem dX0_send_33 : decode cX0_send 33 = .ok (.iload 4, 2) := by decide +kernel
theorem dX0_send_35 : decode cX0_send 35 = .ok (.isub, 1) := by decide +kernel
theorem dX0_send_36 : decode cX0_send 36 = .ok (.invokestatic 59, 3) := by decide +kernel
theorem dX0_send_39 : decode cX0_send 39 = .ok (.dup2, 1) := by decide +kernel
theorem dX0_send_40 : decode cX0_send 40 = .ok (.iaload, 1) := by decide +kernel
theorem dX0_send_41 : decode cX0_send 41 = .ok (.iload_n 1, 1) := by decide +kernel
theorem dX0_send_42 : decode cX0_send 42 = .ok (.iadd, 1) := by decide +kernel
theorem dX0_send_43 : decode cX0_send 43 = .ok (.iastore, 1) := by decide +kernel
theorem dX0_send_44 : decode cX0_send 44 = .ok (.return_, 1) := by decide +kernel
set_option maxRecDepth 20000 in
theorem ggX0_takeArrived_X0_placeOf : GoodIn wsX0_takeArrived wsX0_placeOf := goodIn_r _ [5, 6, 7, 8, 9] (by decide +kernel) (by decide +kernel)
set_option maxRecDepth 20000 in
theorem gX0_takeArrived_X0_placeOf : GoodIn wsX0_takeArrived (va_wsS RX0 59 yX0_placeOf wsX0_placeOf) := goodIn_app (goodIn_of _ (by decide +kernel)) ggX0_takeArrived_X0_placeOf
theorem dX0_takeArrived_0 : decode cX0_takeArrived 0 = .ok (.iload_n 2, 1) := by decide +kernel
theorem dX0_takeArrived_1 : decode cX0_takeArrived 1 = .ok (.iload_n 1, 1) := by decide +kernel
theorem dX0_takeArrived_2 : decode cX0_takeArrived 2 = .ok (.invokestatic 59, 3) := by decide +kernel
theorem dX0_takeArrived_5 : decode cX0_takeArrived 5 = .ok (.istore_n 3, 1) := by decide +kernel
theorem dX0_takeArrived_6 : decode cX0_takeArrived 6 = .ok (.aload_n 0, 1) := by decide +kernel
theorem dX0_takeArrived_7 : decode cX0_takeArrived 7 = .ok (.getfield 21, 3) := by decide +kernel
theorem dX0_takeArrived_10 : decode cX0_takeArrived 10 = .ok (.iload_n 3, 1) := by decide +kernel
theorem dX0_takeArrived_11 : decode cX0_takeArrived 11 = .ok (.iaload, 1) := by decide +kernel
theorem dX0_takeArrived_12 : decode cX0_takeArrived 12 = .ok (.istore 4, 2) := by decide +kernel
theorem dX0_takeArrived_14 : decode cX0_takeArrived 14 = .ok (.aload_n 0, 1) := by decide +kernel
theorem dX0_takeArrived_15 : decode cX0_takeArrived 15 = .ok (.getfield 21, 3) := by decide +kernel
theorem dX0_takeArrived_18 : decode cX0_takeArrived 18 = .ok (.iload_n 3, 1) := by decide +kernel
theorem dX0_takeArrived_19 : decode cX0_takeArrived 19 = .ok (.iconst 0, 1) := by decide +kernel
theorem dX0_takeArrived_20 : decode cX0_takeArrived 20 = .ok (.iastore, 1) := by decide +kernel
theorem dX0_takeArrived_21 : decode cX0_takeArrived 21 = .ok (.iload 4, 2) := by decide +kernel
theorem dX0_takeArrived_23 : decode cX0_takeArrived 23 = .ok (.ireturn, 1) := by decide +kernel
theorem dX0_energyOnItsWay_0 : decode cX0_energyOnItsWay 0 = .ok (.iconst 0, 1) := by decide +kernel
theorem dX0_energyOnItsWay_1 : decode cX0_energyOnItsWay 1 = .ok (.istore_n 1, 1) := by decide +kernel
theorem dX0_energyOnItsWay_2 : decode cX0_energyOnItsWay 2 = .ok (.aload_n 0, 1) := by decide +kernel
theorem dX0_energyOnItsWay_3 : decode cX0_energyOnItsWay 3 = .ok (.getfield 21, 3) := by decide +kernel
theorem dX0_energyOnItsWay_6 : decode cX0_energyOnItsWay 6 = .ok (.astore_n 2, 1) := by decide +kernel
theorem dX0_energyOnItsWay_7 : decode cX0_energyOnItsWay 7 = .ok (.aload_n 2, 1) := by decide +kernel
theorem dX0_energyOnItsWay_8 : decode cX0_energyOnItsWay 8 = .ok (.arraylength, 1) := by decide +kernel
theorem dX0_energyOnItsWay_9 : decode cX0_energyOnItsWay 9 = .ok (.istore_n 3, 1) := by decide +kernel
theorem dX0_energyOnItsWay_10 : decode cX0_energyOnItsWay 10 = .ok (.iconst 0, 1) := by decide +kernel
theorem dX0_energyOnItsWay_11 : decode cX0_energyOnItsWay 11 = .ok (.istore 4, 2) := by decide +kernel
theorem dX0_energyOnItsWay_13 : decode cX0_energyOnItsWay 13 = .ok (.iload 4, 2) := by decide +kernel
theorem dX0_energyOnItsWay_15 : decode cX0_energyOnItsWay 15 = .ok (.iload_n 3, 1) := by decide +kernel
theorem dX0_energyOnItsWay_16 : decode cX0_energyOnItsWay 16 = .ok (.if_icmp .ge 20, 3) := by decide +kernel
theorem dX0_energyOnItsWay_19 : decode cX0_energyOnItsWay 19 = .ok (.aload_n 2, 1) := by decide +kernel
theorem dX0_energyOnItsWay_20 : decode cX0_energyOnItsWay 20 = .ok (.iload 4, 2) := by decide +kernel
theorem dX0_energyOnItsWay_22 : decode cX0_energyOnItsWay 22 = .ok (.iaload, 1) := by decide +kernel
theorem dX0_energyOnItsWay_23 : decode cX0_energyOnItsWay 23 = .ok (.istore 5, 2) := by decide +kernel
theorem dX0_energyOnItsWay_25 : decode cX0_energyOnItsWay 25 = .ok (.iload_n 1, 1) := by decide +kernel
theorem dX0_energyOnItsWay_26 : decode cX0_energyOnItsWay 26 = .ok (.iload 5, 2) := by decide +kernel
theorem dX0_energyOnItsWay_28 : decode cX0_energyOnItsWay 28 = .ok (.iadd, 1) := by decide +kernel
theorem dX0_energyOnItsWay_29 : decode cX0_energyOnItsWay 29 = .ok (.istore_n 1, 1) := by decide +kernel
theorem dX0_energyOnItsWay_30 : decode cX0_energyOnItsWay 30 = .ok (.iinc 4 1, 3) := by decide +kernel
theorem dX0_energyOnItsWay_33 : decode cX0_energyOnItsWay 33 = .ok (.goto (-20), 3) := by decide +kernel
theorem dX0_energyOnItsWay_36 : decode cX0_energyOnItsWay 36 = .ok (.iload_n 1, 1) := by decide +kernel
theorem dX0_energyOnItsWay_37 : decode cX0_energyOnItsWay 37 = .ok (.ireturn, 1) := by decide +kernel
set_option maxRecDepth 20000 in
theorem ggX0_placeOf_J9_floorMod_7cf53 : GoodIn wsX0_placeOf wsJ9_floorMod_7cf53 := goodIn_r _ [4] (by decide +kernel) (by decide +kernel)
set_option maxRecDepth 20000 in
theorem gX0_placeOf_J9_floorMod_7cf53 : GoodIn wsX0_placeOf (va_wsS RX0 62 yJ9_floorMod_7cf53 wsJ9_floorMod_7cf53) := goodIn_app (goodIn_of _ (by decide +kernel)) ggX0_placeOf_J9_floorMod_7cf53
theorem dX0_placeOf_0 : decode cX0_placeOf 0 = .ok (.iconst 2, 1) := by decide +kernel
theorem dX0_placeOf_1 : decode cX0_placeOf 1 = .ok (.iload_n 0, 1) := by decide +kernel
theorem dX0_placeOf_2 : decode cX0_placeOf 2 = .ok (.bipush 6, 2) := by decide +kernel
theorem dX0_placeOf_4 : decode cX0_placeOf 4 = .ok (.invokestatic 62, 3) := by decide +kernel
theorem dX0_placeOf_7 : decode cX0_placeOf 7 = .ok (.imul, 1) := by decide +kernel
theorem dX0_placeOf_8 : decode cX0_placeOf 8 = .ok (.iload_n 1, 1) := by decide +kernel
theorem dX0_placeOf_9 : decode cX0_placeOf 9 = .ok (.ifCond .ne 7, 3) := by decide +kernel
theorem dX0_placeOf_12 : decode cX0_placeOf 12 = .ok (.iconst 0, 1) := by decide +kernel
theorem dX0_placeOf_13 : decode cX0_placeOf 13 = .ok (.goto 4, 3) := by decide +kernel
theorem dX0_placeOf_16 : decode cX0_placeOf 16 = .ok (.iconst 1, 1) := by decide +kernel
theorem dX0_placeOf_17 : decode cX0_placeOf 17 = .ok (.iadd, 1) := by decide +kernel
theorem dX0_placeOf_18 : decode cX0_placeOf 18 = .ok (.ireturn, 1) := by decide +kernel
theorem dX1_init_0 : decode cX1_init 0 = .ok (.aload_n 0, 1) := by decide +kernel
theorem dX1_init_1 : decode cX1_init 1 = .ok (.invokespecial 1, 3) := by decide +kernel
theorem dX1_init_4 : decode cX1_init 4 = .ok (.return_, 1) := by decide +kernel
theorem dX1_becomeSound_0 : decode cX1_becomeSound 0 = .ok (.aload_n 0, 1) := by decide +kernel
theorem dX1_becomeSound_1 : decode cX1_becomeSound 1 = .ok (.iconst 1, 1) := by decide +kernel
theorem dX1_becomeSound_2 : decode cX1_becomeSound 2 = .ok (.putfield 7, 3) := by decide +kernel
theorem dX1_becomeSound_5 : decode cX1_becomeSound 5 = .ok (.aload_n 0, 1) := by decide +kernel
theorem dX1_becomeSound_6 : decode cX1_becomeSound 6 = .ok (.iload_n 1, 1) := by decide +kernel
theorem dX1_becomeSound_7 : decode cX1_becomeSound 7 = .ok (.putfield 13, 3) := by decide +kernel
theorem dX1_becomeSound_10 : decode cX1_becomeSound 10 = .ok (.aload_n 0, 1) := by decide +kernel
theorem dX1_becomeSound_11 : decode cX1_becomeSound 11 = .ok (.iload_n 2, 1) := by decide +kernel
theorem dX1_becomeSound_12 : decode cX1_becomeSound 12 = .ok (.putfield 17, 3) := by decide +kernel
theorem dX1_becomeSound_15 : decode cX1_becomeSound 15 = .ok (.aload_n 0, 1) := by decide +kernel
theorem dX1_becomeSound_16 : decode cX1_becomeSound 16 = .ok (.iload_n 3, 1) := by decide +kernel
theorem dX1_becomeSound_17 : decode cX1_becomeSound 17 = .ok (.putfield 20, 3) := by decide +kernel
theorem dX1_becomeSound_20 : decode cX1_becomeSound 20 = .ok (.aload_n 0, 1) := by decide +kernel
theorem dX1_becomeSound_21 : decode cX1_becomeSound 21 = .ok (.iload 4, 2) := by decide +kernel
theorem dX1_becomeSound_23 : decode cX1_becomeSound 23 = .ok (.putfield 23, 3) := by decide +kernel
theorem dX1_becomeSound_26 : decode cX1_becomeSound 26 = .ok (.return_, 1) := by decide +kernel
theorem dX1_becomeTarget_0 : decode cX1_becomeTarget 0 = .ok (.aload_n 0, 1) := by decide +kernel
theorem dX1_becomeTarget_1 : decode cX1_becomeTarget 1 = .ok (.iconst 0, 1) := by decide +kernel
theorem dX1_becomeTarget_2 : decode cX1_becomeTarget 2 = .ok (.putfield 7, 3) := by decide +kernel
theorem dX1_becomeTarget_5 : decode cX1_becomeTarget 5 = .ok (.aload_n 0, 1) := by decide +kernel
theorem dX1_becomeTarget_6 : decode cX1_becomeTarget 6 = .ok (.iload_n 1, 1) := by decide +kernel
theorem dX1_becomeTarget_7 : decode cX1_becomeTarget 7 = .ok (.putfield 13, 3) := by decide +kernel
theorem dX1_becomeTarget_10 : decode cX1_becomeTarget 10 = .ok (.aload_n 0, 1) := by decide +kernel
theorem dX1_becomeTarget_11 : decode cX1_becomeTarget 11 = .ok (.iload_n 2, 1) := by decide +kernel
theorem dX1_becomeTarget_12 : decode cX1_becomeTarget 12 = .ok (.putfield 17, 3) := by decide +kernel
theorem dX1_becomeTarget_15 : decode cX1_becomeTarget 15 = .ok (.aload_n 0, 1) := by decide +kernel
theorem dX1_becomeTarget_16 : decode cX1_becomeTarget 16 = .ok (.iconst 0, 1) := by decide +kernel
theorem dX1_becomeTarget_17 : decode cX1_becomeTarget 17 = .ok (.putfield 20, 3) := by decide +kernel
theorem dX1_becomeTarget_20 : decode cX1_becomeTarget 20 = .ok (.aload_n 0, 1) := by decide +kernel
theorem dX1_becomeTarget_21 : decode cX1_becomeTarget 21 = .ok (.iload_n 3, 1) := by decide +kernel
theorem dX1_becomeTarget_22 : decode cX1_becomeTarget 22 = .ok (.putfield 23, 3) := by decide +kernel
theorem dX1_becomeTarget_25 : decode cX1_becomeTarget 25 = .ok (.return_, 1) := by decide +kernel
theorem dX1_copyFrom_0 : decode cX1_copyFrom 0 = .ok (.aload_n 0, 1) := by decide +kernel
theorem dX1_copyFrom_1 : decode cX1_copyFrom 1 = .ok (.aload_n 1, 1) := by decide +kernel
theorem dX1_copyFrom_2 : decode cX1_copyFrom 2 = .ok (.getfield 7, 3) := by decide +kernel
theorem dX1_copyFrom_5 : decode cX1_copyFrom 5 = .ok (.putfield 7, 3) := by decide +kernel
theorem dX1_copyFrom_8 : decode cX1_copyFrom 8 = .ok (.aload_n 0, 1) := by decide +kernel
theorem dX1_copyFrom_9 : decode cX1_copyFrom 9 = .ok (.aload_n 1, 1) := by decide +kernel
theorem dX1_copyFrom_10 : decode cX1_copyFrom 10 = .ok (.getfield 17, 3) := by decide +kernel
theorem dX1_copyFrom_13 : decode cX1_copyFrom 13 = .ok (.putfield 17, 3) := by decide +kernel
theorem dX1_copyFrom_16 : decode cX1_copyFrom 16 = .ok (.aload_n 0, 1) := by decide +kernel
theorem dX1_copyFrom_17 : decode cX1_copyFrom 17 = .ok (.aload_n 1, 1) := by decide +kernel
theorem dX1_copyFrom_18 : decode cX1_copyFrom 18 = .ok (.getfield 13, 3) := by decide +kernel
theorem dX1_copyFrom_21 : decode cX1_copyFrom 21 = .ok (.putfield 13, 3) := by decide +kernel
theorem dX1_copyFrom_24 : decode cX1_copyFrom 24 = .ok (.aload_n 0, 1) := by decide +kernel
theorem dX1_copyFrom_25 : decode cX1_copyFrom 25 = .ok (.aload_n 1, 1) := by decide +kernel
theorem dX1_copyFrom_26 : decode cX1_copyFrom 26 = .ok (.getfield 20, 3) := by decide +kernel
theorem dX1_copyFrom_29 : decode cX1_copyFrom 29 = .ok (.putfield 20, 3) := by decide +kernel
theorem dX1_copyFrom_32 : decode cX1_copyFrom 32 = .ok (.aload_n 0, 1) := by decide +kernel
theorem dX1_copyFrom_33 : decode cX1_copyFrom 33 = .ok (.aload_n 1, 1) := by decide +kernel
theorem dX1_copyFrom_34 : decode cX1_copyFrom 34 = .ok (.getfield 23, 3) := by decide +kernel
theorem dX1_copyFrom_37 : decode cX1_copyFrom 37 = .ok (.putfield 23, 3) := by decide +kernel
theorem dX1_copyFrom_40 : decode cX1_copyFrom 40 = .ok (.return_, 1) := by decide +kernel
theorem dX1_isHeardIn_0 : decode cX1_isHeardIn 0 = .ok (.aload_n 0, 1) := by decide +kernel
theorem dX1_isHeardIn_1 : decode cX1_isHeardIn 1 = .ok (.getfield 7, 3) := by decide +kernel
theorem dX1_isHeardIn_4 : decode cX1_isHeardIn 4 = .ok (.ifCond .eq 28, 3) := by decide +kernel
theorem dX1_isHeardIn_7 : decode cX1_isHeardIn 7 = .ok (.aload_n 0, 1) := by decide +kernel
theorem dX1_isHeardIn_8 : decode cX1_isHeardIn 8 = .ok (.getfield 17, 3) := by decide +kernel
theorem dX1_isHeardIn_11 : decode cX1_isHeardIn 11 = .ok (.iload_n 1, 1) := by decide +kernel
theorem dX1_isHeardIn_12 : decode cX1_isHeardIn 12 = .ok (.if_icmp .gt 20, 3) := by decide +kernel
theorem dX1_isHeardIn_15 : decode cX1_isHeardIn 15 = .ok (.iload_n 1, 1) := by decide +kernel
theorem dX1_isHeardIn_16 : decode cX1_isHeardIn 16 = .ok (.aload_n 0, 1) := by decide +kernel
theorem dX1_isHeardIn_17 : decode cX1_isHeardIn 17 = .ok (.getfield 17, 3) := by decide +kernel
theorem dX1_isHeardIn_20 : decode cX1_isHeardIn 20 = .ok (.aload_n 0, 1) := by decide +kernel
theorem dX1_isHeardIn_21 : decode cX1_isHeardIn 21 = .ok (.getfield 20, 3) := by decide +kernel
theorem dX1_isHeardIn_24 : decode cX1_isHeardIn 24 = .ok (.iadd, 1) := by decide +kernel
theorem dX1_isHeardIn_25 : decode cX1_isHeardIn 25 = .ok (.if_icmp .ge 7, 3) := by decide +kernel
theorem dX1_isHeardIn_28 : decode cX1_isHeardIn 28 = .ok (.iconst 1, 1) := by decide +kernel
theorem dX1_isHeardIn_29 : decode cX1_isHeardIn 29 = .ok (.goto 4, 3) := by decide +kernel
theorem dX1_isHeardIn_32 : decode cX1_isHeardIn 32 = .ok (.iconst 0, 1) := by decide +kernel
theorem dX1_isHeardIn_33 : decode cX1_isHeardIn 33 = .ok (.ireturn, 1) := by decide +kernel
theorem dX1_isTargetFor_0 : decode cX1_isTargetFor 0 = .ok (.aload_n 0, 1) := by decide +kernel
theorem dX1_isTargetFor_1 : decode cX1_isTargetFor 1 = .ok (.getfield 7, 3) := by decide +kernel
theorem dX1_isTargetFor_4 : decode cX1_isTargetFor 4 = .ok (.ifCond .ne 15, 3) := by decide +kernel
theorem dX1_isTargetFor_7 : decode cX1_isTargetFor 7 = .ok (.aload_n 0, 1) := by decide +kernel
theorem dX1_isTargetFor_8 : decode cX1_isTargetFor 8 = .ok (.getfield 17, 3) := by decide +kernel
theorem dX1_isTargetFor_11 : decode cX1_isTargetFor 11 = .ok (.iload_n 1, 1) := by decide +kernel
theorem dX1_isTargetFor_12 : decode cX1_isTargetFor 12 = .ok (.if_icmp .ne 7, 3) := by decide +kernel
theorem dX1_isTargetFor_15 : decode cX1_isTargetFor 15 = .ok (.iconst 1, 1) := by decide +kernel
theorem dX1_isTargetFor_16 : decode cX1_isTargetFor 16 = .ok (.goto 4, 3) := by decide +kernel
theorem dX1_isTargetFor_19 : decode cX1_isTargetFor 19 = .ok (.iconst 0, 1) := by decide +kernel
theorem dX1_isTargetFor_20 : decode cX1_isTargetFor 20 = .ok (.ireturn, 1) := by decide +kernel
theorem dX1_endsWith_0 : decode cX1_endsWith 0 = .ok (.aload_n 0, 1) := by decide +kernel
theorem dX1_endsWith_1 : decode cX1_endsWith 1 = .ok (.getfield 7, 3) := by decide +kernel
theorem dX1_endsWith_4 : decode cX1_endsWith 4 = .ok (.ifCond .eq 26, 3) := by decide +kernel
theorem dX1_endsWith_7 : decode cX1_endsWith 7 = .ok (.aload_n 0, 1) := by decide +kernel
theorem dX1_endsWith_8 : decode cX1_endsWith 8 = .ok (.getfield 17, 3) := by decide +kernel
theorem dX1_endsWith_11 : decode cX1_endsWith 11 = .ok (.aload_n 0, 1) := by decide +kernel
theorem dX1_endsWith_12 : decode cX1_endsWith 12 = .ok (.getfield 20, 3) := by decide +kernel
theorem dX1_endsWith_15 : decode cX1_endsWith 15 = .ok (.iadd, 1) := by decide +kernel
theorem dX1_endsWith_16 : decode cX1_endsWith 16 = .ok (.iconst 1, 1) := by decide +kernel
theorem dX1_endsWith_17 : decode cX1_endsWith 17 = .ok (.isub, 1) := by decide +kernel
theorem dX1_endsWith_18 : decode cX1_endsWith 18 = .ok (.iload_n 1, 1) := by decide +kernel
theorem dX1_endsWith_19 : decode cX1_endsWith 19 = .ok (.if_icmp .gt 7, 3) := by decide +kernel
theorem dX1_endsWith_22 : decode cX1_endsWith 22 = .ok (.iconst 1, 1) := by decide +kernel
theorem dX1_endsWith_23 : decode cX1_endsWith 23 = .ok (.goto 20, 3) := by decide +kernel
theorem dX1_endsWith_26 : decode cX1_endsWith 26 = .ok (.iconst 0, 1) := by decide +kernel
theorem dX1_endsWith_27 : decode cX1_endsWith 27 = .ok (.goto 16, 3) := by decide +kernel
theorem dX1_endsWith_30 : decode cX1_endsWith 30 = .ok (.aload_n 0, 1) := by decide +kernel
theorem dX1_endsWith_31 : decode cX1_endsWith 31 = .ok (.getfield 17, 3) := by decide +kernel
theorem dX1_endsWith_34 : decode cX1_endsWith 34 = .ok (.iload_n 1, 1) := by decide +kernel
theorem dX1_endsWith_35 : decode cX1_endsWith 35 = .ok (.if_icmp .gt 7, 3) := by decide +kernel
theorem dX1_endsWith_38 : decode cX1_endsWith 38 = .ok (.iconst 1, 1) := by decide +kernel
theorem dX1_endsWith_39 : decode cX1_endsWith 39 = .ok (.goto 4, 3) := by decide +kernel
theorem dX1_endsWith_42 : decode cX1_endsWith 42 = .ok (.iconst 0, 1) := by decide +kernel
theorem dX1_endsWith_43 : decode cX1_endsWith 43 = .ok (.ireturn, 1) := by decide +kernel
theorem dX1_allEnergy_0 : decode cX1_allEnergy 0 = .ok (.aload_n 0, 1) := by decide +kernel
theorem dX1_allEnergy_1 : decode cX1_allEnergy 1 = .ok (.getfield 7, 3) := by decide +kernel
theorem dX1_allEnergy_4 : decode cX1_allEnergy 4 = .ok (.ifCond .eq 15, 3) := by decide +kernel
theorem dX1_allEnergy_7 : decode cX1_allEnergy 7 = .ok (.aload_n 0, 1) := by decide +kernel
theorem dX1_allEnergy_8 : decode cX1_allEnergy 8 = .ok (.getfield 20, 3) := by decide +kernel
theorem dX1_allEnergy_11 : decode cX1_allEnergy 11 = .ok (.aload_n 0, 1) := by decide +kernel
theorem dX1_allEnergy_12 : decode cX1_allEnergy 12 = .ok (.getfield 23, 3) := by decide +kernel
theorem dX1_allEnergy_15 : decode cX1_allEnergy 15 = .ok (.imul, 1) := by decide +kernel
theorem dX1_allEnergy_16 : decode cX1_allEnergy 16 = .ok (.goto 4, 3) := by decide +kernel
theorem dX1_allEnergy_19 : decode cX1_allEnergy 19 = .ok (.iconst 0, 1) := by decide +kernel
theorem dX1_allEnergy_20 : decode cX1_allEnergy 20 = .ok (.ireturn, 1) := by decide +kernel
set_option maxRecDepth 20000 in
theorem ggX2_init_X3_init : GoodIn wsX2_init wsX3_init := goodIn_r _ [10, 11, 2, 3, 12, 13, 14, 15, 16, 17, 18, 19, 20, 21, 22, 23, 24, 25, 26, 27, 28, 29, 30, 31, 32, 33, 34, 35, 36, 37, 38, 39, 40, 41, 42, 43, 44, 45, 46, 47, 48, 51, 52, 53, 54, 55, 56, 57, 58, 59, 60, 61, 62, 63, 64, 65, 66, 67, 68, 69, 70, 71, 72, 73, 74, 75, 76, 77, 78, 79, 80, 81, 82, 83, 84] (by decide +kernel) (by decide +kernel)
set_option maxRecDepth 20000 in
theorem gX2_init_X3_init : GoodIn wsX2_init (wsX3_init) := ggX2_init_X3_init
theorem dX2_init_0 : decode cX2_init 0 = .ok (.aload_n 0, 1) := by decide +kernel
theorem dX2_init_1 : decode cX2_init 1 = .ok (.invokespecial 3, 3) := by decide +kernel
theorem dX2_init_4 : decode cX2_init 4 = .ok (.aload_n 0, 1) := by decide +kernel
theorem dX2_init_5 : decode cX2_init 5 = .ok (.iconst 4, 1) := by decide +kernel
theorem dX2_init_6 : decode cX2_init 6 = .ok (.anewarray 9, 3) := by decide +kernel
theorem dX2_init_9 : decode cX2_init 9 = .ok (.putfield 11, 3) := by decide +kernel
theorem dX2_init_12 : decode cX2_init 12 = .ok (.iconst 0, 1) := by decide +kernel
theorem dX2_init_13 : decode cX2_init 13 = .ok (.istore_n 1, 1) := by decide +kernel
theorem dX2_init_14 : decode cX2_init 14 = .ok (.iload_n 1, 1) := by decide +kernel
theorem dX2_init_15 : decode cX2_init 15 = .ok (.aload_n 0, 1) := by decide +kernel
theorem dX2_init_16 : decode cX2_init 16 = .ok (.getfield 11, 3) := by decide +kernel
theorem dX2_init_19 : decode cX2_init 19 = .ok (.arraylength, 1) := by decide +kernel
theorem dX2_init_20 : decode cX2_init 20 = .ok (.if_icmp .ge 22, 3) := by decide +kernel
theorem dX2_init_23 : decode cX2_init 23 = .ok (.aload_n 0, 1) := by decide +kernel
theorem dX2_init_24 : decode cX2_init 24 = .ok (.getfield 11, 3) := by decide +kernel
theorem dX2_init_27 : decode cX2_init 27 = .ok (.iload_n 1, 1) := by decide +kernel
theorem dX2_init_28 : decode cX2_init 28 = .ok (.new 9, 3) := by decide +kernel
theorem dX2_init_31 : decode cX2_init 31 = .ok (.dup, 1) := by decide +kernel
theorem dX2_init_32 : decode cX2_init 32 = .ok (.invokespecial 17, 3) := by decide +kernel
theorem dX2_init_35 : decode cX2_init 35 = .ok (.aastore, 1) := by decide +kernel
theorem dX2_init_36 : decode cX2_init 36 = .ok (.iinc 1 1, 3) := by decide +kernel
theorem dX2_init_39 : decode cX2_init 39 = .ok (.goto (-25), 3) := by decide +kernel
theorem dX2_init_42 : decode cX2_init 42 = .ok (.return_, 1) := by decide +kernel
set_option maxRecDepth 20000 in
theorem ggX2_record_X2_forgetOldest : GoodIn wsX2_record wsX2_forgetOldest := goodIn_r _ [7, 2, 1, 72, 73] (by decide +kernel) (by decide +kernel)
set_option maxRecDepth 20000 in
theorem gX2_record_X2_forgetOldest : GoodIn wsX2_record (wsV RX2 22 RX2 yX2_forgetOldest wsX2_forgetOldest) := goodIn_app (goodIn_of _ (by decide +kernel)) ggX2_record_X2_forgetOldest
set_option maxRecDepth 20000 in
theorem ggX2_record_X3_copyFrom : GoodIn wsX2_record wsX3_copyFrom := goodIn_r _ [12, 13, 14, 15, 16, 17, 18, 19, 20, 21, 22, 23, 24, 25, 26, 27, 28, 29, 30, 31, 32, 33, 34, 35, 36, 37, 38, 39, 40, 41, 42, 43, 44, 45, 46, 47, 48, 49, 50, 51, 52, 53, 54, 55, 56, 57, 58, 59, 60, 61, 62, 63, 64, 65, 66, 67, 68, 69, 70, 71, 74, 75, 76, 77, 78, 79, 80, 81, 82, 83, 84, 85, 86, 87, 88, 89, 90, 91, 92, 93, 94, 95, 96, 97, 98, 99, 100, 101, 102, 103, 104, 105, 106, 107] (by decide +kernel) (by decide +kernel)
set_option maxRecDepth 20000 in
theorem gX2_record_X3_copyFrom : GoodIn wsX2_record (wsV RX2 25 RX3 yX3_copyFrom wsX3_copyFrom) := goodIn_app (goodIn_of _ (by decide +kernel)) ggX2_record_X3_copyFrom
theorem dX2_record_0 : decode cX2_record 0 = .ok (.aload_n 0, 1) := by decide +kernel
theorem dX2_record_1 : decode cX2_record 1 = .ok (.getfield 18, 3) := by decide +kernel
theorem dX2_record_4 : decode cX2_record 4 = .ok (.aload_n 0, 1) := by decide +kernel
theorem dX2_record_5 : decode cX2_record 5 = .ok (.getfield 11, 3) := by decide +kernel
theorem dX2_record_8 : decode cX2_record 8 = .ok (.arraylength, 1) := by decide +kernel
theorem dX2_record_9 : decode cX2_record 9 = .ok (.if_icmp .lt 7, 3) := by decide +kernel
theorem dX2_record_12 : decode cX2_record 12 = .ok (.aload_n 0, 1) := by decide +kernel
theorem dX2_record_13 : decode cX2_record 13 = .ok (.invokevirtual 22, 3) := by decide +kernel
theorem dX2_record_16 : decode cX2_record 16 = .ok (.aload_n 0, 1) := by decide +kernel
theorem dX2_record_17 : decode cX2_record 17 = .ok (.getfield 18, 3) := by decide +kernel
theorem dX2_record_20 : decode cX2_record 20 = .ok (.ifCond .lt 38, 3) := by decide +kernel
theorem dX2_record_23 : decode cX2_record 23 = .ok (.aload_n 0, 1) := by decide +kernel
theorem dX2_record_24 : decode cX2_record 24 = .ok (.getfield 18, 3) := by decide +kernel
theorem dX2_record_27 : decode cX2_record 27 = .ok (.aload_n 0, 1) := by decide +kernel
theorem dX2_record_28 : decode cX2_record 28 = .ok (.getfield 11, 3) := by decide +kernel
theorem dX2_record_31 : decode cX2_record 31 = .ok (.arraylength, 1) := by decide +kernel
theorem dX2_record_32 : decode cX2_record 32 = .ok (.if_icmp .ge 26, 3) := by decide +kernel
theorem dX2_record_35 : decode cX2_record 35 = .ok (.aload_n 0, 1) := by decide +kernel
theorem dX2_record_36 : decode cX2_record 36 = .ok (.getfield 11, 3) := by decide +kernel
theorem dX2_record_39 : decode cX2_record 39 = .ok (.aload_n 0, 1) := by decide +kernel
theorem dX2_record_40 : decode cX2_record 40 = .ok (.getfield 18, 3) := by decide +kernel
theorem dX2_record_43 : decode cX2_record 43 = .ok (.aaload, 1) := by decide +kernel
theorem dX2_record_44 : decode cX2_record 44 = .ok (.aload_n 1, 1) := by decide +kernel
theorem dX2_record_45 : decode cX2_record 45 = .ok (.invokevirtual 25, 3) := by decide +kernel
theorem dX2_record_48 : decode cX2_record 48 = .ok (.aload_n 0, 1) := by decide +kernel
theorem dX2_record_49 : decode cX2_record 49 = .ok (.dup, 1) := by decide +kernel
theorem dX2_record_50 : decode cX2_record 50 = .ok (.getfield 18, 3) := by decide +kernel
theorem dX2_record_53 : decode cX2_record 53 = .ok (.iconst 1, 1) := by decide +kernel
theorem dX2_record_54 : decode cX2_record 54 = .ok (.iadd, 1) := by decide +kernel
theorem dX2_record_55 : decode cX2_record 55 = .ok (.putfield 18, 3) := by decide +kernel
theorem dX2_record_58 : decode cX2_record 58 = .ok (.return_, 1) := by decide +kernel
theorem dX2_forgetOldest_0 : decode cX2_forgetOldest 0 = .ok (.aload_n 0, 1) := by decide +kernel
theorem dX2_forgetOldest_1 : decode cX2_forgetOldest 1 = .ok (.getfield 11, 3) := by decide +kernel
theorem dX2_forgetOldest_4 : decode cX2_forgetOldest 4 = .ok (.iconst 0, 1) := by decide +kernel
theorem dX2_forgetOldest_5 : decode cX2_forgetOldest 5 = .ok (.aaload, 1) := by decide +kernel
theorem dX2_forgetOldest_6 : decode cX2_forgetOldest 6 = .ok (.astore_n 1, 1) := by decide +kernel
theorem dX2_forgetOldest_7 : decode cX2_forgetOldest 7 = .ok (.iconst 0, 1) := by decide +kernel
theorem dX2_forgetOldest_8 : decode cX2_forgetOldest 8 = .ok (.istore_n 2, 1) := by decide +kernel
theorem dX2_forgetOldest_9 : decode cX2_forgetOldest 9 = .ok (.iload_n 2, 1) := by decide +kernel
theorem dX2_forgetOldest_10 : decode cX2_forgetOldest 10 = .ok (.iconst 1, 1) := by decide +kernel
theorem dX2_forgetOldest_11 : decode cX2_forgetOldest 11 = .ok (.iadd, 1) := by decide +kernel
theorem dX2_forgetOldest_12 : decode cX2_forgetOldest 12 = .ok (.aload_n 0, 1) := by decide +kernel
theorem dX2_forgetOldest_13 : decode cX2_forgetOldest 13 = .ok (.getfield 11, 3) := by decide +kernel
theorem dX2_forgetOldest_16 : decode cX2_forgetOldest 16 = .ok (.arraylength, 1) := by decide +kernel
theorem dX2_forgetOldest_17 : decode cX2_forgetOldest 17 = .ok (.if_icmp .ge 23, 3) := by decide +kernel
theorem dX2_forgetOldest_20 : decode cX2_forgetOldest 20 = .ok (.aload_n 0, 1) := by decide +kernel
theorem dX2_forgetOldest_21 : decode cX2_forgetOldest 21 = .ok (.getfield 11, 3) := by decide +kernel
theorem dX2_forgetOldest_24 : decode cX2_forgetOldest 24 = .ok (.iload_n 2, 1) := by decide +kernel
theorem dX2_forgetOldest_25 : decode cX2_forgetOldest 25 = .ok (.aload_n 0, 1) := by decide +kernel
theorem dX2_forgetOldest_26 : decode cX2_forgetOldest 26 = .ok (.getfield 11, 3) := by decide +kernel
theorem dX2_forgetOldest_29 : decode cX2_forgetOldest 29 = .ok (.iload_n 2, 1) := by decide +kernel
theorem dX2_forgetOldest_30 : decode cX2_forgetOldest 30 = .ok (.iconst 1, 1) := by decide +kernel
theorem dX2_forgetOldest_31 : decode cX2_forgetOldest 31 = .ok (.iadd, 1) := by decide +kernel
theorem dX2_forgetOldest_32 : decode cX2_forgetOldest 32 = .ok (.aaload, 1) := by decide +kernel
theorem dX2_forgetOldest_33 : decode cX2_forgetOldest 33 = .ok (.aastore, 1) := by decide +kernel
theorem dX2_forgetOldest_34 : decode cX2_forgetOldest 34 = .ok (.iinc 2 1, 3) := by decide +kernel
theorem dX2_forgetOldest_37 : decode cX2_forgetOldest 37 = .ok (.goto (-28), 3) := by decide +kernel
theorem dX2_forgetOldest_40 : decode cX2_forgetOldest 40 = .ok (.aload_n 0, 1) := by decide +kernel
theorem dX2_forgetOldest_41 : decode cX2_forgetOldest 41 = .ok (.getfield 11, 3) := by decide +kernel
theorem dX2_forgetOldest_44 : decode cX2_forgetOldest 44 = .ok (.aload_n 0, 1) := by decide +kernel
theorem dX2_forgetOldest_45 : decode cX2_forgetOldest 45 = .ok (.getfield 11, 3) := by decide +kernel
theorem dX2_forgetOldest_48 : decode cX2_forgetOldest 48 = .ok (.arraylength, 1) := by decide +kernel
theorem dX2_forgetOldest_49 : decode cX2_forgetOldest 49 = .ok (.iconst 1, 1) := by decide +kernel
theorem dX2_forgetOldest_50 : decode cX2_forgetOldest 50 = .ok (.isub, 1) := by decide +kernel
theorem dX2_forgetOldest_51 : decode cX2_forgetOldest 51 = .ok (.aload_n 1, 1) := by decide +kernel
theorem dX2_forgetOldest_52 : decode cX2_forgetOldest 52 = .ok (.aastore, 1) := by decide +kernel
theorem dX2_forgetOldest_53 : decode cX2_forgetOldest 53 = .ok (.aload_n 0, 1) := by decide +kernel
theorem dX2_forgetOldest_54 : decode cX2_forgetOldest 54 = .ok (.aload_n 0, 1) := by decide +kernel
theorem dX2_forgetOldest_55 : decode cX2_forgetOldest 55 = .ok (.getfield 11, 3) := by decide +kernel
theorem dX2_forgetOldest_58 : decode cX2_forgetOldest 58 = .ok (.arraylength, 1) := by decide +kernel
theorem dX2_forgetOldest_59 : decode cX2_forgetOldest 59 = .ok (.iconst 1, 1) := by decide +kernel
theorem dX2_forgetOldest_60 : decode cX2_forgetOldest 60 = .ok (.isub, 1) := by decide +kernel
theorem dX2_forgetOldest_61 : decode cX2_forgetOldest 61 = .ok (.putfield 18, 3) := by decide +kernel
theorem dX2_forgetOldest_64 : decode cX2_forgetOldest 64 = .ok (.return_, 1) := by decide +kernel
set_option maxRecDepth 20000 in
theorem ggX3_init_X4_init : GoodIn wsX3_init wsX4_init := goodIn_r _ [21, 22, 2, 3, 23, 24, 25, 26, 27, 28, 29, 51, 52, 70, 71, 72, 73, 74] (by decide +kernel) (by decide +kernel)
set_option maxRecDepth 20000 in
theorem gX3_init_X4_init : GoodIn wsX3_init (wsX4_init) := ggX3_init_X4_init
set_option maxRecDepth 20000 in
theorem ggX3_init_X5_init : GoodIn wsX3_init wsX5_init := goodIn_r _ [31, 32, 2, 3, 12, 33, 53, 54, 55, 56, 57, 58, 59] (by decide +kernel) (by decide +kernel)
set_option maxRecDepth 20000 in
theorem gX3_init_X5_init_n35 : GoodIn wsX3_init (wsX5_init) := ggX3_init_X5_init
set_option maxRecDepth 20000 in
theorem ggX3_init_X0_init : GoodIn wsX3_init wsX0_init := goodIn_r _ [35, 36, 2, 3, 12, 37, 38, 39, 40, 60, 61, 62, 63, 64, 65, 66, 67, 68, 69] (by decide +kernel) (by decide +kernel)
set_option maxRecDepth 20000 in
theorem gX3_init_X0_init_n36 : GoodIn wsX3_init (wsX0_init) := ggX3_init_X0_init
theorem dX3_init_0 : decode cX3_init 0 = .ok (.aload_n 0, 1) := by decide +kernel
theorem dX3_init_1 : decode cX3_init 1 = .ok (.invokespecial 3, 3) := by decide +kernel
theorem dX3_init_4 : decode cX3_init 4 = .ok (.aload_n 0, 1) := by decide +kernel
theorem dX3_init_5 : decode cX3_init 5 = .ok (.bipush 8, 2) := by decide +kernel
theorem dX3_init_7 : decode cX3_init 7 = .ok (.anewarray 9, 3) := by decide +kernel
theorem dX3_init_10 : decode cX3_init 10 = .ok (.putfield 11, 3) := by decide +kernel
theorem dX3_init_13 : decode cX3_init 13 = .ok (.aload_n 0, 1) := by decide +kernel
theorem dX3_init_14 : decode cX3_init 14 = .ok (.bipush 12, 2) := by decide +kernel
theorem dX3_init_16 : decode cX3_init 16 = .ok (.anewarray 17, 3) := by decide +kernel
theorem dX3_init_19 : decode cX3_init 19 = .ok (.putfield 19, 3) := by decide +kernel
theorem dX3_init_22 : decode cX3_init 22 = .ok (.aload_n 0, 1) := by decide +kernel
theorem dX3_init_23 : decode cX3_init 23 = .ok (.new 23, 3) := by decide +kernel
theorem dX3_init_26 : decode cX3_init 26 = .ok (.dup, 1) := by decide +kernel
theorem dX3_init_27 : decode cX3_init 27 = .ok (.invokespecial 25, 3) := by decide +kernel
theorem dX3_init_30 : decode cX3_init 30 = .ok (.putfield 26, 3) := by decide +kernel
theorem dX3_init_33 : decode cX3_init 33 = .ok (.aload_n 0, 1) := by decide +kernel
theorem dX3_init_34 : decode cX3_init 34 = .ok (.iconst 2, 1) := by decide +kernel
theorem dX3_init_35 : decode cX3_init 35 = .ok (.newarray .int, 2) := by decide +kernel
