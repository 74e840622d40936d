/-! the methods as the symbolic machine sees them; what a call of each asks -/
abbrev muJ9_floorMod_7cf53 : zM := (RJ9, cJ9_floorMod_7cf53, 3, wsJ9_floorMod_7cf53, (some .int), false)
theorem hy_J9_floorMod_7cf53 : yJ9_floorMod_7cf53.cls ≠ "java/lang/invoke/MethodHandle" ∧ yJ9_floorMod_7cf53.cls ≠ "java/lang/invoke/VarHandle" ∧ (parseMethodDescriptor yJ9_floorMod_7cf53.desc).map (fun d => d.parameters.length) = some 2 := by decide +kernel
abbrev muX0_aimAt : zM := (RX0, cX0_aimAt, 2, wsX0_aimAt, none, false)
theorem hy_X0_aimAt : yX0_aimAt.cls = RX0 ∧ yX0_aimAt.cls ≠ "java/lang/invoke/MethodHandle" ∧ yX0_aimAt.cls ≠ "java/lang/invoke/VarHandle" ∧ (parseMethodDescriptor yX0_aimAt.desc).map (fun d => d.parameters.length) = some 1 := by decide +kernel
abbrev muX0_begin : zM := (RX0, cX0_begin, 6, wsX0_begin, none, false)
theorem hy_X0_begin : yX0_begin.cls = RX0 ∧ yX0_begin.cls ≠ "java/lang/invoke/MethodHandle" ∧ yX0_begin.cls ≠ "java/lang/invoke/VarHandle" ∧ (parseMethodDescriptor yX0_begin.desc).map (fun d => d.parameters.length) = some 5 := by decide +kernel
abbrev muX0_copyFrom : zM := (RX0, cX0_copyFrom, 2, wsX0_copyFrom, none, false)
theorem hy_X0_copyFrom : yX0_copyFrom.cls = RX0 ∧ yX0_copyFrom.cls ≠ "java/lang/invoke/MethodHandle" ∧ yX0_copyFrom.cls ≠ "java/lang/invoke/VarHandle" ∧ (parseMethodDescriptor yX0_copyFrom.desc).map (fun d => d.parameters.length) = some 1 := by decide +kernel
abbrev muX0_energyOnItsWay : zM := (RX0, cX0_energyOnItsWay, 6, wsX0_energyOnItsWay, (some .int), false)
theorem hy_X0_energyOnItsWay : yX0_energyOnItsWay.cls = RX0 ∧ yX0_energyOnItsWay.cls ≠ "java/lang/invoke/MethodHandle" ∧ yX0_energyOnItsWay.cls ≠ "java/lang/invoke/VarHandle" ∧ (parseMethodDescriptor yX0_energyOnItsWay.desc).map (fun d => d.parameters.length) = some 0 := by decide +kernel
abbrev muX0_init : zM := (RX0, cX0_init, 1, wsX0_init, none, true)
theorem hy_X0_init : yX0_init.name = "<init>" ∧ yX0_init.cls ≠ "java/lang/invoke/MethodHandle" ∧ yX0_init.cls ≠ "java/lang/invoke/VarHandle" ∧ (parseMethodDescriptor yX0_init.desc).map (fun d => d.parameters.length) = some 0 := by decide +kernel
abbrev muX0_isAt : zM := (RX0, cX0_isAt, 2, wsX0_isAt, (some .boolean), false)
theorem hy_X0_isAt : yX0_isAt.cls = RX0 ∧ yX0_isAt.cls ≠ "java/lang/invoke/MethodHandle" ∧ yX0_isAt.cls ≠ "java/lang/invoke/VarHandle" ∧ (parseMethodDescriptor yX0_isAt.desc).map (fun d => d.parameters.length) = some 1 := by decide +kernel
abbrev muX0_move : zM := (RX0, cX0_move, 1, wsX0_move, none, false)
theorem hy_X0_move : yX0_move.cls = RX0 ∧ yX0_move.cls ≠ "java/lang/invoke/MethodHandle" ∧ yX0_move.cls ≠ "java/lang/invoke/VarHandle" ∧ (parseMethodDescriptor yX0_move.desc).map (fun d => d.parameters.length) = some 0 := by decide +kernel
abbrev muX0_placeOf : zM := (RX0, cX0_placeOf, 2, wsX0_placeOf, (some .int), false)
theorem hy_X0_placeOf : yX0_placeOf.cls ≠ "java/lang/invoke/MethodHandle" ∧ yX0_placeOf.cls ≠ "java/lang/invoke/VarHandle" ∧ (parseMethodDescriptor yX0_placeOf.desc).map (fun d => d.parameters.length) = some 2 := by decide +kernel
abbrev muX0_send : zM := (RX0, cX0_send, 5, wsX0_send, none, false)
theorem hy_X0_send : yX0_send.cls = RX0 ∧ yX0_send.cls ≠ "java/lang/invoke/MethodHandle" ∧ yX0_send.cls ≠ "java/lang/invoke/VarHandle" ∧ (parseMethodDescriptor yX0_send.desc).map (fun d => d.parameters.length) = some 3 := by decide +kernel
abbrev muX0_takeArrived : zM := (RX0, cX0_takeArrived, 5, wsX0_takeArrived, (some .int), false)
theorem hy_X0_takeArrived : yX0_takeArrived.cls = RX0 ∧ yX0_takeArrived.cls ≠ "java/lang/invoke/MethodHandle" ∧ yX0_takeArrived.cls ≠ "java/lang/invoke/VarHandle" ∧ (parseMethodDescriptor yX0_takeArrived.desc).map (fun d => d.parameters.length) = some 2 := by decide +kernel
abbrev muX1_allEnergy : zM := (RX1, cX1_allEnergy, 1, wsX1_allEnergy, (some .int), false)
theorem hy_X1_allEnergy : yX1_allEnergy.cls = RX1 ∧ yX1_allEnergy.cls ≠ "java/lang/invoke/MethodHandle" ∧ yX1_allEnergy.cls ≠ "java/lang/invoke/VarHandle" ∧ (parseMethodDescriptor yX1_allEnergy.desc).map (fun d => d.parameters.length) = some 0 := by decide +kernel
abbrev muX1_becomeSound : zM := (RX1, cX1_becomeSound, 5, wsX1_becomeSound, none, false)
theorem hy_X1_becomeSound : yX1_becomeSound.cls = RX1 ∧ yX1_becomeSound.cls ≠ "java/lang/invoke/MethodHandle" ∧ yX1_becomeSound.cls ≠ "java/lang/invoke/VarHandle" ∧ (parseMethodDescriptor yX1_becomeSound.desc).map (fun d => d.parameters.length) = some 4 := by decide +kernel
abbrev muX1_becomeTarget : zM := (RX1, cX1_becomeTarget, 4, wsX1_becomeTarget, none, false)
theorem hy_X1_becomeTarget : yX1_becomeTarget.cls = RX1 ∧ yX1_becomeTarget.cls ≠ "java/lang/invoke/MethodHandle" ∧ yX1_becomeTarget.cls ≠ "java/lang/invoke/VarHandle" ∧ (parseMethodDescriptor yX1_becomeTarget.desc).map (fun d => d.parameters.length) = some 3 := by decide +kernel
abbrev muX1_copyFrom : zM := (RX1, cX1_copyFrom, 2, wsX1_copyFrom, none, false)
theorem hy_X1_copyFrom : yX1_copyFrom.cls = RX1 ∧ yX1_copyFrom.cls ≠ "java/lang/invoke/MethodHandle" ∧ yX1_copyFrom.cls ≠ "java/lang/invoke/VarHandle" ∧ (parseMethodDescriptor yX1_copyFrom.desc).map (fun d => d.parameters.length) = some 1 := by decide +kernel
abbrev muX1_endsWith : zM := (RX1, cX1_endsWith, 2, wsX1_endsWith, (some .boolean), false)
theorem hy_X1_endsWith : yX1_endsWith.cls = RX1 ∧ yX1_endsWith.cls ≠ "java/lang/invoke/MethodHandle" ∧ yX1_endsWith.cls ≠ "java/lang/invoke/VarHandle" ∧ (parseMethodDescriptor yX1_endsWith.desc).map (fun d => d.parameters.length) = some 1 := by decide +kernel
abbrev muX1_init : zM := (RX1, cX1_init, 1, wsX1_init, none, true)
theorem hy_X1_init : yX1_init.name = "<init>" ∧ yX1_init.cls ≠ "java/lang/invoke/MethodHandle" ∧ yX1_init.cls ≠ "java/lang/invoke/VarHandle" ∧ (parseMethodDescriptor yX1_init.desc).map (fun d => d.parameters.length) = some 0 := by decide +kernel
abbrev muX1_isHeardIn : zM := (RX1, cX1_isHeardIn, 2, wsX1_isHeardIn, (some .boolean), false)
theorem hy_X1_isHeardIn : yX1_isHeardIn.cls = RX1 ∧ yX1_isHeardIn.cls ≠ "java/lang/invoke/MethodHandle" ∧ yX1_isHeardIn.cls ≠ "java/lang/invoke/VarHandle" ∧ (parseMethodDescriptor yX1_isHeardIn.desc).map (fun d => d.parameters.length) = some 1 := by decide +kernel
abbrev muX1_isTargetFor : zM := (RX1, cX1_isTargetFor, 2, wsX1_isTargetFor, (some .boolean), false)
theorem hy_X1_isTargetFor : yX1_isTargetFor.cls = RX1 ∧ yX1_isTargetFor.cls ≠ "java/lang/invoke/MethodHandle" ∧ yX1_isTargetFor.cls ≠ "java/lang/invoke/VarHandle" ∧ (parseMethodDescriptor yX1_isTargetFor.desc).map (fun d => d.parameters.length) = some 1 := by decide +kernel
abbrev muX2_forgetOldest : zM := (RX2, cX2_forgetOldest, 3, wsX2_forgetOldest, none, false)
theorem hy_X2_forgetOldest : yX2_forgetOldest.cls = RX2 ∧ yX2_forgetOldest.cls ≠ "java/lang/invoke/MethodHandle" ∧ yX2_forgetOldest.cls ≠ "java/lang/invoke/VarHandle" ∧ (parseMethodDescriptor yX2_forgetOldest.desc).map (fun d => d.parameters.length) = some 0 := by decide +kernel
abbrev muX2_init : zM := (RX2, cX2_init, 2, wsX2_init, none, true)
theorem hy_X2_init : yX2_init.name = "<init>" ∧ yX2_init.cls ≠ "java/lang/invoke/MethodHandle" ∧ yX2_init.cls ≠ "java/lang/invoke/VarHandle" ∧ (parseMethodDescriptor yX2_init.desc).map (fun d => d.parameters.length) = some 0 := by decide +kernel
abbrev muX2_record : zM := (RX2, cX2_record, 2, wsX2_record, none, false)
theorem hy_X2_record : yX2_record.cls = RX2 ∧ yX2_record.cls ≠ "java/lang/invoke/MethodHandle" ∧ yX2_record.cls ≠ "java/lang/invoke/VarHandle" ∧ (parseMethodDescriptor yX2_record.desc).map (fun d => d.parameters.length) = some 1 := by decide +kernel
abbrev muX3_addDoor : zM := (RX3, cX3_addDoor, 7, wsX3_addDoor, (some .int), false)
theorem hy_X3_addDoor : yX3_addDoor.cls = RX3 ∧ yX3_addDoor.cls ≠ "java/lang/invoke/MethodHandle" ∧ yX3_addDoor.cls ≠ "java/lang/invoke/VarHandle" ∧ (parseMethodDescriptor yX3_addDoor.desc).map (fun d => d.parameters.length) = some 5 := by decide +kernel
abbrev muX3_addRoom : zM := (RX3, cX3_addRoom, 3, wsX3_addRoom, (some .int), false)
theorem hy_X3_addRoom : yX3_addRoom.cls = RX3 ∧ yX3_addRoom.cls ≠ "java/lang/invoke/MethodHandle" ∧ yX3_addRoom.cls ≠ "java/lang/invoke/VarHandle" ∧ (parseMethodDescriptor yX3_addRoom.desc).map (fun d => d.parameters.length) = some 2 := by decide +kernel
abbrev muX3_aimPlannedDoors : zM := (RX3, cX3_aimPlannedDoors, 4, wsX3_aimPlannedDoors, none, false)
theorem hy_X3_aimPlannedDoors : yX3_aimPlannedDoors.cls = RX3 ∧ yX3_aimPlannedDoors.cls ≠ "java/lang/invoke/MethodHandle" ∧ yX3_aimPlannedDoors.cls ≠ "java/lang/invoke/VarHandle" ∧ (parseMethodDescriptor yX3_aimPlannedDoors.desc).map (fun d => d.parameters.length) = some 0 := by decide +kernel
abbrev muX3_copyFrom : zM := (RX3, cX3_copyFrom, 3, wsX3_copyFrom, none, false)
theorem hy_X3_copyFrom : yX3_copyFrom.cls = RX3 ∧ yX3_copyFrom.cls ≠ "java/lang/invoke/MethodHandle" ∧ yX3_copyFrom.cls ≠ "java/lang/invoke/VarHandle" ∧ (parseMethodDescriptor yX3_copyFrom.desc).map (fun d => d.parameters.length) = some 1 := by decide +kernel
abbrev muX3_densityAt : zM := (RX3, cX3_densityAt, 3, wsX3_densityAt, (some .int), false)
theorem hy_X3_densityAt : yX3_densityAt.cls = RX3 ∧ yX3_densityAt.cls ≠ "java/lang/invoke/MethodHandle" ∧ yX3_densityAt.cls ≠ "java/lang/invoke/VarHandle" ∧ (parseMethodDescriptor yX3_densityAt.desc).map (fun d => d.parameters.length) = some 1 := by decide +kernel
abbrev muX3_doorAt : zM := (RX3, cX3_doorAt, 2, wsX3_doorAt, (some (.object "RoomTails$Door")), false)
theorem hy_X3_doorAt : yX3_doorAt.cls = RX3 ∧ yX3_doorAt.cls ≠ "java/lang/invoke/MethodHandle" ∧ yX3_doorAt.cls ≠ "java/lang/invoke/VarHandle" ∧ (parseMethodDescriptor yX3_doorAt.desc).map (fun d => d.parameters.length) = some 1 := by decide +kernel
abbrev muX3_doorsOf : zM := (RX3, cX3_doorsOf, 7, wsX3_doorsOf, (some .int), false)
theorem hy_X3_doorsOf : yX3_doorsOf.cls = RX3 ∧ yX3_doorsOf.cls ≠ "java/lang/invoke/MethodHandle" ∧ yX3_doorsOf.cls ≠ "java/lang/invoke/VarHandle" ∧ (parseMethodDescriptor yX3_doorsOf.desc).map (fun d => d.parameters.length) = some 1 := by decide +kernel
abbrev muX3_energyAbsorbed : zM := (RX3, cX3_energyAbsorbed, 6, wsX3_energyAbsorbed, (some .int), false)
theorem hy_X3_energyAbsorbed : yX3_energyAbsorbed.cls = RX3 ∧ yX3_energyAbsorbed.cls ≠ "java/lang/invoke/MethodHandle" ∧ yX3_energyAbsorbed.cls ≠ "java/lang/invoke/VarHandle" ∧ (parseMethodDescriptor yX3_energyAbsorbed.desc).map (fun d => d.parameters.length) = some 0 := by decide +kernel
abbrev muX3_energyGiven : zM := (RX3, cX3_energyGiven, 6, wsX3_energyGiven, (some .int), false)
theorem hy_X3_energyGiven : yX3_energyGiven.cls = RX3 ∧ yX3_energyGiven.cls ≠ "java/lang/invoke/MethodHandle" ∧ yX3_energyGiven.cls ≠ "java/lang/invoke/VarHandle" ∧ (parseMethodDescriptor yX3_energyGiven.desc).map (fun d => d.parameters.length) = some 0 := by decide +kernel
abbrev muX3_energyInRooms : zM := (RX3, cX3_energyInRooms, 6, wsX3_energyInRooms, (some .int), false)
theorem hy_X3_energyInRooms : yX3_energyInRooms.cls = RX3 ∧ yX3_energyInRooms.cls ≠ "java/lang/invoke/MethodHandle" ∧ yX3_energyInRooms.cls ≠ "java/lang/invoke/VarHandle" ∧ (parseMethodDescriptor yX3_energyInRooms.desc).map (fun d => d.parameters.length) = some 0 := by decide +kernel
abbrev muX3_energyOnItsWay : zM := (RX3, cX3_energyOnItsWay, 6, wsX3_energyOnItsWay, (some .int), false)
theorem hy_X3_energyOnItsWay : yX3_energyOnItsWay.cls = RX3 ∧ yX3_energyOnItsWay.cls ≠ "java/lang/invoke/MethodHandle" ∧ yX3_energyOnItsWay.cls ≠ "java/lang/invoke/VarHandle" ∧ (parseMethodDescriptor yX3_energyOnItsWay.desc).map (fun d => d.parameters.length) = some 0 := by decide +kernel
abbrev muX3_giveSounds : zM := (RX3, cX3_giveSounds, 4, wsX3_giveSounds, none, false)
theorem hy_X3_giveSounds : yX3_giveSounds.cls = RX3 ∧ yX3_giveSounds.cls ≠ "java/lang/invoke/MethodHandle" ∧ yX3_giveSounds.cls ≠ "java/lang/invoke/VarHandle" ∧ (parseMethodDescriptor yX3_giveSounds.desc).map (fun d => d.parameters.length) = some 0 := by decide +kernel
abbrev muX3_goOn : zM := (RX3, cX3_goOn, 2, wsX3_goOn, none, false)
theorem hy_X3_goOn : yX3_goOn.cls = RX3 ∧ yX3_goOn.cls ≠ "java/lang/invoke/MethodHandle" ∧ yX3_goOn.cls ≠ "java/lang/invoke/VarHandle" ∧ (parseMethodDescriptor yX3_goOn.desc).map (fun d => d.parameters.length) = some 0 := by decide +kernel
abbrev muX3_hasWallFor : zM := (RX3, cX3_hasWallFor, 9, wsX3_hasWallFor, (some .boolean), false)
theorem hy_X3_hasWallFor : yX3_hasWallFor.cls = RX3 ∧ yX3_hasWallFor.cls ≠ "java/lang/invoke/MethodHandle" ∧ yX3_hasWallFor.cls ≠ "java/lang/invoke/VarHandle" ∧ (parseMethodDescriptor yX3_hasWallFor.desc).map (fun d => d.parameters.length) = some 2 := by decide +kernel
abbrev muX3_init : zM := (RX3, cX3_init, 2, wsX3_init, none, true)
theorem hy_X3_init : yX3_init.name = "<init>" ∧ yX3_init.cls ≠ "java/lang/invoke/MethodHandle" ∧ yX3_init.cls ≠ "java/lang/invoke/VarHandle" ∧ (parseMethodDescriptor yX3_init.desc).map (fun d => d.parameters.length) = some 0 := by decide +kernel
abbrev muX3_letArrive : zM := (RX3, cX3_letArrive, 6, wsX3_letArrive, none, false)
theorem hy_X3_letArrive : yX3_letArrive.cls = RX3 ∧ yX3_letArrive.cls ≠ "java/lang/invoke/MethodHandle" ∧ yX3_letArrive.cls ≠ "java/lang/invoke/VarHandle" ∧ (parseMethodDescriptor yX3_letArrive.desc).map (fun d => d.parameters.length) = some 0 := by decide +kernel
abbrev muX3_moveDoors : zM := (RX3, cX3_moveDoors, 4, wsX3_moveDoors, none, false)
theorem hy_X3_moveDoors : yX3_moveDoors.cls = RX3 ∧ yX3_moveDoors.cls ≠ "java/lang/invoke/MethodHandle" ∧ yX3_moveDoors.cls ≠ "java/lang/invoke/VarHandle" ∧ (parseMethodDescriptor yX3_moveDoors.desc).map (fun d => d.parameters.length) = some 0 := by decide +kernel
abbrev muX3_reasonToRefuse : zM := (RX3, cX3_reasonToRefuse, 4, wsX3_reasonToRefuse, (some .int), false)
theorem hy_X3_reasonToRefuse : yX3_reasonToRefuse.cls = RX3 ∧ yX3_reasonToRefuse.cls ≠ "java/lang/invoke/MethodHandle" ∧ yX3_reasonToRefuse.cls ≠ "java/lang/invoke/VarHandle" ∧ (parseMethodDescriptor yX3_reasonToRefuse.desc).map (fun d => d.parameters.length) = some 2 := by decide +kernel
abbrev muX3_roomAt : zM := (RX3, cX3_roomAt, 2, wsX3_roomAt, (some (.object "RoomTails$Room")), false)
theorem hy_X3_roomAt : yX3_roomAt.cls = RX3 ∧ yX3_roomAt.cls ≠ "java/lang/invoke/MethodHandle" ∧ yX3_roomAt.cls ≠ "java/lang/invoke/VarHandle" ∧ (parseMethodDescriptor yX3_roomAt.desc).map (fun d => d.parameters.length) = some 1 := by decide +kernel
abbrev muX3_sendThroughDoors : zM := (RX3, cX3_sendThroughDoors, 5, wsX3_sendThroughDoors, none, false)
theorem hy_X3_sendThroughDoors : yX3_sendThroughDoors.cls = RX3 ∧ yX3_sendThroughDoors.cls ≠ "java/lang/invoke/MethodHandle" ∧ yX3_sendThroughDoors.cls ≠ "java/lang/invoke/VarHandle" ∧ (parseMethodDescriptor yX3_sendThroughDoors.desc).map (fun d => d.parameters.length) = some 0 := by decide +kernel
abbrev muX3_take : zM := (RX3, cX3_take, 2, wsX3_take, none, false)
theorem hy_X3_take : yX3_take.cls = RX3 ∧ yX3_take.cls ≠ "java/lang/invoke/MethodHandle" ∧ yX3_take.cls ≠ "java/lang/invoke/VarHandle" ∧ (parseMethodDescriptor yX3_take.desc).map (fun d => d.parameters.length) = some 1 := by decide +kernel
abbrev muX3_wouldGo : zM := (RX3, cX3_wouldGo, 4, wsX3_wouldGo, (some .int), false)
theorem hy_X3_wouldGo : yX3_wouldGo.cls = RX3 ∧ yX3_wouldGo.cls ≠ "java/lang/invoke/MethodHandle" ∧ yX3_wouldGo.cls ≠ "java/lang/invoke/VarHandle" ∧ (parseMethodDescriptor yX3_wouldGo.desc).map (fun d => d.parameters.length) = some 2 := by decide +kernel
abbrev muX4_copyFrom : zM := (RX4, cX4_copyFrom, 3, wsX4_copyFrom, none, false)
theorem hy_X4_copyFrom : yX4_copyFrom.cls = RX4 ∧ yX4_copyFrom.cls ≠ "java/lang/invoke/MethodHandle" ∧ yX4_copyFrom.cls ≠ "java/lang/invoke/VarHandle" ∧ (parseMethodDescriptor yX4_copyFrom.desc).map (fun d => d.parameters.length) = some 1 := by decide +kernel
abbrev muX4_drop : zM := (RX4, cX4_drop, 4, wsX4_drop, none, false)
theorem hy_X4_drop : yX4_drop.cls = RX4 ∧ yX4_drop.cls ≠ "java/lang/invoke/MethodHandle" ∧ yX4_drop.cls ≠ "java/lang/invoke/VarHandle" ∧ (parseMethodDescriptor yX4_drop.desc).map (fun d => d.parameters.length) = some 1 := by decide +kernel
abbrev muX4_dropEnded : zM := (RX4, cX4_dropEnded, 4, wsX4_dropEnded, none, false)
theorem hy_X4_dropEnded : yX4_dropEnded.cls = RX4 ∧ yX4_dropEnded.cls ≠ "java/lang/invoke/MethodHandle" ∧ yX4_dropEnded.cls ≠ "java/lang/invoke/VarHandle" ∧ (parseMethodDescriptor yX4_dropEnded.desc).map (fun d => d.parameters.length) = some 1 := by decide +kernel
abbrev muX4_entryAt : zM := (RX4, cX4_entryAt, 2, wsX4_entryAt, (some (.object "RoomTails$Entry")), false)
theorem hy_X4_entryAt : yX4_entryAt.cls = RX4 ∧ yX4_entryAt.cls ≠ "java/lang/invoke/MethodHandle" ∧ yX4_entryAt.cls ≠ "java/lang/invoke/VarHandle" ∧ (parseMethodDescriptor yX4_entryAt.desc).map (fun d => d.parameters.length) = some 1 := by decide +kernel
abbrev muX4_init : zM := (RX4, cX4_init, 2, wsX4_init, none, true)
theorem hy_X4_init : yX4_init.name = "<init>" ∧ yX4_init.cls ≠ "java/lang/invoke/MethodHandle" ∧ yX4_init.cls ≠ "java/lang/invoke/VarHandle" ∧ (parseMethodDescriptor yX4_init.desc).map (fun d => d.parameters.length) = some 0 := by decide +kernel
abbrev muX4_insert : zM := (RX4, cX4_insert, 4, wsX4_insert, none, false)
theorem hy_X4_insert : yX4_insert.cls = RX4 ∧ yX4_insert.cls ≠ "java/lang/invoke/MethodHandle" ∧ yX4_insert.cls ≠ "java/lang/invoke/VarHandle" ∧ (parseMethodDescriptor yX4_insert.desc).map (fun d => d.parameters.length) = some 1 := by decide +kernel
abbrev muX4_isFull : zM := (RX4, cX4_isFull, 1, wsX4_isFull, (some .boolean), false)
theorem hy_X4_isFull : yX4_isFull.cls = RX4 ∧ yX4_isFull.cls ≠ "java/lang/invoke/MethodHandle" ∧ yX4_isFull.cls ≠ "java/lang/invoke/VarHandle" ∧ (parseMethodDescriptor yX4_isFull.desc).map (fun d => d.parameters.length) = some 0 := by decide +kernel
abbrev muX4_soundsHeard : zM := (RX4, cX4_soundsHeard, 5, wsX4_soundsHeard, (some .int), false)
theorem hy_X4_soundsHeard : yX4_soundsHeard.cls = RX4 ∧ yX4_soundsHeard.cls ≠ "java/lang/invoke/MethodHandle" ∧ yX4_soundsHeard.cls ≠ "java/lang/invoke/VarHandle" ∧ (parseMethodDescriptor yX4_soundsHeard.desc).map (fun d => d.parameters.length) = some 2 := by decide +kernel
abbrev muX5_absorbShare : zM := (RX5, cX5_absorbShare, 2, wsX5_absorbShare, none, false)
theorem hy_X5_absorbShare : yX5_absorbShare.cls = RX5 ∧ yX5_absorbShare.cls ≠ "java/lang/invoke/MethodHandle" ∧ yX5_absorbShare.cls ≠ "java/lang/invoke/VarHandle" ∧ (parseMethodDescriptor yX5_absorbShare.desc).map (fun d => d.parameters.length) = some 0 := by decide +kernel
abbrev muX5_begin : zM := (RX5, cX5_begin, 4, wsX5_begin, none, false)
theorem hy_X5_begin : yX5_begin.cls = RX5 ∧ yX5_begin.cls ≠ "java/lang/invoke/MethodHandle" ∧ yX5_begin.cls ≠ "java/lang/invoke/VarHandle" ∧ (parseMethodDescriptor yX5_begin.desc).map (fun d => d.parameters.length) = some 3 := by decide +kernel
abbrev muX5_copyFrom : zM := (RX5, cX5_copyFrom, 2, wsX5_copyFrom, none, false)
theorem hy_X5_copyFrom : yX5_copyFrom.cls = RX5 ∧ yX5_copyFrom.cls ≠ "java/lang/invoke/MethodHandle" ∧ yX5_copyFrom.cls ≠ "java/lang/invoke/VarHandle" ∧ (parseMethodDescriptor yX5_copyFrom.desc).map (fun d => d.parameters.length) = some 1 := by decide +kernel
abbrev muX5_density : zM := (RX5, cX5_density, 1, wsX5_density, (some .int), false)
theorem hy_X5_density : yX5_density.cls = RX5 ∧ yX5_density.cls ≠ "java/lang/invoke/MethodHandle" ∧ yX5_density.cls ≠ "java/lang/invoke/VarHandle" ∧ (parseMethodDescriptor yX5_density.desc).map (fun d => d.parameters.length) = some 0 := by decide +kernel
abbrev muX5_hear : zM := (RX5, cX5_hear, 2, wsX5_hear, none, false)
theorem hy_X5_hear : yX5_hear.cls = RX5 ∧ yX5_hear.cls ≠ "java/lang/invoke/MethodHandle" ∧ yX5_hear.cls ≠ "java/lang/invoke/VarHandle" ∧ (parseMethodDescriptor yX5_hear.desc).map (fun d => d.parameters.length) = some 1 := by decide +kernel
abbrev muX5_init : zM := (RX5, cX5_init, 1, wsX5_init, none, true)
theorem hy_X5_init : yX5_init.name = "<init>" ∧ yX5_init.cls ≠ "java/lang/invoke/MethodHandle" ∧ yX5_init.cls ≠ "java/lang/invoke/VarHandle" ∧ (parseMethodDescriptor yX5_init.desc).map (fun d => d.parameters.length) = some 0 := by decide +kernel
abbrev muX5_keepEnergy : zM := (RX5, cX5_keepEnergy, 2, wsX5_keepEnergy, none, false)
theorem hy_X5_keepEnergy : yX5_keepEnergy.cls = RX5 ∧ yX5_keepEnergy.cls ≠ "java/lang/invoke/MethodHandle" ∧ yX5_keepEnergy.cls ≠ "java/lang/invoke/VarHandle" ∧ (parseMethodDescriptor yX5_keepEnergy.desc).map (fun d => d.parameters.length) = some 1 := by decide +kernel
abbrev muX5_shareThrough : zM := (RX5, cX5_shareThrough, 2, wsX5_shareThrough, (some .int), false)
theorem hy_X5_shareThrough : yX5_shareThrough.cls = RX5 ∧ yX5_shareThrough.cls ≠ "java/lang/invoke/MethodHandle" ∧ yX5_shareThrough.cls ≠ "java/lang/invoke/VarHandle" ∧ (parseMethodDescriptor yX5_shareThrough.desc).map (fun d => d.parameters.length) = some 1 := by decide +kernel
abbrev muX6_init : zM := (RX6, cX6_init, 1, wsX6_init, none, true)
theorem hy_X6_init : yX6_init.name = "<init>" ∧ yX6_init.cls ≠ "java/lang/invoke/MethodHandle" ∧ yX6_init.cls ≠ "java/lang/invoke/VarHandle" ∧ (parseMethodDescriptor yX6_init.desc).map (fun d => d.parameters.length) = some 0 := by decide +kernel
abbrev muX7_cancel : zM := (RX7, cX7_cancel, 2, wsX7_cancel, (some .int), false)
theorem hy_X7_cancel : yX7_cancel.cls = RX7 ∧ yX7_cancel.cls ≠ "java/lang/invoke/MethodHandle" ∧ yX7_cancel.cls ≠ "java/lang/invoke/VarHandle" ∧ (parseMethodDescriptor yX7_cancel.desc).map (fun d => d.parameters.length) = some 1 := by decide +kernel
abbrev muX7_count : zM := (RX7, cX7_count, 2, wsX7_count, (some .int), false)
theorem hy_X7_count : yX7_count.cls = RX7 ∧ yX7_count.cls ≠ "java/lang/invoke/MethodHandle" ∧ yX7_count.cls ≠ "java/lang/invoke/VarHandle" ∧ (parseMethodDescriptor yX7_count.desc).map (fun d => d.parameters.length) = some 1 := by decide +kernel
abbrev muX7_door : zM := (RX7, cX7_door, 6, wsX7_door, (some .int), false)
theorem hy_X7_door : yX7_door.cls = RX7 ∧ yX7_door.cls ≠ "java/lang/invoke/MethodHandle" ∧ yX7_door.cls ≠ "java/lang/invoke/VarHandle" ∧ (parseMethodDescriptor yX7_door.desc).map (fun d => d.parameters.length) = some 5 := by decide +kernel
abbrev muX7_doorOf : zM := (RX7, cX7_doorOf, 4, wsX7_doorOf, (some .int), false)
theorem hy_X7_doorOf : yX7_doorOf.cls = RX7 ∧ yX7_doorOf.cls ≠ "java/lang/invoke/MethodHandle" ∧ yX7_doorOf.cls ≠ "java/lang/invoke/VarHandle" ∧ (parseMethodDescriptor yX7_doorOf.desc).map (fun d => d.parameters.length) = some 2 := by decide +kernel
abbrev muX7_init : zM := (RX7, cX7_init, 1, wsX7_init, none, true)
theorem hy_X7_init : yX7_init.name = "<init>" ∧ yX7_init.cls ≠ "java/lang/invoke/MethodHandle" ∧ yX7_init.cls ≠ "java/lang/invoke/VarHandle" ∧ (parseMethodDescriptor yX7_init.desc).map (fun d => d.parameters.length) = some 0 := by decide +kernel
abbrev muX7_isRoomOrOutside : zM := (RX7, cX7_isRoomOrOutside, 2, wsX7_isRoomOrOutside, (some .boolean), false)
theorem hy_X7_isRoomOrOutside : yX7_isRoomOrOutside.cls = RX7 ∧ yX7_isRoomOrOutside.cls ≠ "java/lang/invoke/MethodHandle" ∧ yX7_isRoomOrOutside.cls ≠ "java/lang/invoke/VarHandle" ∧ (parseMethodDescriptor yX7_isRoomOrOutside.desc).map (fun d => d.parameters.length) = some 1 := by decide +kernel
abbrev muX7_isWithin : zM := (RX7, cX7_isWithin, 3, wsX7_isWithin, (some .boolean), false)
theorem hy_X7_isWithin : yX7_isWithin.cls ≠ "java/lang/invoke/MethodHandle" ∧ yX7_isWithin.cls ≠ "java/lang/invoke/VarHandle" ∧ (parseMethodDescriptor yX7_isWithin.desc).map (fun d => d.parameters.length) = some 3 := by decide +kernel
abbrev muX7_levelOf : zM := (RX7, cX7_levelOf, 3, wsX7_levelOf, (some .int), false)
theorem hy_X7_levelOf : yX7_levelOf.cls ≠ "java/lang/invoke/MethodHandle" ∧ yX7_levelOf.cls ≠ "java/lang/invoke/VarHandle" ∧ (parseMethodDescriptor yX7_levelOf.desc).map (fun d => d.parameters.length) = some 1 := by decide +kernel
abbrev muX7_lock : zM := (RX7, cX7_lock, 4, wsX7_lock, (some .int), false)
theorem hy_X7_lock : yX7_lock.cls = RX7 ∧ yX7_lock.cls ≠ "java/lang/invoke/MethodHandle" ∧ yX7_lock.cls ≠ "java/lang/invoke/VarHandle" ∧ (parseMethodDescriptor yX7_lock.desc).map (fun d => d.parameters.length) = some 2 := by decide +kernel
abbrev muX7_open : zM := (RX7, cX7_open, 5, wsX7_open, (some .int), false)
theorem hy_X7_open : yX7_open.cls = RX7 ∧ yX7_open.cls ≠ "java/lang/invoke/MethodHandle" ∧ yX7_open.cls ≠ "java/lang/invoke/VarHandle" ∧ (parseMethodDescriptor yX7_open.desc).map (fun d => d.parameters.length) = some 2 := by decide +kernel
abbrev muX7_pass : zM := (RX7, cX7_pass, 3, wsX7_pass, (some .int), false)
theorem hy_X7_pass : yX7_pass.cls = RX7 ∧ yX7_pass.cls ≠ "java/lang/invoke/MethodHandle" ∧ yX7_pass.cls ≠ "java/lang/invoke/VarHandle" ∧ (parseMethodDescriptor yX7_pass.desc).map (fun d => d.parameters.length) = some 1 := by decide +kernel
abbrev muX7_plan : zM := (RX7, cX7_plan, 4, wsX7_plan, (some .int), false)
theorem hy_X7_plan : yX7_plan.cls = RX7 ∧ yX7_plan.cls ≠ "java/lang/invoke/MethodHandle" ∧ yX7_plan.cls ≠ "java/lang/invoke/VarHandle" ∧ (parseMethodDescriptor yX7_plan.desc).map (fun d => d.parameters.length) = some 2 := by decide +kernel
abbrev muX7_planDoor : zM := (RX7, cX7_planDoor, 4, wsX7_planDoor, (some .int), false)
theorem hy_X7_planDoor : yX7_planDoor.cls = RX7 ∧ yX7_planDoor.cls ≠ "java/lang/invoke/MethodHandle" ∧ yX7_planDoor.cls ≠ "java/lang/invoke/VarHandle" ∧ (parseMethodDescriptor yX7_planDoor.desc).map (fun d => d.parameters.length) = some 3 := by decide +kernel
abbrev muX7_room : zM := (RX7, cX7_room, 3, wsX7_room, (some .int), false)
theorem hy_X7_room : yX7_room.cls = RX7 ∧ yX7_room.cls ≠ "java/lang/invoke/MethodHandle" ∧ yX7_room.cls ≠ "java/lang/invoke/VarHandle" ∧ (parseMethodDescriptor yX7_room.desc).map (fun d => d.parameters.length) = some 2 := by decide +kernel
abbrev muX7_roomOf : zM := (RX7, cX7_roomOf, 4, wsX7_roomOf, (some .int), false)
theorem hy_X7_roomOf : yX7_roomOf.cls = RX7 ∧ yX7_roomOf.cls ≠ "java/lang/invoke/MethodHandle" ∧ yX7_roomOf.cls ≠ "java/lang/invoke/VarHandle" ∧ (parseMethodDescriptor yX7_roomOf.desc).map (fun d => d.parameters.length) = some 2 := by decide +kernel
abbrev muX7_set : zM := (RX7, cX7_set, 4, wsX7_set, (some .int), false)
theorem hy_X7_set : yX7_set.cls = RX7 ∧ yX7_set.cls ≠ "java/lang/invoke/MethodHandle" ∧ yX7_set.cls ≠ "java/lang/invoke/VarHandle" ∧ (parseMethodDescriptor yX7_set.desc).map (fun d => d.parameters.length) = some 2 := by decide +kernel
abbrev muX7_sound : zM := (RX7, cX7_sound, 5, wsX7_sound, (some .int), false)
theorem hy_X7_sound : yX7_sound.cls = RX7 ∧ yX7_sound.cls ≠ "java/lang/invoke/MethodHandle" ∧ yX7_sound.cls ≠ "java/lang/invoke/VarHandle" ∧ (parseMethodDescriptor yX7_sound.desc).map (fun d => d.parameters.length) = some 4 := by decide +kernel
theorem z_def0 : ∀ x, x < 10 → defaultValue (tyX0 x) = z_val (.inl 0) (fun _ => 0) (fun _ => none) x := by
  intro x hx
  rcases (show x = 0 ∨ x = 1 ∨ x = 2 ∨ x = 3 ∨ x = 4 ∨ x = 5 ∨ x = 6 ∨ x = 7 ∨ x = 8 ∨ x = 9 by omega) with rfl | rfl | rfl | rfl | rfl | rfl | rfl | rfl | rfl | rfl <;> rfl
theorem z_def1 : ∀ x, x < 5 → defaultValue (tyX1 x) = z_val (.inl 1) (fun _ => 0) (fun _ => none) x := by
  intro x hx
  rcases (show x = 0 ∨ x = 1 ∨ x = 2 ∨ x = 3 ∨ x = 4 by omega) with rfl | rfl | rfl | rfl | rfl <;> rfl
theorem z_def2 : ∀ x, x < 2 → defaultValue (tyX2 x) = z_val (.inl 2) (fun _ => 0) (fun _ => none) x := by
  intro x hx
  rcases (show x = 0 ∨ x = 1 by omega) with rfl | rfl <;> rfl
theorem z_def3 : ∀ x, x < 10 → defaultValue (tyX3 x) = z_val (.inl 3) (fun _ => 0) (fun _ => none) x := by
  intro x hx
  rcases (show x = 0 ∨ x = 1 ∨ x = 2 ∨ x = 3 ∨ x = 4 ∨ x = 5 ∨ x = 6 ∨ x = 7 ∨ x = 8 ∨ x = 9 by omega) with rfl | rfl | rfl | rfl | rfl | rfl | rfl | rfl | rfl | rfl <;> rfl
theorem z_def4 : ∀ x, x < 2 → defaultValue (tyX4 x) = z_val (.inl 4) (fun _ => 0) (fun _ => none) x := by
  intro x hx
  rcases (show x = 0 ∨ x = 1 by omega) with rfl | rfl <;> rfl
theorem z_def5 : ∀ x, x < 7 → defaultValue (tyX5 x) = z_val (.inl 5) (fun _ => 0) (fun _ => none) x := by
  intro x hx
  rcases (show x = 0 ∨ x = 1 ∨ x = 2 ∨ x = 3 ∨ x = 4 ∨ x = 5 ∨ x = 6 by omega) with rfl | rfl | rfl | rfl | rfl | rfl | rfl <;> rfl
theorem z_def6 : ∀ x, x < 6 → defaultValue (tyX6 x) = z_val (.inl 6) (fun _ => 0) (fun _ => none) x := by
  intro x hx
  rcases (show x = 0 ∨ x = 1 ∨ x = 2 ∨ x = 3 ∨ x = 4 ∨ x = 5 by omega) with rfl | rfl | rfl | rfl | rfl | rfl <;> rfl
theorem z_def7 : ∀ x, x < 5 → defaultValue (tyX7 x) = z_val (.inl 7) (fun _ => 0) (fun _ => none) x := by
  intro x hx
  rcases (show x = 0 ∨ x = 1 ∨ x = 2 ∨ x = 3 ∨ x = 4 by omega) with rfl | rfl | rfl | rfl | rfl <;> rfl
