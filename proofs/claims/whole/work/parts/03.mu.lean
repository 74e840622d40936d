/-! the methods as the symbolic machine sees them; what a call of each asks -/
abbrev muJ9_floorMod_7cf53 : zM := (RJ9, cJ9_floorMod_7cf53, 3, wsJ9_floorMod_7cf53, (some .int), false)
theorem hy_J9_floorMod_7cf53 : yJ9_floorMod_7cf53.cls ≠ "java/lang/invoke/MethodHandle" ∧ yJ9_floorMod_7cf53.cls ≠ "java/lang/invoke/VarHandle" ∧ (parseMethodDescriptor yJ9_floorMod_7cf53.desc).map (fun d => d.parameters.length) = some 2 := by decide +kernel
abbrev muX0_aimAt : zM := (RX0, cX0_aimAt, 2, wsX0_aimAt, none, false)
theorem hy_X0_aimAt : yX0_aimAt.cls = RX0 ∧ yX0_aimAt.cls ≠ "java/lang/invoke/MethodHandle" ∧ yX0_aimAt.cls ≠ "java/lang/invoke/VarHandle" ∧ (parseMethodDescriptor yX0_aimAt.desc).map (fun d => d.parameters.length) = some 1 := by decide +kernel
abbrev muX0_begin : zM := (RX0, cX0_begin, 6, wsX0_begin, none, false)
theorem hy_X0_begin : yX0_begin.cls = RX0 ∧ yX0_begin.cls ≠ "java/lang/invoke/MethodHandle" ∧ yX0_begin.cls ≠ "java/lang/invoke/VarHandle" ∧ (parseMethodDescriptor yX0_begin.desc).map (fun d => d.parameters.length) = some 5 := by decide +kernel
abbrev muX0_copyFrom : zM := (RX0, cX0_copyFrom, 2, wsX0_copyFrom, none, false)
theorem hy_X0_copyFrom : yX0_copyFrom.cls = RX0 ∧ yX0_copyFrom.cls ≠ "java/lang/invoke/MethodHandle" ∧ yX0_copyFrom.cls ≠ "java/lang/invoke/VarHandle" ∧ (parseMethodDescriptor yX0_copyFrom.desc).map (fun d => d.parameters.length) = some 1 := by decide +kernel
abbrev muX0_energyOnItsWay : zM := (RX0, cX0_energyOnItsWay, 6, wsX0_energyOnItsWay, (some .int), false)
theorem hy_X0_energyOnItsWay : yX0_energyOnItsWay.cls = RX0 ∧ yX0_energyOnItsWay.cls ≠ "java/lang/invoke/MethodHandle" ∧ yX0_energyOnItsWay.cls ≠ "java/lang/invoke/VarHandle" ∧ (parseMethodDescriptor yX0_energyOnItsWay.desc).map (fun d => d.parameters.length) = some 0 := by decide +kernel
abbrev muX0_init : zM := (RX0, cX0_init, 1, wsX0_init, none, true)
theorem hy_X0_init : yX0_init.name = "<init>" ∧ yX0_init.cls ≠ "java/lang/invoke/MethodHandle" ∧ yX0_init.cls ≠ "java/lang/invoke/VarHandle" ∧ (parseMethodDescriptor yX0_init.desc).map (fun d => d.parameters.length) = some 0 := by decide +kernel
abbrev muX0_isAt : zM := (RX0, cX0_isAt, 2, wsX0_isAt, (some .boolean), false)
theorem hy_X0_isAt : yX0_isAt.cls = RX0 ∧ yX0_isAt.cls ≠ "java/lang/invoke/MethodHandle" ∧ yX0_isAt.cls ≠ "java/lang/invoke/VarHandle" ∧ (parseMethodDescriptor yX0_isAt.desc).map (fun d => d.parameters.length) = some 1 := by decide +kernel
abbrev muX0_move : zM := (RX0, cX0_move, 1, wsX0_move, none, false)
theorem hy_X0_move : yX0_move.cls = RX0 ∧ yX0_move.cls ≠ "java/lang/invoke/MethodHandle" ∧ yX0_move.cls ≠ "java/lang/invoke/VarHandle" ∧ (parseMethodDescriptor yX0_move.desc).map (fun d => d.parameters.length) = some 0 := by decide +kernel
abbrev muX0_placeOf : zM := (RX0, cX0_placeOf, 2, wsX0_placeOf, (some .int), false)
theorem hy_X0_placeOf : yX0_placeOf.cls ≠ "java/lang/invoke/MethodHandle" ∧ yX0_placeOf.cls ≠ "java/lang/invoke/VarHandle" ∧ (parseMethodDescriptor yX0_placeOf.desc).map (fun d => d.parameters.length) = some 2 := by decide +kernel
abbrev muX0_send : zM := (RX0, cX0_send, 5, wsX0_send, none, false)
theorem hy_X0_send : yX0_send.cls = RX0 ∧ yX0_send.cls ≠ "java/lang/invoke/MethodHandle" ∧ yX0_send.cls ≠ "java/lang/invoke/VarHandle" ∧ (parseMethodDescriptor yX0_send.desc).map (fun d => d.parameters.length) = some 3 := by decide +kernel
abbrev muX0_takeArrived : zM := (RX0, cX0_takeArrived, 5, wsX0_takeArrived, (some .int), false)
theorem hy_X0_takeArrived : yX0_takeArrived.cls = RX0 ∧ yX0_takeArrived.cls ≠ "java/lang/invoke/MethodHandle" ∧ yX0_takeArrived.cls ≠ "java/lang/invoke/VarHandle" ∧ (parseMethodDescriptor yX0_takeArrived.desc).map (fun d => d.parameters.length) = some 2 := by decide +kernel
abbrev muX1_allEnergy : zM := (RX1, cX1_allEnergy, 1, wsX1_allEnergy, (some .int), false)
theorem hy_X1_allEnergy : yX1_allEnergy.cls = RX1 ∧ yX1_allEnergy.cls ≠ "java/lang/invoke/MethodHandle" ∧ yX1_allEnergy.cls ≠ "java/lang/invoke/VarHandle" ∧ (parseMethodDescriptor yX1_allEnergy.desc).map (fun d => d.parameters.length) = some 0 := by decide +kernel
abbrev muX1_becomeSound : zM := (RX1, cX1_becomeSound, 5, wsX1_becomeSound, none, false)
theorem hy_X1_becomeSound : yX1_becomeSound.cls = RX1 ∧ yX1_becomeSound.cls ≠ "java/lang/invoke/MethodHandle" ∧ yX1_becomeSound.cls ≠ "java/lang/invoke/VarHandle" ∧ (parseMethodDescriptor yX1_becomeSound.desc).map (fun d => d.parameters.length) = some 4 := by decide +kernel
abbrev muX1_becomeTarget : zM := (RX1, cX1_becomeTarget, 4, wsX1_becomeTarget, none, false)
theorem hy_X1_becomeTarget : yX1_becomeTarget.cls = RX1 ∧ yX1_becomeTarget.cls ≠ "java/lang/invoke/MethodHandle" ∧ yX1_becomeTarget.cls ≠ "java/lang/invoke/VarHandle" ∧ (parseMethodDescriptor yX1_becomeTarget.desc).map (fun d => d.parameters.length) = some 3 := by decide +kernel
abbrev muX1_copyFrom : zM := (RX1, cX1_copyFrom, 2, wsX1_copyFrom, none, false)
theorem hy_X1_copyFrom : yX1_copyFrom.cls = RX1 ∧ yX1_copyFrom.cls ≠ "java/lang/invoke/MethodHandle" ∧ yX1_copyFrom.cls ≠ "java/lang/invoke/VarHandle" ∧ (parseMethodDescriptor yX1_copyFrom.desc).map (fun d => d.parameters.length) = some 1 := by decide +kernel
abbrev muX1_endsWith : zM := (RX1, cX1_endsWith, 2, wsX1_endsWith, (some .boolean), false)
theorem hy_X1_endsWith : yX1_endsWith.cls = RX1 ∧ yX1_endsWith.cls ≠ "java/lang/invoke/MethodHandle" ∧ yX1_endsWith.cls ≠ "java/lang/invoke/VarHandle" ∧ (parseMethodDescriptor yX1_endsWith.desc).map (fun d => d.parameters.length) = some 1 := by decide +kernel
abbrev muX1_init : zM := (RX1, cX1_init, 1, wsX1_init, none, true)
theorem hy_X1_init : yX1_init.name = "<init>" ∧ yX1_init.cls ≠ "java/lang/invoke/MethodHandle" ∧ yX1_init.cls ≠ "java/lang/invoke/VarHandle" ∧ (parseMethodDescriptor yX1_init.desc).map (fun d => d.parameters.length) = some 0 := by decide +kernel
abbrev muX1_isHeardIn : zM := (RX1, cX1_isHeardIn, 2, wsX1_isHeardIn, (some .boolean), false)
theorem hy_X1_isHeardIn : yX1_isHeardIn.cls = RX1 ∧ yX1_isHeardIn.cls ≠ "java/lang/invoke/MethodHandle" ∧ yX1_isHeardIn.cls ≠ "java/lang/invoke/VarHandle" ∧ (parseMethodDescriptor yX1_isHeardIn.desc).map (fun d => d.parameters.length) = some 1 := by decide +kernel
abbrev muX1_isTargetFor : zM := (RX1, cX1_isTargetFor, 2, wsX1_isTargetFor, (some .boolean), false)
theorem hy_X1_isTargetFor : yX1_isTargetFor.cls = RX1 ∧ yX1_isTargetFor.cls ≠ "java/lang/invoke/MethodHandle" ∧ yX1_isTargetFor.cls ≠ "java/lang/invoke/VarHandle" ∧ (parseMethodDescriptor yX1_isTargetFor.desc).map (fun d => d.parameters.length) = some 1 := by decide +kernel
abbrev muX2_forgetOldest : zM := (RX2, cX2_forgetOldest, 3, wsX2_forgetOldest, none, false)
theorem hy_X2_forgetOldest : yX2_forgetOldest.cls = RX2 ∧ yX2_forgetOldest.cls ≠ "java/lang/invoke/MethodHandle" ∧ yX2_forgetOldest.cls ≠ "java/lang/invoke/VarHandle" ∧ (parseMethodDescriptor yX2_forgetOldest.desc).map (fun d => d.parameters.length) = some 0 := by decide +kernel
abbrev muX2_init : zM := (RX2, cX2_init, 2, wsX2_init, none, true)
theorem hy_X2_init : yX2_init.name = "<init>" ∧ yX2_init.cls ≠ "java/lang/invoke/MethodHandle" ∧ yX2_init.cls ≠ "java/lang/invoke/VarHandle" ∧ (parseMethodDescriptor yX2_init.desc).map (fun d => d.parameters.length) = some 0 := by decide +kernel
abbrev muX2_record : zM := (RX2, cX2_record, 2, wsX2_record, none, false)
theorem hy_X2_record : yX2_record.cls = RX2 ∧ yX2_record.cls ≠ "java/lang/invoke/MethodHandle" ∧ yX2_record.cls ≠ "java/lang/invoke/VarHandle" ∧ (parseMethodDescriptor yX2_record.desc).map (fun d => d.parameters.length) = some 1 := by decide +kernel
abbrev muX2_restore : zM := (RX2, cX2_restore, 2, wsX2_restore, none, false)
theorem hy_X2_restore : yX2_restore.cls = RX2 ∧ yX2_restore.cls ≠ "java/lang/invoke/MethodHandle" ∧ yX2_restore.cls ≠ "java/lang/invoke/VarHandle" ∧ (parseMethodDescriptor yX2_restore.desc).map (fun d => d.parameters.length) = some 1 := by decide +kernel
abbrev muX3_addDoor : zM := (RX3, cX3_addDoor, 7, wsX3_addDoor, (some .int), false)
theorem hy_X3_addDoor : yX3_addDoor.cls = RX3 ∧ yX3_addDoor.cls ≠ "java/lang/invoke/MethodHandle" ∧ yX3_addDoor.cls ≠ "java/lang/invoke/VarHandle" ∧ (parseMethodDescriptor yX3_addDoor.desc).map (fun d => d.parameters.length) = some 5 := by decide +kernel
abbrev muX3_addRoom : zM := (RX3, cX3_addRoom, 3, wsX3_addRoom, (some .int), false)
theorem hy_X3_addRoom : yX3_addRoom.cls = RX3 ∧ yX3_addRoom.cls ≠ "java/lang/invoke/MethodHandle" ∧ yX3_addRoom.cls ≠ "java/lang/invoke/VarHandle" ∧ (parseMethodDescriptor yX3_addRoom.desc).map (fun d => d.parameters.length) = some 2 := by decide +kernel
abbrev muX3_aimPlannedDoors : zM := (RX3, cX3_aimPlannedDoors, 4, wsX3_aimPlannedDoors, none, false)
theorem hy_X3_aimPlannedDoors : yX3_aimPlannedDoors.cls = RX3 ∧ yX3_aimPlannedDoors.cls ≠ "java/lang/invoke/MethodHandle" ∧ yX3_aimPlannedDoors.cls ≠ "java/lang/invoke/VarHandle" ∧ (parseMethodDescriptor yX3_aimPlannedDoors.desc).map (fun d => d.parameters.length) = some 0 := by decide +kernel
abbrev muX3_copyFrom : zM := (RX3, cX3_copyFrom, 3, wsX3_copyFrom, none, false)
theorem hy_X3_copyFrom : yX3_copyFrom.cls = RX3 ∧ yX3_copyFrom.cls ≠ "java/lang/invoke/MethodHandle" ∧ yX3_copyFrom.cls ≠ "java/lang/invoke/VarHandle" ∧ (parseMethodDescriptor yX3_copyFrom.desc).map (fun d => d.parameters.length) = some 1 := by decide +kernel
abbrev muX3_densityAt : zM := (RX3, cX3_densityAt, 3, wsX3_densityAt, (some .int), false)
theorem hy_X3_densityAt : yX3_densityAt.cls = RX3 ∧ yX3_densityAt.cls ≠ "java/lang/invoke/MethodHandle" ∧ yX3_densityAt.cls ≠ "java/lang/invoke/VarHandle" ∧ (parseMethodDescriptor yX3_densityAt.desc).map (fun d => d.parameters.length) = some 1 := by decide +kernel
abbrev muX3_doorAt : zM := (RX3, cX3_doorAt, 2, wsX3_doorAt, (some (.object "RoomTails$Door")), false)
theorem hy_X3_doorAt : yX3_doorAt.cls = RX3 ∧ yX3_doorAt.cls ≠ "java/lang/invoke/MethodHandle" ∧ yX3_doorAt.cls ≠ "java/lang/invoke/VarHandle" ∧ (parseMethodDescriptor yX3_doorAt.desc).map (fun d => d.parameters.length) = some 1 := by decide +kernel
abbrev muX3_doorsOf : zM := (RX3, cX3_doorsOf, 7, wsX3_doorsOf, (some .int), false)
theorem hy_X3_doorsOf : yX3_doorsOf.cls = RX3 ∧ yX3_doorsOf.cls ≠ "java/lang/invoke/MethodHandle" ∧ yX3_doorsOf.cls ≠ "java/lang/invoke/VarHandle" ∧ (parseMethodDescriptor yX3_doorsOf.desc).map (fun d => d.parameters.length) = some 1 := by decide +kernel
abbrev muX3_energyAbsorbed : zM := (RX3, cX3_energyAbsorbed, 6, wsX3_energyAbsorbed, (some .int), false)
theorem hy_X3_energyAbsorbed : yX3_energyAbsorbed.cls = RX3 ∧ yX3_energyAbsorbed.cls ≠ "java/lang/invoke/MethodHandle" ∧ yX3_energyAbsorbed.cls ≠ "java/lang/invoke/VarHandle" ∧ (parseMethodDescriptor yX3_energyAbsorbed.desc).map (fun d => d.parameters.length) = some 0 := by decide +kernel
abbrev muX3_energyGiven : zM := (RX3, cX3_energyGiven, 6, wsX3_energyGiven, (some .int), false)
theorem hy_X3_energyGiven : yX3_energyGiven.cls = RX3 ∧ yX3_energyGiven.cls ≠ "java/lang/invoke/MethodHandle" ∧ yX3_energyGiven.cls ≠ "java/lang/invoke/VarHandle" ∧ (parseMethodDescriptor yX3_energyGiven.desc).map (fun d => d.parameters.length) = some 0 := by decide +kernel
abbrev muX3_energyIn : zM := (RX3, cX3_energyIn, 3, wsX3_energyIn, (some .int), false)
theorem hy_X3_energyIn : yX3_energyIn.cls = RX3 ∧ yX3_energyIn.cls ≠ "java/lang/invoke/MethodHandle" ∧ yX3_energyIn.cls ≠ "java/lang/invoke/VarHandle" ∧ (parseMethodDescriptor yX3_energyIn.desc).map (fun d => d.parameters.length) = some 1 := by decide +kernel
abbrev muX3_energyInRooms : zM := (RX3, cX3_energyInRooms, 6, wsX3_energyInRooms, (some .int), false)
theorem hy_X3_energyInRooms : yX3_energyInRooms.cls = RX3 ∧ yX3_energyInRooms.cls ≠ "java/lang/invoke/MethodHandle" ∧ yX3_energyInRooms.cls ≠ "java/lang/invoke/VarHandle" ∧ (parseMethodDescriptor yX3_energyInRooms.desc).map (fun d => d.parameters.length) = some 0 := by decide +kernel
abbrev muX3_energyOnItsWay : zM := (RX3, cX3_energyOnItsWay, 6, wsX3_energyOnItsWay, (some .int), false)
theorem hy_X3_energyOnItsWay : yX3_energyOnItsWay.cls = RX3 ∧ yX3_energyOnItsWay.cls ≠ "java/lang/invoke/MethodHandle" ∧ yX3_energyOnItsWay.cls ≠ "java/lang/invoke/VarHandle" ∧ (parseMethodDescriptor yX3_energyOnItsWay.desc).map (fun d => d.parameters.length) = some 0 := by decide +kernel
abbrev muX3_giveSounds : zM := (RX3, cX3_giveSounds, 4, wsX3_giveSounds, none, false)
theorem hy_X3_giveSounds : yX3_giveSounds.cls = RX3 ∧ yX3_giveSounds.cls ≠ "java/lang/invoke/MethodHandle" ∧ yX3_giveSounds.cls ≠ "java/lang/invoke/VarHandle" ∧ (parseMethodDescriptor yX3_giveSounds.desc).map (fun d => d.parameters.length) = some 0 := by decide +kernel
abbrev muX3_goOn : zM := (RX3, cX3_goOn, 2, wsX3_goOn, none, false)
theorem hy_X3_goOn : yX3_goOn.cls = RX3 ∧ yX3_goOn.cls ≠ "java/lang/invoke/MethodHandle" ∧ yX3_goOn.cls ≠ "java/lang/invoke/VarHandle" ∧ (parseMethodDescriptor yX3_goOn.desc).map (fun d => d.parameters.length) = some 0 := by decide +kernel
abbrev muX3_hasWallFor : zM := (RX3, cX3_hasWallFor, 9, wsX3_hasWallFor, (some .boolean), false)
theorem hy_X3_hasWallFor : yX3_hasWallFor.cls = RX3 ∧ yX3_hasWallFor.cls ≠ "java/lang/invoke/MethodHandle" ∧ yX3_hasWallFor.cls ≠ "java/lang/invoke/VarHandle" ∧ (parseMethodDescriptor yX3_hasWallFor.desc).map (fun d => d.parameters.length) = some 2 := by decide +kernel
abbrev muX3_init : zM := (RX3, cX3_init, 2, wsX3_init, none, true)
theorem hy_X3_init : yX3_init.name = "<init>" ∧ yX3_init.cls ≠ "java/lang/invoke/MethodHandle" ∧ yX3_init.cls ≠ "java/lang/invoke/VarHandle" ∧ (parseMethodDescriptor yX3_init.desc).map (fun d => d.parameters.length) = some 0 := by decide +kernel
abbrev muX3_isQuiet : zM := (RX3, cX3_isQuiet, 1, wsX3_isQuiet, (some .boolean), false)
theorem hy_X3_isQuiet : yX3_isQuiet.cls = RX3 ∧ yX3_isQuiet.cls ≠ "java/lang/invoke/MethodHandle" ∧ yX3_isQuiet.cls ≠ "java/lang/invoke/VarHandle" ∧ (parseMethodDescriptor yX3_isQuiet.desc).map (fun d => d.parameters.length) = some 0 := by decide +kernel
abbrev muX3_letArrive : zM := (RX3, cX3_letArrive, 6, wsX3_letArrive, none, false)
theorem hy_X3_letArrive : yX3_letArrive.cls = RX3 ∧ yX3_letArrive.cls ≠ "java/lang/invoke/MethodHandle" ∧ yX3_letArrive.cls ≠ "java/lang/invoke/VarHandle" ∧ (parseMethodDescriptor yX3_letArrive.desc).map (fun d => d.parameters.length) = some 0 := by decide +kernel
abbrev muX3_moveDoors : zM := (RX3, cX3_moveDoors, 4, wsX3_moveDoors, none, false)
theorem hy_X3_moveDoors : yX3_moveDoors.cls = RX3 ∧ yX3_moveDoors.cls ≠ "java/lang/invoke/MethodHandle" ∧ yX3_moveDoors.cls ≠ "java/lang/invoke/VarHandle" ∧ (parseMethodDescriptor yX3_moveDoors.desc).map (fun d => d.parameters.length) = some 0 := by decide +kernel
abbrev muX3_reachedThroughOneMoreDoor : zM := (RX3, cX3_reachedThroughOneMoreDoor, 9, wsX3_reachedThroughOneMoreDoor, (some .int), false)
theorem hy_X3_reachedThroughOneMoreDoor : yX3_reachedThroughOneMoreDoor.cls = RX3 ∧ yX3_reachedThroughOneMoreDoor.cls ≠ "java/lang/invoke/MethodHandle" ∧ yX3_reachedThroughOneMoreDoor.cls ≠ "java/lang/invoke/VarHandle" ∧ (parseMethodDescriptor yX3_reachedThroughOneMoreDoor.desc).map (fun d => d.parameters.length) = some 1 := by decide +kernel
abbrev muX3_reasonToRefuse : zM := (RX3, cX3_reasonToRefuse, 4, wsX3_reasonToRefuse, (some .int), false)
theorem hy_X3_reasonToRefuse : yX3_reasonToRefuse.cls = RX3 ∧ yX3_reasonToRefuse.cls ≠ "java/lang/invoke/MethodHandle" ∧ yX3_reasonToRefuse.cls ≠ "java/lang/invoke/VarHandle" ∧ (parseMethodDescriptor yX3_reasonToRefuse.desc).map (fun d => d.parameters.length) = some 2 := by decide +kernel
abbrev muX3_roomAt : zM := (RX3, cX3_roomAt, 2, wsX3_roomAt, (some (.object "RoomTails$Room")), false)
theorem hy_X3_roomAt : yX3_roomAt.cls = RX3 ∧ yX3_roomAt.cls ≠ "java/lang/invoke/MethodHandle" ∧ yX3_roomAt.cls ≠ "java/lang/invoke/VarHandle" ∧ (parseMethodDescriptor yX3_roomAt.desc).map (fun d => d.parameters.length) = some 1 := by decide +kernel
abbrev muX3_sendThroughDoors : zM := (RX3, cX3_sendThroughDoors, 5, wsX3_sendThroughDoors, none, false)
theorem hy_X3_sendThroughDoors : yX3_sendThroughDoors.cls = RX3 ∧ yX3_sendThroughDoors.cls ≠ "java/lang/invoke/MethodHandle" ∧ yX3_sendThroughDoors.cls ≠ "java/lang/invoke/VarHandle" ∧ (parseMethodDescriptor yX3_sendThroughDoors.desc).map (fun d => d.parameters.length) = some 0 := by decide +kernel
abbrev muX3_take : zM := (RX3, cX3_take, 2, wsX3_take, none, false)
theorem hy_X3_take : yX3_take.cls = RX3 ∧ yX3_take.cls ≠ "java/lang/invoke/MethodHandle" ∧ yX3_take.cls ≠ "java/lang/invoke/VarHandle" ∧ (parseMethodDescriptor yX3_take.desc).map (fun d => d.parameters.length) = some 1 := by decide +kernel
abbrev muX3_wouldGo : zM := (RX3, cX3_wouldGo, 4, wsX3_wouldGo, (some .int), false)
theorem hy_X3_wouldGo : yX3_wouldGo.cls = RX3 ∧ yX3_wouldGo.cls ≠ "java/lang/invoke/MethodHandle" ∧ yX3_wouldGo.cls ≠ "java/lang/invoke/VarHandle" ∧ (parseMethodDescriptor yX3_wouldGo.desc).map (fun d => d.parameters.length) = some 2 := by decide +kernel
abbrev muX3_wouldStayAimed : zM := (RX3, cX3_wouldStayAimed, 4, wsX3_wouldStayAimed, (some .boolean), false)
theorem hy_X3_wouldStayAimed : yX3_wouldStayAimed.cls = RX3 ∧ yX3_wouldStayAimed.cls ≠ "java/lang/invoke/MethodHandle" ∧ yX3_wouldStayAimed.cls ≠ "java/lang/invoke/VarHandle" ∧ (parseMethodDescriptor yX3_wouldStayAimed.desc).map (fun d => d.parameters.length) = some 2 := by decide +kernel
abbrev muX4_copyFrom : zM := (RX4, cX4_copyFrom, 3, wsX4_copyFrom, none, false)
theorem hy_X4_copyFrom : yX4_copyFrom.cls = RX4 ∧ yX4_copyFrom.cls ≠ "java/lang/invoke/MethodHandle" ∧ yX4_copyFrom.cls ≠ "java/lang/invoke/VarHandle" ∧ (parseMethodDescriptor yX4_copyFrom.desc).map (fun d => d.parameters.length) = some 1 := by decide +kernel
abbrev muX4_drop : zM := (RX4, cX4_drop, 4, wsX4_drop, none, false)
theorem hy_X4_drop : yX4_drop.cls = RX4 ∧ yX4_drop.cls ≠ "java/lang/invoke/MethodHandle" ∧ yX4_drop.cls ≠ "java/lang/invoke/VarHandle" ∧ (parseMethodDescriptor yX4_drop.desc).map (fun d => d.parameters.length) = some 1 := by decide +kernel
abbrev muX4_dropEnded : zM := (RX4, cX4_dropEnded, 4, wsX4_dropEnded, none, false)
theorem hy_X4_dropEnded : yX4_dropEnded.cls = RX4 ∧ yX4_dropEnded.cls ≠ "java/lang/invoke/MethodHandle" ∧ yX4_dropEnded.cls ≠ "java/lang/invoke/VarHandle" ∧ (parseMethodDescriptor yX4_dropEnded.desc).map (fun d => d.parameters.length) = some 1 := by decide +kernel
abbrev muX4_dropSounds : zM := (RX4, cX4_dropSounds, 3, wsX4_dropSounds, none, false)
theorem hy_X4_dropSounds : yX4_dropSounds.cls = RX4 ∧ yX4_dropSounds.cls ≠ "java/lang/invoke/MethodHandle" ∧ yX4_dropSounds.cls ≠ "java/lang/invoke/VarHandle" ∧ (parseMethodDescriptor yX4_dropSounds.desc).map (fun d => d.parameters.length) = some 0 := by decide +kernel
abbrev muX4_entryAt : zM := (RX4, cX4_entryAt, 2, wsX4_entryAt, (some (.object "RoomTails$Entry")), false)
theorem hy_X4_entryAt : yX4_entryAt.cls = RX4 ∧ yX4_entryAt.cls ≠ "java/lang/invoke/MethodHandle" ∧ yX4_entryAt.cls ≠ "java/lang/invoke/VarHandle" ∧ (parseMethodDescriptor yX4_entryAt.desc).map (fun d => d.parameters.length) = some 1 := by decide +kernel
abbrev muX4_hasSound : zM := (RX4, cX4_hasSound, 2, wsX4_hasSound, (some .boolean), false)
theorem hy_X4_hasSound : yX4_hasSound.cls = RX4 ∧ yX4_hasSound.cls ≠ "java/lang/invoke/MethodHandle" ∧ yX4_hasSound.cls ≠ "java/lang/invoke/VarHandle" ∧ (parseMethodDescriptor yX4_hasSound.desc).map (fun d => d.parameters.length) = some 0 := by decide +kernel
abbrev muX4_init : zM := (RX4, cX4_init, 2, wsX4_init, none, true)
theorem hy_X4_init : yX4_init.name = "<init>" ∧ yX4_init.cls ≠ "java/lang/invoke/MethodHandle" ∧ yX4_init.cls ≠ "java/lang/invoke/VarHandle" ∧ (parseMethodDescriptor yX4_init.desc).map (fun d => d.parameters.length) = some 0 := by decide +kernel
abbrev muX4_insert : zM := (RX4, cX4_insert, 4, wsX4_insert, none, false)
theorem hy_X4_insert : yX4_insert.cls = RX4 ∧ yX4_insert.cls ≠ "java/lang/invoke/MethodHandle" ∧ yX4_insert.cls ≠ "java/lang/invoke/VarHandle" ∧ (parseMethodDescriptor yX4_insert.desc).map (fun d => d.parameters.length) = some 1 := by decide +kernel
abbrev muX4_isFull : zM := (RX4, cX4_isFull, 1, wsX4_isFull, (some .boolean), false)
theorem hy_X4_isFull : yX4_isFull.cls = RX4 ∧ yX4_isFull.cls ≠ "java/lang/invoke/MethodHandle" ∧ yX4_isFull.cls ≠ "java/lang/invoke/VarHandle" ∧ (parseMethodDescriptor yX4_isFull.desc).map (fun d => d.parameters.length) = some 0 := by decide +kernel
abbrev muX4_soundsHeard : zM := (RX4, cX4_soundsHeard, 5, wsX4_soundsHeard, (some .int), false)
theorem hy_X4_soundsHeard : yX4_soundsHeard.cls = RX4 ∧ yX4_soundsHeard.cls ≠ "java/lang/invoke/MethodHandle" ∧ yX4_soundsHeard.cls ≠ "java/lang/invoke/VarHandle" ∧ (parseMethodDescriptor yX4_soundsHeard.desc).map (fun d => d.parameters.length) = some 2 := by decide +kernel
abbrev muX5_absorbShare : zM := (RX5, cX5_absorbShare, 2, wsX5_absorbShare, none, false)
theorem hy_X5_absorbShare : yX5_absorbShare.cls = RX5 ∧ yX5_absorbShare.cls ≠ "java/lang/invoke/MethodHandle" ∧ yX5_absorbShare.cls ≠ "java/lang/invoke/VarHandle" ∧ (parseMethodDescriptor yX5_absorbShare.desc).map (fun d => d.parameters.length) = some 0 := by decide +kernel
abbrev muX5_begin : zM := (RX5, cX5_begin, 4, wsX5_begin, none, false)
theorem hy_X5_begin : yX5_begin.cls = RX5 ∧ yX5_begin.cls ≠ "java/lang/invoke/MethodHandle" ∧ yX5_begin.cls ≠ "java/lang/invoke/VarHandle" ∧ (parseMethodDescriptor yX5_begin.desc).map (fun d => d.parameters.length) = some 3 := by decide +kernel
abbrev muX5_copyFrom : zM := (RX5, cX5_copyFrom, 2, wsX5_copyFrom, none, false)
theorem hy_X5_copyFrom : yX5_copyFrom.cls = RX5 ∧ yX5_copyFrom.cls ≠ "java/lang/invoke/MethodHandle" ∧ yX5_copyFrom.cls ≠ "java/lang/invoke/VarHandle" ∧ (parseMethodDescriptor yX5_copyFrom.desc).map (fun d => d.parameters.length) = some 1 := by decide +kernel
abbrev muX5_density : zM := (RX5, cX5_density, 1, wsX5_density, (some .int), false)
theorem hy_X5_density : yX5_density.cls = RX5 ∧ yX5_density.cls ≠ "java/lang/invoke/MethodHandle" ∧ yX5_density.cls ≠ "java/lang/invoke/VarHandle" ∧ (parseMethodDescriptor yX5_density.desc).map (fun d => d.parameters.length) = some 0 := by decide +kernel
abbrev muX5_energyAheadOf : zM := (RX5, cX5_energyAheadOf, 2, wsX5_energyAheadOf, (some .int), false)
theorem hy_X5_energyAheadOf : yX5_energyAheadOf.cls = RX5 ∧ yX5_energyAheadOf.cls ≠ "java/lang/invoke/MethodHandle" ∧ yX5_energyAheadOf.cls ≠ "java/lang/invoke/VarHandle" ∧ (parseMethodDescriptor yX5_energyAheadOf.desc).map (fun d => d.parameters.length) = some 1 := by decide +kernel
abbrev muX5_hear : zM := (RX5, cX5_hear, 2, wsX5_hear, none, false)
theorem hy_X5_hear : yX5_hear.cls = RX5 ∧ yX5_hear.cls ≠ "java/lang/invoke/MethodHandle" ∧ yX5_hear.cls ≠ "java/lang/invoke/VarHandle" ∧ (parseMethodDescriptor yX5_hear.desc).map (fun d => d.parameters.length) = some 1 := by decide +kernel
abbrev muX5_init : zM := (RX5, cX5_init, 1, wsX5_init, none, true)
theorem hy_X5_init : yX5_init.name = "<init>" ∧ yX5_init.cls ≠ "java/lang/invoke/MethodHandle" ∧ yX5_init.cls ≠ "java/lang/invoke/VarHandle" ∧ (parseMethodDescriptor yX5_init.desc).map (fun d => d.parameters.length) = some 0 := by decide +kernel
abbrev muX5_keepEnergy : zM := (RX5, cX5_keepEnergy, 2, wsX5_keepEnergy, none, false)
theorem hy_X5_keepEnergy : yX5_keepEnergy.cls = RX5 ∧ yX5_keepEnergy.cls ≠ "java/lang/invoke/MethodHandle" ∧ yX5_keepEnergy.cls ≠ "java/lang/invoke/VarHandle" ∧ (parseMethodDescriptor yX5_keepEnergy.desc).map (fun d => d.parameters.length) = some 1 := by decide +kernel
abbrev muX5_shareThrough : zM := (RX5, cX5_shareThrough, 2, wsX5_shareThrough, (some .int), false)
theorem hy_X5_shareThrough : yX5_shareThrough.cls = RX5 ∧ yX5_shareThrough.cls ≠ "java/lang/invoke/MethodHandle" ∧ yX5_shareThrough.cls ≠ "java/lang/invoke/VarHandle" ∧ (parseMethodDescriptor yX5_shareThrough.desc).map (fun d => d.parameters.length) = some 1 := by decide +kernel
abbrev muX6_append : zM := (RX6, cX6_append, 2, wsX6_append, none, false)
theorem hy_X6_append : yX6_append.cls = RX6 ∧ yX6_append.cls ≠ "java/lang/invoke/MethodHandle" ∧ yX6_append.cls ≠ "java/lang/invoke/VarHandle" ∧ (parseMethodDescriptor yX6_append.desc).map (fun d => d.parameters.length) = some 1 := by decide +kernel
abbrev muX6_check : zM := (RX6, cX6_check, 5, wsX6_check, none, false)
theorem hy_X6_check : yX6_check.cls = RX6 ∧ yX6_check.cls ≠ "java/lang/invoke/MethodHandle" ∧ yX6_check.cls ≠ "java/lang/invoke/VarHandle" ∧ (parseMethodDescriptor yX6_check.desc).map (fun d => d.parameters.length) = some 1 := by decide +kernel
abbrev muX6_giveTo : zM := (RX6, cX6_giveTo, 4, wsX6_giveTo, (some .int), false)
theorem hy_X6_giveTo : yX6_giveTo.cls = RX6 ∧ yX6_giveTo.cls ≠ "java/lang/invoke/MethodHandle" ∧ yX6_giveTo.cls ≠ "java/lang/invoke/VarHandle" ∧ (parseMethodDescriptor yX6_giveTo.desc).map (fun d => d.parameters.length) = some 1 := by decide +kernel
abbrev muX6_init : zM := (RX6, cX6_init, 1, wsX6_init, none, true)
theorem hy_X6_init : yX6_init.name = "<init>" ∧ yX6_init.cls ≠ "java/lang/invoke/MethodHandle" ∧ yX6_init.cls ≠ "java/lang/invoke/VarHandle" ∧ (parseMethodDescriptor yX6_init.desc).map (fun d => d.parameters.length) = some 0 := by decide +kernel
abbrev muX6_readEntry : zM := (RX6, cX6_readEntry, 1, wsX6_readEntry, (some .boolean), false)
theorem hy_X6_readEntry : yX6_readEntry.cls = RX6 ∧ yX6_readEntry.cls ≠ "java/lang/invoke/MethodHandle" ∧ yX6_readEntry.cls ≠ "java/lang/invoke/VarHandle" ∧ (parseMethodDescriptor yX6_readEntry.desc).map (fun d => d.parameters.length) = some 0 := by decide +kernel
abbrev muX6_readNumber : zM := (RX6, cX6_readNumber, 5, wsX6_readNumber, (some .int), false)
theorem hy_X6_readNumber : yX6_readNumber.cls = RX6 ∧ yX6_readNumber.cls ≠ "java/lang/invoke/MethodHandle" ∧ yX6_readNumber.cls ≠ "java/lang/invoke/VarHandle" ∧ (parseMethodDescriptor yX6_readNumber.desc).map (fun d => d.parameters.length) = some 1 := by decide +kernel
abbrev muX6_readSign : zM := (RX6, cX6_readSign, 2, wsX6_readSign, (some .boolean), false)
theorem hy_X6_readSign : yX6_readSign.cls = RX6 ∧ yX6_readSign.cls ≠ "java/lang/invoke/MethodHandle" ∧ yX6_readSign.cls ≠ "java/lang/invoke/VarHandle" ∧ (parseMethodDescriptor yX6_readSign.desc).map (fun d => d.parameters.length) = some 1 := by decide +kernel
abbrev muX6_readSound : zM := (RX6, cX6_readSound, 6, wsX6_readSound, (some .boolean), false)
theorem hy_X6_readSound : yX6_readSound.cls = RX6 ∧ yX6_readSound.cls ≠ "java/lang/invoke/MethodHandle" ∧ yX6_readSound.cls ≠ "java/lang/invoke/VarHandle" ∧ (parseMethodDescriptor yX6_readSound.desc).map (fun d => d.parameters.length) = some 0 := by decide +kernel
abbrev muX6_readTarget : zM := (RX6, cX6_readTarget, 5, wsX6_readTarget, (some .boolean), false)
theorem hy_X6_readTarget : yX6_readTarget.cls = RX6 ∧ yX6_readTarget.cls ≠ "java/lang/invoke/MethodHandle" ∧ yX6_readTarget.cls ≠ "java/lang/invoke/VarHandle" ∧ (parseMethodDescriptor yX6_readTarget.desc).map (fun d => d.parameters.length) = some 0 := by decide +kernel
abbrev muX6_reasonAgainst : zM := (RX6, cX6_reasonAgainst, 6, wsX6_reasonAgainst, (some .int), false)
theorem hy_X6_reasonAgainst : yX6_reasonAgainst.cls = RX6 ∧ yX6_reasonAgainst.cls ≠ "java/lang/invoke/MethodHandle" ∧ yX6_reasonAgainst.cls ≠ "java/lang/invoke/VarHandle" ∧ (parseMethodDescriptor yX6_reasonAgainst.desc).map (fun d => d.parameters.length) = some 3 := by decide +kernel
abbrev muX7_bestDoor : zM := (RX7, cX7_bestDoor, 10, wsX7_bestDoor, (some .int), false)
theorem hy_X7_bestDoor : yX7_bestDoor.cls = RX7 ∧ yX7_bestDoor.cls ≠ "java/lang/invoke/MethodHandle" ∧ yX7_bestDoor.cls ≠ "java/lang/invoke/VarHandle" ∧ (parseMethodDescriptor yX7_bestDoor.desc).map (fun d => d.parameters.length) = some 2 := by decide +kernel
abbrev muX7_cancel : zM := (RX7, cX7_cancel, 2, wsX7_cancel, (some .int), false)
theorem hy_X7_cancel : yX7_cancel.cls = RX7 ∧ yX7_cancel.cls ≠ "java/lang/invoke/MethodHandle" ∧ yX7_cancel.cls ≠ "java/lang/invoke/VarHandle" ∧ (parseMethodDescriptor yX7_cancel.desc).map (fun d => d.parameters.length) = some 1 := by decide +kernel
abbrev muX7_clearText : zM := (RX7, cX7_clearText, 2, wsX7_clearText, (some .int), false)
theorem hy_X7_clearText : yX7_clearText.cls = RX7 ∧ yX7_clearText.cls ≠ "java/lang/invoke/MethodHandle" ∧ yX7_clearText.cls ≠ "java/lang/invoke/VarHandle" ∧ (parseMethodDescriptor yX7_clearText.desc).map (fun d => d.parameters.length) = some 0 := by decide +kernel
abbrev muX7_count : zM := (RX7, cX7_count, 2, wsX7_count, (some .int), false)
theorem hy_X7_count : yX7_count.cls = RX7 ∧ yX7_count.cls ≠ "java/lang/invoke/MethodHandle" ∧ yX7_count.cls ≠ "java/lang/invoke/VarHandle" ∧ (parseMethodDescriptor yX7_count.desc).map (fun d => d.parameters.length) = some 1 := by decide +kernel
abbrev muX7_door : zM := (RX7, cX7_door, 6, wsX7_door, (some .int), false)
theorem hy_X7_door : yX7_door.cls = RX7 ∧ yX7_door.cls ≠ "java/lang/invoke/MethodHandle" ∧ yX7_door.cls ≠ "java/lang/invoke/VarHandle" ∧ (parseMethodDescriptor yX7_door.desc).map (fun d => d.parameters.length) = some 5 := by decide +kernel
abbrev muX7_doorOf : zM := (RX7, cX7_doorOf, 4, wsX7_doorOf, (some .int), false)
theorem hy_X7_doorOf : yX7_doorOf.cls = RX7 ∧ yX7_doorOf.cls ≠ "java/lang/invoke/MethodHandle" ∧ yX7_doorOf.cls ≠ "java/lang/invoke/VarHandle" ∧ (parseMethodDescriptor yX7_doorOf.desc).map (fun d => d.parameters.length) = some 2 := by decide +kernel
abbrev muX7_fault : zM := (RX7, cX7_fault, 2, wsX7_fault, (some .int), false)
theorem hy_X7_fault : yX7_fault.cls = RX7 ∧ yX7_fault.cls ≠ "java/lang/invoke/MethodHandle" ∧ yX7_fault.cls ≠ "java/lang/invoke/VarHandle" ∧ (parseMethodDescriptor yX7_fault.desc).map (fun d => d.parameters.length) = some 1 := by decide +kernel
abbrev muX7_fell : zM := (RX7, cX7_fell, 6, wsX7_fell, (some .int), false)
theorem hy_X7_fell : yX7_fell.cls = RX7 ∧ yX7_fell.cls ≠ "java/lang/invoke/MethodHandle" ∧ yX7_fell.cls ≠ "java/lang/invoke/VarHandle" ∧ (parseMethodDescriptor yX7_fell.desc).map (fun d => d.parameters.length) = some 2 := by decide +kernel
abbrev muX7_init : zM := (RX7, cX7_init, 1, wsX7_init, none, true)
theorem hy_X7_init : yX7_init.name = "<init>" ∧ yX7_init.cls ≠ "java/lang/invoke/MethodHandle" ∧ yX7_init.cls ≠ "java/lang/invoke/VarHandle" ∧ (parseMethodDescriptor yX7_init.desc).map (fun d => d.parameters.length) = some 0 := by decide +kernel
abbrev muX7_isRoomOrOutside : zM := (RX7, cX7_isRoomOrOutside, 2, wsX7_isRoomOrOutside, (some .boolean), false)
theorem hy_X7_isRoomOrOutside : yX7_isRoomOrOutside.cls = RX7 ∧ yX7_isRoomOrOutside.cls ≠ "java/lang/invoke/MethodHandle" ∧ yX7_isRoomOrOutside.cls ≠ "java/lang/invoke/VarHandle" ∧ (parseMethodDescriptor yX7_isRoomOrOutside.desc).map (fun d => d.parameters.length) = some 1 := by decide +kernel
abbrev muX7_isWithin : zM := (RX7, cX7_isWithin, 3, wsX7_isWithin, (some .boolean), false)
theorem hy_X7_isWithin : yX7_isWithin.cls ≠ "java/lang/invoke/MethodHandle" ∧ yX7_isWithin.cls ≠ "java/lang/invoke/VarHandle" ∧ (parseMethodDescriptor yX7_isWithin.desc).map (fun d => d.parameters.length) = some 3 := by decide +kernel
abbrev muX7_levelOf : zM := (RX7, cX7_levelOf, 3, wsX7_levelOf, (some .int), false)
theorem hy_X7_levelOf : yX7_levelOf.cls ≠ "java/lang/invoke/MethodHandle" ∧ yX7_levelOf.cls ≠ "java/lang/invoke/VarHandle" ∧ (parseMethodDescriptor yX7_levelOf.desc).map (fun d => d.parameters.length) = some 1 := by decide +kernel
abbrev muX7_load : zM := (RX7, cX7_load, 1, wsX7_load, (some .int), false)
theorem hy_X7_load : yX7_load.cls = RX7 ∧ yX7_load.cls ≠ "java/lang/invoke/MethodHandle" ∧ yX7_load.cls ≠ "java/lang/invoke/VarHandle" ∧ (parseMethodDescriptor yX7_load.desc).map (fun d => d.parameters.length) = some 0 := by decide +kernel
abbrev muX7_lock : zM := (RX7, cX7_lock, 4, wsX7_lock, (some .int), false)
theorem hy_X7_lock : yX7_lock.cls = RX7 ∧ yX7_lock.cls ≠ "java/lang/invoke/MethodHandle" ∧ yX7_lock.cls ≠ "java/lang/invoke/VarHandle" ∧ (parseMethodDescriptor yX7_lock.desc).map (fun d => d.parameters.length) = some 2 := by decide +kernel
abbrev muX7_lookAheadWithoutSounds : zM := (RX7, cX7_lookAheadWithoutSounds, 1, wsX7_lookAheadWithoutSounds, none, false)
theorem hy_X7_lookAheadWithoutSounds : yX7_lookAheadWithoutSounds.cls = RX7 ∧ yX7_lookAheadWithoutSounds.cls ≠ "java/lang/invoke/MethodHandle" ∧ yX7_lookAheadWithoutSounds.cls ≠ "java/lang/invoke/VarHandle" ∧ (parseMethodDescriptor yX7_lookAheadWithoutSounds.desc).map (fun d => d.parameters.length) = some 0 := by decide +kernel
abbrev muX7_open : zM := (RX7, cX7_open, 5, wsX7_open, (some .int), false)
theorem hy_X7_open : yX7_open.cls = RX7 ∧ yX7_open.cls ≠ "java/lang/invoke/MethodHandle" ∧ yX7_open.cls ≠ "java/lang/invoke/VarHandle" ∧ (parseMethodDescriptor yX7_open.desc).map (fun d => d.parameters.length) = some 2 := by decide +kernel
abbrev muX7_pass : zM := (RX7, cX7_pass, 3, wsX7_pass, (some .int), false)
theorem hy_X7_pass : yX7_pass.cls = RX7 ∧ yX7_pass.cls ≠ "java/lang/invoke/MethodHandle" ∧ yX7_pass.cls ≠ "java/lang/invoke/VarHandle" ∧ (parseMethodDescriptor yX7_pass.desc).map (fun d => d.parameters.length) = some 1 := by decide +kernel
abbrev muX7_peak : zM := (RX7, cX7_peak, 7, wsX7_peak, (some .int), false)
theorem hy_X7_peak : yX7_peak.cls = RX7 ∧ yX7_peak.cls ≠ "java/lang/invoke/MethodHandle" ∧ yX7_peak.cls ≠ "java/lang/invoke/VarHandle" ∧ (parseMethodDescriptor yX7_peak.desc).map (fun d => d.parameters.length) = some 2 := by decide +kernel
abbrev muX7_plan : zM := (RX7, cX7_plan, 4, wsX7_plan, (some .int), false)
theorem hy_X7_plan : yX7_plan.cls = RX7 ∧ yX7_plan.cls ≠ "java/lang/invoke/MethodHandle" ∧ yX7_plan.cls ≠ "java/lang/invoke/VarHandle" ∧ (parseMethodDescriptor yX7_plan.desc).map (fun d => d.parameters.length) = some 2 := by decide +kernel
abbrev muX7_planDoor : zM := (RX7, cX7_planDoor, 4, wsX7_planDoor, (some .int), false)
theorem hy_X7_planDoor : yX7_planDoor.cls = RX7 ∧ yX7_planDoor.cls ≠ "java/lang/invoke/MethodHandle" ∧ yX7_planDoor.cls ≠ "java/lang/invoke/VarHandle" ∧ (parseMethodDescriptor yX7_planDoor.desc).map (fun d => d.parameters.length) = some 3 := by decide +kernel
abbrev muX7_quiet : zM := (RX7, cX7_quiet, 2, wsX7_quiet, (some .int), false)
theorem hy_X7_quiet : yX7_quiet.cls = RX7 ∧ yX7_quiet.cls ≠ "java/lang/invoke/MethodHandle" ∧ yX7_quiet.cls ≠ "java/lang/invoke/VarHandle" ∧ (parseMethodDescriptor yX7_quiet.desc).map (fun d => d.parameters.length) = some 0 := by decide +kernel
abbrev muX7_refusal : zM := (RX7, cX7_refusal, 4, wsX7_refusal, (some .int), false)
theorem hy_X7_refusal : yX7_refusal.cls = RX7 ∧ yX7_refusal.cls ≠ "java/lang/invoke/MethodHandle" ∧ yX7_refusal.cls ≠ "java/lang/invoke/VarHandle" ∧ (parseMethodDescriptor yX7_refusal.desc).map (fun d => d.parameters.length) = some 2 := by decide +kernel
abbrev muX7_rise : zM := (RX7, cX7_rise, 5, wsX7_rise, (some .int), false)
theorem hy_X7_rise : yX7_rise.cls = RX7 ∧ yX7_rise.cls ≠ "java/lang/invoke/MethodHandle" ∧ yX7_rise.cls ≠ "java/lang/invoke/VarHandle" ∧ (parseMethodDescriptor yX7_rise.desc).map (fun d => d.parameters.length) = some 1 := by decide +kernel
abbrev muX7_room : zM := (RX7, cX7_room, 3, wsX7_room, (some .int), false)
theorem hy_X7_room : yX7_room.cls = RX7 ∧ yX7_room.cls ≠ "java/lang/invoke/MethodHandle" ∧ yX7_room.cls ≠ "java/lang/invoke/VarHandle" ∧ (parseMethodDescriptor yX7_room.desc).map (fun d => d.parameters.length) = some 2 := by decide +kernel
abbrev muX7_roomOf : zM := (RX7, cX7_roomOf, 4, wsX7_roomOf, (some .int), false)
theorem hy_X7_roomOf : yX7_roomOf.cls = RX7 ∧ yX7_roomOf.cls ≠ "java/lang/invoke/MethodHandle" ∧ yX7_roomOf.cls ≠ "java/lang/invoke/VarHandle" ∧ (parseMethodDescriptor yX7_roomOf.desc).map (fun d => d.parameters.length) = some 2 := by decide +kernel
abbrev muX7_set : zM := (RX7, cX7_set, 4, wsX7_set, (some .int), false)
theorem hy_X7_set : yX7_set.cls = RX7 ∧ yX7_set.cls ≠ "java/lang/invoke/MethodHandle" ∧ yX7_set.cls ≠ "java/lang/invoke/VarHandle" ∧ (parseMethodDescriptor yX7_set.desc).map (fun d => d.parameters.length) = some 2 := by decide +kernel
abbrev muX7_sound : zM := (RX7, cX7_sound, 5, wsX7_sound, (some .int), false)
theorem hy_X7_sound : yX7_sound.cls = RX7 ∧ yX7_sound.cls ≠ "java/lang/invoke/MethodHandle" ∧ yX7_sound.cls ≠ "java/lang/invoke/VarHandle" ∧ (parseMethodDescriptor yX7_sound.desc).map (fun d => d.parameters.length) = some 4 := by decide +kernel
abbrev muX7_tail : zM := (RX7, cX7_tail, 3, wsX7_tail, (some .int), false)
theorem hy_X7_tail : yX7_tail.cls = RX7 ∧ yX7_tail.cls ≠ "java/lang/invoke/MethodHandle" ∧ yX7_tail.cls ≠ "java/lang/invoke/VarHandle" ∧ (parseMethodDescriptor yX7_tail.desc).map (fun d => d.parameters.length) = some 1 := by decide +kernel
abbrev muX7_tailAhead : zM := (RX7, cX7_tailAhead, 5, wsX7_tailAhead, (some .int), false)
theorem hy_X7_tailAhead : yX7_tailAhead.cls = RX7 ∧ yX7_tailAhead.cls ≠ "java/lang/invoke/MethodHandle" ∧ yX7_tailAhead.cls ≠ "java/lang/invoke/VarHandle" ∧ (parseMethodDescriptor yX7_tailAhead.desc).map (fun d => d.parameters.length) = some 2 := by decide +kernel
abbrev muX7_tailIfAimed : zM := (RX7, cX7_tailIfAimed, 6, wsX7_tailIfAimed, (some .int), false)
theorem hy_X7_tailIfAimed : yX7_tailIfAimed.cls = RX7 ∧ yX7_tailIfAimed.cls ≠ "java/lang/invoke/MethodHandle" ∧ yX7_tailIfAimed.cls ≠ "java/lang/invoke/VarHandle" ∧ (parseMethodDescriptor yX7_tailIfAimed.desc).map (fun d => d.parameters.length) = some 4 := by decide +kernel
abbrev muX7_tailWith : zM := (RX7, cX7_tailWith, 5, wsX7_tailWith, (some .int), false)
theorem hy_X7_tailWith : yX7_tailWith.cls = RX7 ∧ yX7_tailWith.cls ≠ "java/lang/invoke/MethodHandle" ∧ yX7_tailWith.cls ≠ "java/lang/invoke/VarHandle" ∧ (parseMethodDescriptor yX7_tailWith.desc).map (fun d => d.parameters.length) = some 3 := by decide +kernel
abbrev muX7_type : zM := (RX7, cX7_type, 2, wsX7_type, (some .int), false)
theorem hy_X7_type : yX7_type.cls = RX7 ∧ yX7_type.cls ≠ "java/lang/invoke/MethodHandle" ∧ yX7_type.cls ≠ "java/lang/invoke/VarHandle" ∧ (parseMethodDescriptor yX7_type.desc).map (fun d => d.parameters.length) = some 1 := by decide +kernel
abbrev muX7_undo : zM := (RX7, cX7_undo, 1, wsX7_undo, (some .int), false)
theorem hy_X7_undo : yX7_undo.cls = RX7 ∧ yX7_undo.cls ≠ "java/lang/invoke/MethodHandle" ∧ yX7_undo.cls ≠ "java/lang/invoke/VarHandle" ∧ (parseMethodDescriptor yX7_undo.desc).map (fun d => d.parameters.length) = some 0 := by decide +kernel
abbrev muX7_way : zM := (RX7, cX7_way, 5, wsX7_way, (some .int), false)
theorem hy_X7_way : yX7_way.cls = RX7 ∧ yX7_way.cls ≠ "java/lang/invoke/MethodHandle" ∧ yX7_way.cls ≠ "java/lang/invoke/VarHandle" ∧ (parseMethodDescriptor yX7_way.desc).map (fun d => d.parameters.length) = some 2 := by decide +kernel
abbrev muX8_absorbs : zM := (RX8, cX8_absorbs, 4, wsX8_absorbs, none, false)
theorem hy_X8_absorbs : yX8_absorbs.cls ≠ "java/lang/invoke/MethodHandle" ∧ yX8_absorbs.cls ≠ "java/lang/invoke/VarHandle" ∧ (parseMethodDescriptor yX8_absorbs.desc).map (fun d => d.parameters.length) = some 1 := by decide +kernel
abbrev muX8_allOnWay : zM := (RX8, cX8_allOnWay, 3, wsX8_allOnWay, (some .int), false)
theorem hy_X8_allOnWay : yX8_allOnWay.cls ≠ "java/lang/invoke/MethodHandle" ∧ yX8_allOnWay.cls ≠ "java/lang/invoke/VarHandle" ∧ (parseMethodDescriptor yX8_allOnWay.desc).map (fun d => d.parameters.length) = some 1 := by decide +kernel
abbrev muX8_areasOf : zM := (RX8, cX8_areasOf, 4, wsX8_areasOf, (some .int), false)
theorem hy_X8_areasOf : yX8_areasOf.cls = RX8 ∧ yX8_areasOf.cls ≠ "java/lang/invoke/MethodHandle" ∧ yX8_areasOf.cls ≠ "java/lang/invoke/VarHandle" ∧ (parseMethodDescriptor yX8_areasOf.desc).map (fun d => d.parameters.length) = some 1 := by decide +kernel
abbrev muX8_arrive : zM := (RX8, cX8_arrive, 6, wsX8_arrive, none, false)
theorem hy_X8_arrive : yX8_arrive.cls ≠ "java/lang/invoke/MethodHandle" ∧ yX8_arrive.cls ≠ "java/lang/invoke/VarHandle" ∧ (parseMethodDescriptor yX8_arrive.desc).map (fun d => d.parameters.length) = some 3 := by decide +kernel
abbrev muX8_begins : zM := (RX8, cX8_begins, 3, wsX8_begins, none, false)
theorem hy_X8_begins : yX8_begins.cls = RX8 ∧ yX8_begins.cls ≠ "java/lang/invoke/MethodHandle" ∧ yX8_begins.cls ≠ "java/lang/invoke/VarHandle" ∧ (parseMethodDescriptor yX8_begins.desc).map (fun d => d.parameters.length) = some 1 := by decide +kernel
abbrev muX8_bestDoor : zM := (RX8, cX8_bestDoor, 8, wsX8_bestDoor, (some .int), false)
theorem hy_X8_bestDoor : yX8_bestDoor.cls = RX8 ∧ yX8_bestDoor.cls ≠ "java/lang/invoke/MethodHandle" ∧ yX8_bestDoor.cls ≠ "java/lang/invoke/VarHandle" ∧ (parseMethodDescriptor yX8_bestDoor.desc).map (fun d => d.parameters.length) = some 2 := by decide +kernel
abbrev muX8_cancel : zM := (RX8, cX8_cancel, 2, wsX8_cancel, (some .int), false)
theorem hy_X8_cancel : yX8_cancel.cls = RX8 ∧ yX8_cancel.cls ≠ "java/lang/invoke/MethodHandle" ∧ yX8_cancel.cls ≠ "java/lang/invoke/VarHandle" ∧ (parseMethodDescriptor yX8_cancel.desc).map (fun d => d.parameters.length) = some 1 := by decide +kernel
abbrev muX8_changes : zM := (RX8, cX8_changes, 2, wsX8_changes, none, false)
theorem hy_X8_changes : yX8_changes.cls = RX8 ∧ yX8_changes.cls ≠ "java/lang/invoke/MethodHandle" ∧ yX8_changes.cls ≠ "java/lang/invoke/VarHandle" ∧ (parseMethodDescriptor yX8_changes.desc).map (fun d => d.parameters.length) = some 0 := by decide +kernel
abbrev muX8_clearText : zM := (RX8, cX8_clearText, 2, wsX8_clearText, (some .int), false)
theorem hy_X8_clearText : yX8_clearText.cls = RX8 ∧ yX8_clearText.cls ≠ "java/lang/invoke/MethodHandle" ∧ yX8_clearText.cls ≠ "java/lang/invoke/VarHandle" ∧ (parseMethodDescriptor yX8_clearText.desc).map (fun d => d.parameters.length) = some 0 := by decide +kernel
abbrev muX8_count : zM := (RX8, cX8_count, 2, wsX8_count, (some .int), false)
theorem hy_X8_count : yX8_count.cls = RX8 ∧ yX8_count.cls ≠ "java/lang/invoke/MethodHandle" ∧ yX8_count.cls ≠ "java/lang/invoke/VarHandle" ∧ (parseMethodDescriptor yX8_count.desc).map (fun d => d.parameters.length) = some 1 := by decide +kernel
abbrev muX8_densityOf : zM := (RX8, cX8_densityOf, 2, wsX8_densityOf, (some .int), false)
theorem hy_X8_densityOf : yX8_densityOf.cls = RX8 ∧ yX8_densityOf.cls ≠ "java/lang/invoke/MethodHandle" ∧ yX8_densityOf.cls ≠ "java/lang/invoke/VarHandle" ∧ (parseMethodDescriptor yX8_densityOf.desc).map (fun d => d.parameters.length) = some 1 := by decide +kernel
abbrev muX8_door : zM := (RX8, cX8_door, 9, wsX8_door, (some .int), false)
theorem hy_X8_door : yX8_door.cls = RX8 ∧ yX8_door.cls ≠ "java/lang/invoke/MethodHandle" ∧ yX8_door.cls ≠ "java/lang/invoke/VarHandle" ∧ (parseMethodDescriptor yX8_door.desc).map (fun d => d.parameters.length) = some 5 := by decide +kernel
abbrev muX8_doorOf : zM := (RX8, cX8_doorOf, 3, wsX8_doorOf, (some .int), false)
theorem hy_X8_doorOf : yX8_doorOf.cls = RX8 ∧ yX8_doorOf.cls ≠ "java/lang/invoke/MethodHandle" ∧ yX8_doorOf.cls ≠ "java/lang/invoke/VarHandle" ∧ (parseMethodDescriptor yX8_doorOf.desc).map (fun d => d.parameters.length) = some 2 := by decide +kernel
abbrev muX8_doorsOf : zM := (RX8, cX8_doorsOf, 4, wsX8_doorsOf, (some .int), false)
theorem hy_X8_doorsOf : yX8_doorsOf.cls = RX8 ∧ yX8_doorsOf.cls ≠ "java/lang/invoke/MethodHandle" ∧ yX8_doorsOf.cls ≠ "java/lang/invoke/VarHandle" ∧ (parseMethodDescriptor yX8_doorsOf.desc).map (fun d => d.parameters.length) = some 1 := by decide +kernel
abbrev muX8_entry : zM := (RX8, cX8_entry, 3, wsX8_entry, (some .int), false)
theorem hy_X8_entry : yX8_entry.cls ≠ "java/lang/invoke/MethodHandle" ∧ yX8_entry.cls ≠ "java/lang/invoke/VarHandle" ∧ (parseMethodDescriptor yX8_entry.desc).map (fun d => d.parameters.length) = some 3 := by decide +kernel
abbrev muX8_fault : zM := (RX8, cX8_fault, 3, wsX8_fault, (some .int), false)
theorem hy_X8_fault : yX8_fault.cls = RX8 ∧ yX8_fault.cls ≠ "java/lang/invoke/MethodHandle" ∧ yX8_fault.cls ≠ "java/lang/invoke/VarHandle" ∧ (parseMethodDescriptor yX8_fault.desc).map (fun d => d.parameters.length) = some 1 := by decide +kernel
abbrev muX8_fell : zM := (RX8, cX8_fell, 5, wsX8_fell, (some .int), false)
theorem hy_X8_fell : yX8_fell.cls = RX8 ∧ yX8_fell.cls ≠ "java/lang/invoke/MethodHandle" ∧ yX8_fell.cls ≠ "java/lang/invoke/VarHandle" ∧ (parseMethodDescriptor yX8_fell.desc).map (fun d => d.parameters.length) = some 2 := by decide +kernel
abbrev muX8_givesSounds : zM := (RX8, cX8_givesSounds, 4, wsX8_givesSounds, none, false)
theorem hy_X8_givesSounds : yX8_givesSounds.cls ≠ "java/lang/invoke/MethodHandle" ∧ yX8_givesSounds.cls ≠ "java/lang/invoke/VarHandle" ∧ (parseMethodDescriptor yX8_givesSounds.desc).map (fun d => d.parameters.length) = some 1 := by decide +kernel
abbrev muX8_givesTargets : zM := (RX8, cX8_givesTargets, 3, wsX8_givesTargets, none, false)
theorem hy_X8_givesTargets : yX8_givesTargets.cls ≠ "java/lang/invoke/MethodHandle" ∧ yX8_givesTargets.cls ≠ "java/lang/invoke/VarHandle" ∧ (parseMethodDescriptor yX8_givesTargets.desc).map (fun d => d.parameters.length) = some 1 := by decide +kernel
abbrev muX8_goes : zM := (RX8, cX8_goes, 5, wsX8_goes, none, false)
theorem hy_X8_goes : yX8_goes.cls = RX8 ∧ yX8_goes.cls ≠ "java/lang/invoke/MethodHandle" ∧ yX8_goes.cls ≠ "java/lang/invoke/VarHandle" ∧ (parseMethodDescriptor yX8_goes.desc).map (fun d => d.parameters.length) = some 1 := by decide +kernel
abbrev muX8_goesThrough : zM := (RX8, cX8_goesThrough, 6, wsX8_goesThrough, none, false)
theorem hy_X8_goesThrough : yX8_goesThrough.cls ≠ "java/lang/invoke/MethodHandle" ∧ yX8_goesThrough.cls ≠ "java/lang/invoke/VarHandle" ∧ (parseMethodDescriptor yX8_goesThrough.desc).map (fun d => d.parameters.length) = some 2 := by decide +kernel
abbrev muX8_hasSound : zM := (RX8, cX8_hasSound, 3, wsX8_hasSound, (some .boolean), false)
theorem hy_X8_hasSound : yX8_hasSound.cls ≠ "java/lang/invoke/MethodHandle" ∧ yX8_hasSound.cls ≠ "java/lang/invoke/VarHandle" ∧ (parseMethodDescriptor yX8_hasSound.desc).map (fun d => d.parameters.length) = some 1 := by decide +kernel
abbrev muX8_hasSpace : zM := (RX8, cX8_hasSpace, 3, wsX8_hasSpace, (some .boolean), false)
theorem hy_X8_hasSpace : yX8_hasSpace.cls = RX8 ∧ yX8_hasSpace.cls ≠ "java/lang/invoke/MethodHandle" ∧ yX8_hasSpace.cls ≠ "java/lang/invoke/VarHandle" ∧ (parseMethodDescriptor yX8_hasSpace.desc).map (fun d => d.parameters.length) = some 2 := by decide +kernel
abbrev muX8_heardIn : zM := (RX8, cX8_heardIn, 4, wsX8_heardIn, (some .int), false)
theorem hy_X8_heardIn : yX8_heardIn.cls ≠ "java/lang/invoke/MethodHandle" ∧ yX8_heardIn.cls ≠ "java/lang/invoke/VarHandle" ∧ (parseMethodDescriptor yX8_heardIn.desc).map (fun d => d.parameters.length) = some 2 := by decide +kernel
abbrev muX8_in : zM := (RX8, cX8_in, 3, wsX8_in, (some .boolean), false)
theorem hy_X8_in : yX8_in.cls ≠ "java/lang/invoke/MethodHandle" ∧ yX8_in.cls ≠ "java/lang/invoke/VarHandle" ∧ (parseMethodDescriptor yX8_in.desc).map (fun d => d.parameters.length) = some 3 := by decide +kernel
abbrev muX8_inRoom : zM := (RX8, cX8_inRoom, 3, wsX8_inRoom, (some .int), false)
theorem hy_X8_inRoom : yX8_inRoom.cls ≠ "java/lang/invoke/MethodHandle" ∧ yX8_inRoom.cls ≠ "java/lang/invoke/VarHandle" ∧ (parseMethodDescriptor yX8_inRoom.desc).map (fun d => d.parameters.length) = some 3 := by decide +kernel
abbrev muX8_init : zM := (RX8, cX8_init, 1, wsX8_init, none, true)
theorem hy_X8_init : yX8_init.name = "<init>" ∧ yX8_init.cls ≠ "java/lang/invoke/MethodHandle" ∧ yX8_init.cls ≠ "java/lang/invoke/VarHandle" ∧ (parseMethodDescriptor yX8_init.desc).map (fun d => d.parameters.length) = some 0 := by decide +kernel
abbrev muX8_isDoor : zM := (RX8, cX8_isDoor, 2, wsX8_isDoor, (some .boolean), false)
theorem hy_X8_isDoor : yX8_isDoor.cls = RX8 ∧ yX8_isDoor.cls ≠ "java/lang/invoke/MethodHandle" ∧ yX8_isDoor.cls ≠ "java/lang/invoke/VarHandle" ∧ (parseMethodDescriptor yX8_isDoor.desc).map (fun d => d.parameters.length) = some 1 := by decide +kernel
abbrev muX8_isEntry : zM := (RX8, cX8_isEntry, 2, wsX8_isEntry, (some .boolean), false)
theorem hy_X8_isEntry : yX8_isEntry.cls = RX8 ∧ yX8_isEntry.cls ≠ "java/lang/invoke/MethodHandle" ∧ yX8_isEntry.cls ≠ "java/lang/invoke/VarHandle" ∧ (parseMethodDescriptor yX8_isEntry.desc).map (fun d => d.parameters.length) = some 0 := by decide +kernel
abbrev muX8_isHeard : zM := (RX8, cX8_isHeard, 4, wsX8_isHeard, (some .boolean), false)
theorem hy_X8_isHeard : yX8_isHeard.cls ≠ "java/lang/invoke/MethodHandle" ∧ yX8_isHeard.cls ≠ "java/lang/invoke/VarHandle" ∧ (parseMethodDescriptor yX8_isHeard.desc).map (fun d => d.parameters.length) = some 3 := by decide +kernel
abbrev muX8_isNext : zM := (RX8, cX8_isNext, 3, wsX8_isNext, (some .boolean), false)
theorem hy_X8_isNext : yX8_isNext.cls = RX8 ∧ yX8_isNext.cls ≠ "java/lang/invoke/MethodHandle" ∧ yX8_isNext.cls ≠ "java/lang/invoke/VarHandle" ∧ (parseMethodDescriptor yX8_isNext.desc).map (fun d => d.parameters.length) = some 1 := by decide +kernel
abbrev muX8_isNumber : zM := (RX8, cX8_isNumber, 5, wsX8_isNumber, (some .boolean), false)
theorem hy_X8_isNumber : yX8_isNumber.cls = RX8 ∧ yX8_isNumber.cls ≠ "java/lang/invoke/MethodHandle" ∧ yX8_isNumber.cls ≠ "java/lang/invoke/VarHandle" ∧ (parseMethodDescriptor yX8_isNumber.desc).map (fun d => d.parameters.length) = some 3 := by decide +kernel
abbrev muX8_isRoom : zM := (RX8, cX8_isRoom, 2, wsX8_isRoom, (some .boolean), false)
theorem hy_X8_isRoom : yX8_isRoom.cls = RX8 ∧ yX8_isRoom.cls ≠ "java/lang/invoke/MethodHandle" ∧ yX8_isRoom.cls ≠ "java/lang/invoke/VarHandle" ∧ (parseMethodDescriptor yX8_isRoom.desc).map (fun d => d.parameters.length) = some 1 := by decide +kernel
abbrev muX8_leaves : zM := (RX8, cX8_leaves, 3, wsX8_leaves, none, false)
theorem hy_X8_leaves : yX8_leaves.cls ≠ "java/lang/invoke/MethodHandle" ∧ yX8_leaves.cls ≠ "java/lang/invoke/VarHandle" ∧ (parseMethodDescriptor yX8_leaves.desc).map (fun d => d.parameters.length) = some 2 := by decide +kernel
abbrev muX8_level : zM := (RX8, cX8_level, 3, wsX8_level, (some .int), false)
theorem hy_X8_level : yX8_level.cls ≠ "java/lang/invoke/MethodHandle" ∧ yX8_level.cls ≠ "java/lang/invoke/VarHandle" ∧ (parseMethodDescriptor yX8_level.desc).map (fun d => d.parameters.length) = some 1 := by decide +kernel
abbrev muX8_load : zM := (RX8, cX8_load, 2, wsX8_load, (some .int), false)
theorem hy_X8_load : yX8_load.cls = RX8 ∧ yX8_load.cls ≠ "java/lang/invoke/MethodHandle" ∧ yX8_load.cls ≠ "java/lang/invoke/VarHandle" ∧ (parseMethodDescriptor yX8_load.desc).map (fun d => d.parameters.length) = some 0 := by decide +kernel
abbrev muX8_lock : zM := (RX8, cX8_lock, 4, wsX8_lock, (some .int), false)
theorem hy_X8_lock : yX8_lock.cls = RX8 ∧ yX8_lock.cls ≠ "java/lang/invoke/MethodHandle" ∧ yX8_lock.cls ≠ "java/lang/invoke/VarHandle" ∧ (parseMethodDescriptor yX8_lock.desc).map (fun d => d.parameters.length) = some 2 := by decide +kernel
abbrev muX8_movesDoors : zM := (RX8, cX8_movesDoors, 6, wsX8_movesDoors, none, false)
theorem hy_X8_movesDoors : yX8_movesDoors.cls ≠ "java/lang/invoke/MethodHandle" ∧ yX8_movesDoors.cls ≠ "java/lang/invoke/VarHandle" ∧ (parseMethodDescriptor yX8_movesDoors.desc).map (fun d => d.parameters.length) = some 1 := by decide +kernel
abbrev muX8_ofDoor : zM := (RX8, cX8_ofDoor, 3, wsX8_ofDoor, (some .int), false)
theorem hy_X8_ofDoor : yX8_ofDoor.cls ≠ "java/lang/invoke/MethodHandle" ∧ yX8_ofDoor.cls ≠ "java/lang/invoke/VarHandle" ∧ (parseMethodDescriptor yX8_ofDoor.desc).map (fun d => d.parameters.length) = some 3 := by decide +kernel
abbrev muX8_onWay : zM := (RX8, cX8_onWay, 4, wsX8_onWay, (some .int), false)
theorem hy_X8_onWay : yX8_onWay.cls ≠ "java/lang/invoke/MethodHandle" ∧ yX8_onWay.cls ≠ "java/lang/invoke/VarHandle" ∧ (parseMethodDescriptor yX8_onWay.desc).map (fun d => d.parameters.length) = some 2 := by decide +kernel
abbrev muX8_open : zM := (RX8, cX8_open, 4, wsX8_open, (some .int), false)
theorem hy_X8_open : yX8_open.cls = RX8 ∧ yX8_open.cls ≠ "java/lang/invoke/MethodHandle" ∧ yX8_open.cls ≠ "java/lang/invoke/VarHandle" ∧ (parseMethodDescriptor yX8_open.desc).map (fun d => d.parameters.length) = some 2 := by decide +kernel
abbrev muX8_otherTail : zM := (RX8, cX8_otherTail, 5, wsX8_otherTail, (some .int), false)
theorem hy_X8_otherTail : yX8_otherTail.cls = RX8 ∧ yX8_otherTail.cls ≠ "java/lang/invoke/MethodHandle" ∧ yX8_otherTail.cls ≠ "java/lang/invoke/VarHandle" ∧ (parseMethodDescriptor yX8_otherTail.desc).map (fun d => d.parameters.length) = some 3 := by decide +kernel
abbrev muX8_pass : zM := (RX8, cX8_pass, 3, wsX8_pass, (some .int), false)
theorem hy_X8_pass : yX8_pass.cls = RX8 ∧ yX8_pass.cls ≠ "java/lang/invoke/MethodHandle" ∧ yX8_pass.cls ≠ "java/lang/invoke/VarHandle" ∧ (parseMethodDescriptor yX8_pass.desc).map (fun d => d.parameters.length) = some 1 := by decide +kernel
abbrev muX8_peak : zM := (RX8, cX8_peak, 7, wsX8_peak, (some .int), false)
theorem hy_X8_peak : yX8_peak.cls = RX8 ∧ yX8_peak.cls ≠ "java/lang/invoke/MethodHandle" ∧ yX8_peak.cls ≠ "java/lang/invoke/VarHandle" ∧ (parseMethodDescriptor yX8_peak.desc).map (fun d => d.parameters.length) = some 2 := by decide +kernel
abbrev muX8_plainTail : zM := (RX8, cX8_plainTail, 2, wsX8_plainTail, (some .int), false)
theorem hy_X8_plainTail : yX8_plainTail.cls = RX8 ∧ yX8_plainTail.cls ≠ "java/lang/invoke/MethodHandle" ∧ yX8_plainTail.cls ≠ "java/lang/invoke/VarHandle" ∧ (parseMethodDescriptor yX8_plainTail.desc).map (fun d => d.parameters.length) = some 1 := by decide +kernel
abbrev muX8_plan : zM := (RX8, cX8_plan, 3, wsX8_plan, (some .int), false)
theorem hy_X8_plan : yX8_plan.cls = RX8 ∧ yX8_plan.cls ≠ "java/lang/invoke/MethodHandle" ∧ yX8_plan.cls ≠ "java/lang/invoke/VarHandle" ∧ (parseMethodDescriptor yX8_plan.desc).map (fun d => d.parameters.length) = some 2 := by decide +kernel
abbrev muX8_planDoor : zM := (RX8, cX8_planDoor, 4, wsX8_planDoor, (some .int), false)
theorem hy_X8_planDoor : yX8_planDoor.cls = RX8 ∧ yX8_planDoor.cls ≠ "java/lang/invoke/MethodHandle" ∧ yX8_planDoor.cls ≠ "java/lang/invoke/VarHandle" ∧ (parseMethodDescriptor yX8_planDoor.desc).map (fun d => d.parameters.length) = some 3 := by decide +kernel
abbrev muX8_puts : zM := (RX8, cX8_puts, 8, wsX8_puts, none, false)
theorem hy_X8_puts : yX8_puts.cls = RX8 ∧ yX8_puts.cls ≠ "java/lang/invoke/MethodHandle" ∧ yX8_puts.cls ≠ "java/lang/invoke/VarHandle" ∧ (parseMethodDescriptor yX8_puts.desc).map (fun d => d.parameters.length) = some 5 := by decide +kernel
abbrev muX8_quiet : zM := (RX8, cX8_quiet, 2, wsX8_quiet, (some .int), false)
theorem hy_X8_quiet : yX8_quiet.cls = RX8 ∧ yX8_quiet.cls ≠ "java/lang/invoke/MethodHandle" ∧ yX8_quiet.cls ≠ "java/lang/invoke/VarHandle" ∧ (parseMethodDescriptor yX8_quiet.desc).map (fun d => d.parameters.length) = some 0 := by decide +kernel
abbrev muX8_reads : zM := (RX8, cX8_reads, 3, wsX8_reads, (some .int), false)
theorem hy_X8_reads : yX8_reads.cls = RX8 ∧ yX8_reads.cls ≠ "java/lang/invoke/MethodHandle" ∧ yX8_reads.cls ≠ "java/lang/invoke/VarHandle" ∧ (parseMethodDescriptor yX8_reads.desc).map (fun d => d.parameters.length) = some 0 := by decide +kernel
abbrev muX8_reason : zM := (RX8, cX8_reason, 4, wsX8_reason, (some .int), false)
theorem hy_X8_reason : yX8_reason.cls = RX8 ∧ yX8_reason.cls ≠ "java/lang/invoke/MethodHandle" ∧ yX8_reason.cls ≠ "java/lang/invoke/VarHandle" ∧ (parseMethodDescriptor yX8_reason.desc).map (fun d => d.parameters.length) = some 2 := by decide +kernel
abbrev muX8_reasonOf : zM := (RX8, cX8_reasonOf, 4, wsX8_reasonOf, (some .int), false)
theorem hy_X8_reasonOf : yX8_reasonOf.cls = RX8 ∧ yX8_reasonOf.cls ≠ "java/lang/invoke/MethodHandle" ∧ yX8_reasonOf.cls ≠ "java/lang/invoke/VarHandle" ∧ (parseMethodDescriptor yX8_reasonOf.desc).map (fun d => d.parameters.length) = some 2 := by decide +kernel
abbrev muX8_refusal : zM := (RX8, cX8_refusal, 3, wsX8_refusal, (some .int), false)
theorem hy_X8_refusal : yX8_refusal.cls = RX8 ∧ yX8_refusal.cls ≠ "java/lang/invoke/MethodHandle" ∧ yX8_refusal.cls ≠ "java/lang/invoke/VarHandle" ∧ (parseMethodDescriptor yX8_refusal.desc).map (fun d => d.parameters.length) = some 2 := by decide +kernel
abbrev muX8_rise : zM := (RX8, cX8_rise, 4, wsX8_rise, (some .int), false)
theorem hy_X8_rise : yX8_rise.cls = RX8 ∧ yX8_rise.cls ≠ "java/lang/invoke/MethodHandle" ∧ yX8_rise.cls ≠ "java/lang/invoke/VarHandle" ∧ (parseMethodDescriptor yX8_rise.desc).map (fun d => d.parameters.length) = some 1 := by decide +kernel
abbrev muX8_room : zM := (RX8, cX8_room, 6, wsX8_room, (some .int), false)
theorem hy_X8_room : yX8_room.cls = RX8 ∧ yX8_room.cls ≠ "java/lang/invoke/MethodHandle" ∧ yX8_room.cls ≠ "java/lang/invoke/VarHandle" ∧ (parseMethodDescriptor yX8_room.desc).map (fun d => d.parameters.length) = some 2 := by decide +kernel
abbrev muX8_roomOf : zM := (RX8, cX8_roomOf, 3, wsX8_roomOf, (some .int), false)
theorem hy_X8_roomOf : yX8_roomOf.cls = RX8 ∧ yX8_roomOf.cls ≠ "java/lang/invoke/MethodHandle" ∧ yX8_roomOf.cls ≠ "java/lang/invoke/VarHandle" ∧ (parseMethodDescriptor yX8_roomOf.desc).map (fun d => d.parameters.length) = some 2 := by decide +kernel
abbrev muX8_set : zM := (RX8, cX8_set, 4, wsX8_set, (some .int), false)
theorem hy_X8_set : yX8_set.cls = RX8 ∧ yX8_set.cls ≠ "java/lang/invoke/MethodHandle" ∧ yX8_set.cls ≠ "java/lang/invoke/VarHandle" ∧ (parseMethodDescriptor yX8_set.desc).map (fun d => d.parameters.length) = some 2 := by decide +kernel
abbrev muX8_sound : zM := (RX8, cX8_sound, 5, wsX8_sound, (some .int), false)
theorem hy_X8_sound : yX8_sound.cls = RX8 ∧ yX8_sound.cls ≠ "java/lang/invoke/MethodHandle" ∧ yX8_sound.cls ≠ "java/lang/invoke/VarHandle" ∧ (parseMethodDescriptor yX8_sound.desc).map (fun d => d.parameters.length) = some 4 := by decide +kernel
abbrev muX8_sumOf : zM := (RX8, cX8_sumOf, 4, wsX8_sumOf, (some .int), false)
theorem hy_X8_sumOf : yX8_sumOf.cls ≠ "java/lang/invoke/MethodHandle" ∧ yX8_sumOf.cls ≠ "java/lang/invoke/VarHandle" ∧ (parseMethodDescriptor yX8_sumOf.desc).map (fun d => d.parameters.length) = some 2 := by decide +kernel
abbrev muX8_tail : zM := (RX8, cX8_tail, 2, wsX8_tail, (some .int), false)
theorem hy_X8_tail : yX8_tail.cls = RX8 ∧ yX8_tail.cls ≠ "java/lang/invoke/MethodHandle" ∧ yX8_tail.cls ≠ "java/lang/invoke/VarHandle" ∧ (parseMethodDescriptor yX8_tail.desc).map (fun d => d.parameters.length) = some 1 := by decide +kernel
abbrev muX8_tailOf : zM := (RX8, cX8_tailOf, 4, wsX8_tailOf, (some .int), false)
theorem hy_X8_tailOf : yX8_tailOf.cls = RX8 ∧ yX8_tailOf.cls ≠ "java/lang/invoke/MethodHandle" ∧ yX8_tailOf.cls ≠ "java/lang/invoke/VarHandle" ∧ (parseMethodDescriptor yX8_tailOf.desc).map (fun d => d.parameters.length) = some 1 := by decide +kernel
abbrev muX8_tailWith : zM := (RX8, cX8_tailWith, 4, wsX8_tailWith, (some .int), false)
theorem hy_X8_tailWith : yX8_tailWith.cls = RX8 ∧ yX8_tailWith.cls ≠ "java/lang/invoke/MethodHandle" ∧ yX8_tailWith.cls ≠ "java/lang/invoke/VarHandle" ∧ (parseMethodDescriptor yX8_tailWith.desc).map (fun d => d.parameters.length) = some 3 := by decide +kernel
abbrev muX8_through : zM := (RX8, cX8_through, 6, wsX8_through, (some .int), false)
theorem hy_X8_through : yX8_through.cls ≠ "java/lang/invoke/MethodHandle" ∧ yX8_through.cls ≠ "java/lang/invoke/VarHandle" ∧ (parseMethodDescriptor yX8_through.desc).map (fun d => d.parameters.length) = some 3 := by decide +kernel
abbrev muX8_type : zM := (RX8, cX8_type, 2, wsX8_type, (some .int), false)
theorem hy_X8_type : yX8_type.cls = RX8 ∧ yX8_type.cls ≠ "java/lang/invoke/MethodHandle" ∧ yX8_type.cls ≠ "java/lang/invoke/VarHandle" ∧ (parseMethodDescriptor yX8_type.desc).map (fun d => d.parameters.length) = some 1 := by decide +kernel
abbrev muX8_undo : zM := (RX8, cX8_undo, 2, wsX8_undo, (some .int), false)
theorem hy_X8_undo : yX8_undo.cls = RX8 ∧ yX8_undo.cls ≠ "java/lang/invoke/MethodHandle" ∧ yX8_undo.cls ≠ "java/lang/invoke/VarHandle" ∧ (parseMethodDescriptor yX8_undo.desc).map (fun d => d.parameters.length) = some 0 := by decide +kernel
abbrev muX8_way : zM := (RX8, cX8_way, 7, wsX8_way, (some .int), false)
theorem hy_X8_way : yX8_way.cls = RX8 ∧ yX8_way.cls ≠ "java/lang/invoke/MethodHandle" ∧ yX8_way.cls ≠ "java/lang/invoke/VarHandle" ∧ (parseMethodDescriptor yX8_way.desc).map (fun d => d.parameters.length) = some 2 := by decide +kernel
theorem z_def0 : ∀ x, x < 10 → defaultValue (tyX0 x) = z_val (.inl 0) (fun _ => 0) (fun _ => none) x := by
  intro x hx
  rcases (show x = 0 ∨ x = 1 ∨ x = 2 ∨ x = 3 ∨ x = 4 ∨ x = 5 ∨ x = 6 ∨ x = 7 ∨ x = 8 ∨ x = 9 by omega) with rfl | rfl | rfl | rfl | rfl | rfl | rfl | rfl | rfl | rfl <;> rfl
theorem z_def1 : ∀ x, x < 5 → defaultValue (tyX1 x) = z_val (.inl 1) (fun _ => 0) (fun _ => none) x := by
  intro x hx
  rcases (show x = 0 ∨ x = 1 ∨ x = 2 ∨ x = 3 ∨ x = 4 by omega) with rfl | rfl | rfl | rfl | rfl <;> rfl
theorem z_def2 : ∀ x, x < 2 → defaultValue (tyX2 x) = z_val (.inl 2) (fun _ => 0) (fun _ => none) x := by
  intro x hx
  rcases (show x = 0 ∨ x = 1 by omega) with rfl | rfl <;> rfl
theorem z_def3 : ∀ x, x < 10 → defaultValue (tyX3 x) = z_val (.inl 3) (fun _ => 0) (fun _ => none) x := by
  intro x hx
  rcases (show x = 0 ∨ x = 1 ∨ x = 2 ∨ x = 3 ∨ x = 4 ∨ x = 5 ∨ x = 6 ∨ x = 7 ∨ x = 8 ∨ x = 9 by omega) with rfl | rfl | rfl | rfl | rfl | rfl | rfl | rfl | rfl | rfl <;> rfl
theorem z_def4 : ∀ x, x < 2 → defaultValue (tyX4 x) = z_val (.inl 4) (fun _ => 0) (fun _ => none) x := by
  intro x hx
  rcases (show x = 0 ∨ x = 1 by omega) with rfl | rfl <;> rfl
theorem z_def5 : ∀ x, x < 7 → defaultValue (tyX5 x) = z_val (.inl 5) (fun _ => 0) (fun _ => none) x := by
  intro x hx
  rcases (show x = 0 ∨ x = 1 ∨ x = 2 ∨ x = 3 ∨ x = 4 ∨ x = 5 ∨ x = 6 by omega) with rfl | rfl | rfl | rfl | rfl | rfl | rfl <;> rfl
theorem z_def6 : ∀ x, x < 6 → defaultValue (tyX6 x) = z_val (.inl 6) (fun _ => 0) (fun _ => none) x := by
  intro x hx
  rcases (show x = 0 ∨ x = 1 ∨ x = 2 ∨ x = 3 ∨ x = 4 ∨ x = 5 by omega) with rfl | rfl | rfl | rfl | rfl | rfl <;> rfl
theorem z_def7 : ∀ x, x < 5 → defaultValue (tyX7 x) = z_val (.inl 7) (fun _ => 0) (fun _ => none) x := by
  intro x hx
  rcases (show x = 0 ∨ x = 1 ∨ x = 2 ∨ x = 3 ∨ x = 4 by omega) with rfl | rfl | rfl | rfl | rfl <;> rfl
theorem z_def8 : ∀ x, x < 13 → defaultValue (tyX8 x) = z_val (.inl 8) (fun _ => 0) (fun _ => none) x := by
  intro x hx
  rcases (show x = 0 ∨ x = 1 ∨ x = 2 ∨ x = 3 ∨ x = 4 ∨ x = 5 ∨ x = 6 ∨ x = 7 ∨ x = 8 ∨ x = 9 ∨ x = 10 ∨ x = 11 ∨ x = 12 by omega) with rfl | rfl | rfl | rfl | rfl | rfl | rfl | rfl | rfl | rfl | rfl | rfl | rfl <;> rfl
