def wsJ6_bitCount_0f7a4 : List Cond := .code yJ6_bitCount_0f7a4 cJ6_bitCount_0f7a4 1 (some .int) :: ([.constant RJ6 265 (1431655765), .constant RJ6 266 (858993459), .constant RJ6 267 (252645135)])
def wsJ7_fill_53178 : List Cond := .code yJ7_fill_53178 cJ7_fill_53178 4 none :: ([])
def wsX8_put : List Cond := .code yX8_put cX8_put 3 none :: ([.fieldLink RX8 15 "SoldHouse$Tape" "size" "I", .fieldLink RX8 9 "SoldHouse$Tape" "bytes" "[B"] ++ wsX80)
def wsX0_allRooms : List Cond := .code yX0_allRooms cX0_allRooms 1 (some .int) :: ([.fieldLink RX0 21 "SoldHouse$Floor" "plan" "LSoldHouse$Plan;", .fieldLink RX0 43 "SoldHouse$Plan" "rooms" "I"] ++ wsX00 ++ wsX50)
def wsX0_creakingRooms : List Cond := .code yX0_creakingRooms cX0_creakingRooms 4 (some .int) :: ([.fieldLink RX0 21 "SoldHouse$Floor" "plan" "LSoldHouse$Plan;", .fieldLink RX0 43 "SoldHouse$Plan" "rooms" "I", .fieldLink RX0 88 "SoldHouse$Plan" "creaks" "[I"] ++ wsX00 ++ wsX50)
def wsX0_behindDoors : List Cond := .code yX0_behindDoors cX0_behindDoors 4 (some .int) :: ([.fieldLink RX0 21 "SoldHouse$Floor" "plan" "LSoldHouse$Plan;", .fieldLink RX0 43 "SoldHouse$Plan" "rooms" "I", .fieldLink RX0 9 "SoldHouse$Floor" "next" "[I"] ++ wsX00 ++ wsX50)
def wsX0_reach : List Cond := .code yX0_reach cX0_reach 5 (some .int) :: ([.methodLink RX0 57 yX0_behindDoors, .instanceMethod yX0_behindDoors, .selects RX0 yX0_behindDoors yX0_behindDoors, .initialized RX0, .code yX0_behindDoors cX0_behindDoors 4 (some .int), .fieldLink RX0 21 "SoldHouse$Floor" "plan" "LSoldHouse$Plan;", .fieldLink RX0 43 "SoldHouse$Plan" "rooms" "I", .fieldLink RX0 9 "SoldHouse$Floor" "next" "[I"] ++ wsX00 ++ wsX50)
def wsX0_countPieces : List Cond := .code yX0_countPieces cX0_countPieces 4 (some .int) :: ([.fieldLink RX0 21 "SoldHouse$Floor" "plan" "LSoldHouse$Plan;", .fieldLink RX0 43 "SoldHouse$Plan" "rooms" "I", .methodLink RX0 60 yX0_allRooms, .instanceMethod yX0_allRooms, .selects RX0 yX0_allRooms yX0_allRooms, .initialized RX0, .code yX0_allRooms cX0_allRooms 1 (some .int), .methodLink RX0 64 yX0_reach, .instanceMethod yX0_reach, .selects RX0 yX0_reach yX0_reach, .code yX0_reach cX0_reach 5 (some .int), .methodLink RX0 57 yX0_behindDoors, .instanceMethod yX0_behindDoors, .selects RX0 yX0_behindDoors yX0_behindDoors, .code yX0_behindDoors cX0_behindDoors 4 (some .int), .fieldLink RX0 9 "SoldHouse$Floor" "next" "[I"] ++ wsX00 ++ wsX50)
def wsX0_farOf : List Cond := .code yX0_farOf cX0_farOf 3 (some .int) :: ([.fieldLink RX0 15 "SoldHouse$Floor" "far" "[I"] ++ wsX00)
def wsX0_farthestFrom : List Cond := .code yX0_farthestFrom cX0_farthestFrom 4 (some .int) :: ([.fieldLink RX0 21 "SoldHouse$Floor" "plan" "LSoldHouse$Plan;", .fieldLink RX0 43 "SoldHouse$Plan" "rooms" "I", .methodLink RX0 71 Lib.Math.max.name, .static Lib.Math.max.name, .initialized "java/lang/Math", .code Lib.Math.max.name Lib.Math.max.code 2 (some .int), .methodLink RX0 68 yX0_farOf, .instanceMethod yX0_farOf, .selects RX0 yX0_farOf yX0_farOf, .initialized RX0, .code yX0_farOf cX0_farOf 3 (some .int), .fieldLink RX0 15 "SoldHouse$Floor" "far" "[I"] ++ wsX00 ++ wsX50)
def wsX0_middleRoom : List Cond := .code yX0_middleRoom cX0_middleRoom 5 (some .int) :: ([.fieldLink RX0 21 "SoldHouse$Floor" "plan" "LSoldHouse$Plan;", .fieldLink RX0 43 "SoldHouse$Plan" "rooms" "I", .methodLink RX0 85 yX0_farthestFrom, .instanceMethod yX0_farthestFrom, .selects RX0 yX0_farthestFrom yX0_farthestFrom, .initialized RX0, .code yX0_farthestFrom cX0_farthestFrom 4 (some .int), .methodLink RX0 71 Lib.Math.max.name, .static Lib.Math.max.name, .initialized "java/lang/Math", .code Lib.Math.max.name Lib.Math.max.code 2 (some .int), .methodLink RX0 68 yX0_farOf, .instanceMethod yX0_farOf, .selects RX0 yX0_farOf yX0_farOf, .code yX0_farOf cX0_farOf 3 (some .int), .fieldLink RX0 15 "SoldHouse$Floor" "far" "[I"] ++ wsX00 ++ wsX50)
def wsX0_minutesTo : List Cond := .code yX0_minutesTo cX0_minutesTo 4 (some .int) :: ([.methodLink RX0 71 Lib.Math.max.name, .static Lib.Math.max.name, .initialized "java/lang/Math", .code Lib.Math.max.name Lib.Math.max.code 2 (some .int), .methodLink RX0 68 yX0_farOf, .instanceMethod yX0_farOf, .selects RX0 yX0_farOf yX0_farOf, .initialized RX0, .code yX0_farOf cX0_farOf 3 (some .int), .fieldLink RX0 15 "SoldHouse$Floor" "far" "[I"] ++ wsX00)
def wsX0_meetingRoom : List Cond := .code yX0_meetingRoom cX0_meetingRoom 6 (some .int) :: ([.fieldLink RX0 21 "SoldHouse$Floor" "plan" "LSoldHouse$Plan;", .fieldLink RX0 43 "SoldHouse$Plan" "rooms" "I", .methodLink RX0 68 yX0_farOf, .instanceMethod yX0_farOf, .selects RX0 yX0_farOf yX0_farOf, .initialized RX0, .code yX0_farOf cX0_farOf 3 (some .int), .fieldLink RX0 15 "SoldHouse$Floor" "far" "[I", .methodLink RX0 76 yX0_minutesTo, .instanceMethod yX0_minutesTo, .selects RX0 yX0_minutesTo yX0_minutesTo, .code yX0_minutesTo cX0_minutesTo 4 (some .int), .methodLink RX0 71 Lib.Math.max.name, .static Lib.Math.max.name, .initialized "java/lang/Math", .code Lib.Math.max.name Lib.Math.max.code 2 (some .int)] ++ wsX00 ++ wsX50)
def wsX0_barringRooms : List Cond := .code yX0_barringRooms cX0_barringRooms 7 (some .int) :: ([.methodLink RX0 60 yX0_allRooms, .instanceMethod yX0_allRooms, .selects RX0 yX0_allRooms yX0_allRooms, .initialized RX0, .code yX0_allRooms cX0_allRooms 1 (some .int), .fieldLink RX0 21 "SoldHouse$Floor" "plan" "LSoldHouse$Plan;", .fieldLink RX0 43 "SoldHouse$Plan" "rooms" "I", .methodLink RX0 80 yJ6_bitCount_0f7a4, .static yJ6_bitCount_0f7a4, .initialized RJ6, .code yJ6_bitCount_0f7a4 cJ6_bitCount_0f7a4 1 (some .int), .constant RJ6 265 (1431655765), .constant RJ6 266 (858993459), .constant RJ6 267 (252645135), .methodLink RX0 64 yX0_reach, .instanceMethod yX0_reach, .selects RX0 yX0_reach yX0_reach, .code yX0_reach cX0_reach 5 (some .int), .methodLink RX0 57 yX0_behindDoors, .instanceMethod yX0_behindDoors, .selects RX0 yX0_behindDoors yX0_behindDoors, .code yX0_behindDoors cX0_behindDoors 4 (some .int), .fieldLink RX0 9 "SoldHouse$Floor" "next" "[I"] ++ wsX00 ++ wsX50)
def wsX0_measureFrom : List Cond := .code yX0_measureFrom cX0_measureFrom 6 none :: ([.fieldLink RX0 21 "SoldHouse$Floor" "plan" "LSoldHouse$Plan;", .fieldLink RX0 43 "SoldHouse$Plan" "rooms" "I", .fieldLink RX0 15 "SoldHouse$Floor" "far" "[I", .methodLink RX0 57 yX0_behindDoors, .instanceMethod yX0_behindDoors, .selects RX0 yX0_behindDoors yX0_behindDoors, .initialized RX0, .code yX0_behindDoors cX0_behindDoors 4 (some .int), .fieldLink RX0 9 "SoldHouse$Floor" "next" "[I"] ++ wsX00 ++ wsX50)
def wsX0_nearSide : List Cond := .code yX0_nearSide cX0_nearSide 5 (some .int) :: ([.fieldLink RX0 21 "SoldHouse$Floor" "plan" "LSoldHouse$Plan;", .fieldLink RX0 37 "SoldHouse$Plan" "doorFrom" "[I", .fieldLink RX0 40 "SoldHouse$Plan" "doorTo" "[I", .fieldLink RX0 9 "SoldHouse$Floor" "next" "[I", .methodLink RX0 60 yX0_allRooms, .instanceMethod yX0_allRooms, .selects RX0 yX0_allRooms yX0_allRooms, .initialized RX0, .code yX0_allRooms cX0_allRooms 1 (some .int), .fieldLink RX0 43 "SoldHouse$Plan" "rooms" "I", .methodLink RX0 64 yX0_reach, .instanceMethod yX0_reach, .selects RX0 yX0_reach yX0_reach, .code yX0_reach cX0_reach 5 (some .int), .methodLink RX0 57 yX0_behindDoors, .instanceMethod yX0_behindDoors, .selects RX0 yX0_behindDoors yX0_behindDoors, .code yX0_behindDoors cX0_behindDoors 4 (some .int)] ++ wsX00 ++ wsX50)
def wsX0_build_r1 : List Cond := [Cond.fieldLink RX0 21 "SoldHouse$Floor" "plan" "LSoldHouse$Plan;", Cond.fieldLink RX0 9 "SoldHouse$Floor" "next" "[I", Cond.fieldLink RX0 31 "SoldHouse$Plan" "doors" "I", Cond.fieldLink RX0 37 "SoldHouse$Plan" "doorFrom" "[I", Cond.fieldLink RX0 40 "SoldHouse$Plan" "doorTo" "[I", Cond.fieldLink RX0 15 "SoldHouse$Floor" "far" "[I", Cond.fieldLink RX0 43 "SoldHouse$Plan" "rooms" "I", Cond.fieldLink RX0 50 "SoldHouse$Floor" "parting" "I", Cond.fieldLink RX0 18 "SoldHouse$Floor" "near" "[I", Cond.methodLink RX0 25 yJ7_fill_53178, Cond.static yJ7_fill_53178, Cond.initialized RJ7, Cond.code yJ7_fill_53178 cJ7_fill_53178 4 none, Cond.methodLink RX0 46 yX0_measureFrom, Cond.instanceMethod yX0_measureFrom, Cond.selects RX0 yX0_measureFrom yX0_measureFrom, Cond.initialized RX0, Cond.code yX0_measureFrom cX0_measureFrom 6 none, Cond.methodLink RX0 57 yX0_behindDoors, Cond.instanceMethod yX0_behindDoors, Cond.selects RX0 yX0_behindDoors yX0_behindDoors, Cond.code yX0_behindDoors cX0_behindDoors 4 (some .int), Cond.methodLink RX0 53 yX0_nearSide, Cond.instanceMethod yX0_nearSide]
def wsX0_build_r2 : List Cond := [Cond.selects RX0 yX0_nearSide yX0_nearSide, Cond.code yX0_nearSide cX0_nearSide 5 (some .int), Cond.methodLink RX0 60 yX0_allRooms, Cond.instanceMethod yX0_allRooms, Cond.selects RX0 yX0_allRooms yX0_allRooms, Cond.code yX0_allRooms cX0_allRooms 1 (some .int), Cond.methodLink RX0 64 yX0_reach, Cond.instanceMethod yX0_reach, Cond.selects RX0 yX0_reach yX0_reach, Cond.code yX0_reach cX0_reach 5 (some .int)]
def wsX0_build : List Cond := .code yX0_build cX0_build 3 none :: ((wsX0_build_r1 ++ wsX0_build_r2) ++ wsX00 ++ wsX50)
def wsX1_clear : List Cond := .code yX1_clear cX1_clear 1 none :: ([.fieldLink RX1 19 "SoldHouse$Formula" "size" "I", .fieldLink RX1 23 "SoldHouse$Formula" "units" "I", .fieldLink RX1 26 "SoldHouse$Formula" "told" "Z"] ++ wsX10)
def wsX5_clear : List Cond := .code yX5_clear cX5_clear 1 none :: ([.fieldLink RX5 50 "SoldHouse$Plan" "rooms" "I", .fieldLink RX5 54 "SoldHouse$Plan" "doors" "I", .fieldLink RX5 57 "SoldHouse$Plan" "things" "I", .fieldLink RX5 46 "SoldHouse$Plan" "sure" "LSoldHouse$Formula;", .fieldLink RX5 63 "SoldHouse$Plan" "draw" "I", .fieldLink RX5 66 "SoldHouse$Plan" "drawTold" "Z", .methodLink RX5 60 yX1_clear, .instanceMethod yX1_clear, .selects RX1 yX1_clear yX1_clear, .initialized RX1, .code yX1_clear cX1_clear 1 none, .fieldLink RX1 19 "SoldHouse$Formula" "size" "I", .fieldLink RX1 23 "SoldHouse$Formula" "units" "I", .fieldLink RX1 26 "SoldHouse$Formula" "told" "Z"] ++ wsX50 ++ wsX10)
def wsX5_roomNamed : List Cond := .code yX5_roomNamed cX5_roomNamed 4 (some .int) :: ([.fieldLink RX5 50 "SoldHouse$Plan" "rooms" "I", .fieldLink RX5 9 "SoldHouse$Plan" "roomName" "[J"] ++ wsX50)
def wsX5_hasThingNamed : List Cond := .code yX5_hasThingNamed cX5_hasThingNamed 4 (some .boolean) :: ([.fieldLink RX5 57 "SoldHouse$Plan" "things" "I", .fieldLink RX5 25 "SoldHouse$Plan" "thingName" "[J"] ++ wsX50)
def wsX5_behind : List Cond := .code yX5_behind cX5_behind 3 (some .int) :: ([.fieldLink RX5 19 "SoldHouse$Plan" "doorFrom" "[I", .fieldLink RX5 22 "SoldHouse$Plan" "doorTo" "[I"] ++ wsX50)
def wsX5_hasDoorOf : List Cond := .code yX5_hasDoorOf cX5_hasDoorOf 4 (some .boolean) :: ([.fieldLink RX5 54 "SoldHouse$Plan" "doors" "I", .methodLink RX5 70 yX5_behind, .instanceMethod yX5_behind, .selects RX5 yX5_behind yX5_behind, .initialized RX5, .code yX5_behind cX5_behind 3 (some .int), .fieldLink RX5 19 "SoldHouse$Plan" "doorFrom" "[I", .fieldLink RX5 22 "SoldHouse$Plan" "doorTo" "[I"] ++ wsX50)
theorem dJ6_bitCount_0f7a4_0 : decode cJ6_bitCount_0f7a4 0 = .ok (.iload_n 0, 1) := by decide +kernel
theorem dJ6_bitCount_0f7a4_1 : decode cJ6_bitCount_0f7a4 1 = .ok (.iload_n 0, 1) := by decide +kernel
theorem dJ6_bitCount_0f7a4_2 : decode cJ6_bitCount_0f7a4 2 = .ok (.iconst 1, 1) := by decide +kernel
theorem dJ6_bitCount_0f7a4_3 : decode cJ6_bitCount_0f7a4 3 = .ok (.iushr, 1) := by decide +kernel
theorem dJ6_bitCount_0f7a4_4 : decode cJ6_bitCount_0f7a4 4 = .ok (.ldc_w 265, 3) := by decide +kernel
theorem dJ6_bitCount_0f7a4_7 : decode cJ6_bitCount_0f7a4 7 = .ok (.iand, 1) := by decide +kernel
theorem dJ6_bitCount_0f7a4_8 : decode cJ6_bitCount_0f7a4 8 = .ok (.isub, 1) := by decide +kernel
theorem dJ6_bitCount_0f7a4_9 : decode cJ6_bitCount_0f7a4 9 = .ok (.istore_n 0, 1) := by decide +kernel
theorem dJ6_bitCount_0f7a4_10 : decode cJ6_bitCount_0f7a4 10 = .ok (.iload_n 0, 1) := by decide +kernel
theorem dJ6_bitCount_0f7a4_11 : decode cJ6_bitCount_0f7a4 11 = .ok (.ldc_w 266, 3) := by decide +kernel
theorem dJ6_bitCount_0f7a4_14 : decode cJ6_bitCount_0f7a4 14 = .ok (.iand, 1) := by decide +kernel
theorem dJ6_bitCount_0f7a4_15 : decode cJ6_bitCount_0f7a4 15 = .ok (.iload_n 0, 1) := by decide +kernel
theorem dJ6_bitCount_0f7a4_16 : decode cJ6_bitCount_0f7a4 16 = .ok (.iconst 2, 1) := by decide +kernel
theorem dJ6_bitCount_0f7a4_17 : decode cJ6_bitCount_0f7a4 17 = .ok (.iushr, 1) := by decide +kernel
theorem dJ6_bitCount_0f7a4_18 : decode cJ6_bitCount_0f7a4 18 = .ok (.ldc_w 266, 3) := by decide +kernel
theorem dJ6_bitCount_0f7a4_21 : decode cJ6_bitCount_0f7a4 21 = .ok (.iand, 1) := by decide +kernel
theorem dJ6_bitCount_0f7a4_22 : decode cJ6_bitCount_0f7a4 22 = .ok (.iadd, 1) := by decide +kernel
theorem dJ6_bitCount_0f7a4_23 : decode cJ6_bitCount_0f7a4 23 = .ok (.istore_n 0, 1) := by decide +kernel
theorem dJ6_bitCount_0f7a4_24 : decode cJ6_bitCount_0f7a4 24 = .ok (.iload_n 0, 1) := by decide +kernel
theorem dJ6_bitCount_0f7a4_25 : decode cJ6_bitCount_0f7a4 25 = .ok (.iload_n 0, 1) := by decide +kernel
theorem dJ6_bitCount_0f7a4_26 : decode cJ6_bitCount_0f7a4 26 = .ok (.iconst 4, 1) := by decide +kernel
theorem dJ6_bitCount_0f7a4_27 : decode cJ6_bitCount_0f7a4 27 = .ok (.iushr, 1) := by decide +kernel
theorem dJ6_bitCount_0f7a4_28 : decode cJ6_bitCount_0f7a4 28 = .ok (.iadd, 1) := by decide +kernel
theorem dJ6_bitCount_0f7a4_29 : decode cJ6_bitCount_0f7a4 29 = .ok (.ldc_w 267, 3) := by decide +kernel
theorem dJ6_bitCount_0f7a4_32 : decode cJ6_bitCount_0f7a4 32 = .ok (.iand, 1) := by decide +kernel
theorem dJ6_bitCount_0f7a4_33 : decode cJ6_bitCount_0f7a4 33 = .ok (.istore_n 0, 1) := by decide +kernel
theorem dJ6_bitCount_0f7a4_34 : decode cJ6_bitCount_0f7a4 34 = .ok (.iload_n 0, 1) := by decide +kernel
theorem dJ6_bitCount_0f7a4_35 : decode cJ6_bitCount_0f7a4 35 = .ok (.iload_n 0, 1) := by decide +kernel
theorem dJ6_bitCount_0f7a4_36 : decode cJ6_bitCount_0f7a4 36 = .ok (.bipush 8, 2) := by decide +kernel
theorem dJ6_bitCount_0f7a4_38 : decode cJ6_bitCount_0f7a4 38 = .ok (.iushr, 1) := by decide +kernel
theorem dJ6_bitCount_0f7a4_39 : decode cJ6_bitCount_0f7a4 39 = .ok (.iadd, 1) := by decide +kernel
theorem dJ6_bitCount_0f7a4_40 : decode cJ6_bitCount_0f7a4 40 = .ok (.istore_n 0, 1) := by decide +kernel
theorem dJ6_bitCount_0f7a4_41 : decode cJ6_bitCount_0f7a4 41 = .ok (.iload_n 0, 1) := by decide +kernel
theorem dJ6_bitCount_0f7a4_42 : decode cJ6_bitCount_0f7a4 42 = .ok (.iload_n 0, 1) := by decide +kernel
theorem dJ6_bitCount_0f7a4_43 : decode cJ6_bitCount_0f7a4 43 = .ok (.bipush 16, 2) := by decide +kernel
theorem dJ6_bitCount_0f7a4_45 : decode cJ6_bitCount_0f7a4 45 = .ok (.iushr, 1) := by decide +kernel
theorem dJ6_bitCount_0f7a4_46 : decode cJ6_bitCount_0f7a4 46 = .ok (.iadd, 1) := by decide +kernel
theorem dJ6_bitCount_0f7a4_47 : decode cJ6_bitCount_0f7a4 47 = .ok (.istore_n 0, 1) := by decide +kernel
theorem dJ6_bitCount_0f7a4_48 : decode cJ6_bitCount_0f7a4 48 = .ok (.iload_n 0, 1) := by decide +kernel
theorem dJ6_bitCount_0f7a4_49 : decode cJ6_bitCount_0f7a4 49 = .ok (.bipush 63, 2) := by decide +kernel
theorem dJ6_bitCount_0f7a4_51 : decode cJ6_bitCount_0f7a4 51 = .ok (.iand, 1) := by decide +kernel
theorem dJ6_bitCount_0f7a4_52 : decode cJ6_bitCount_0f7a4 52 = .ok (.ireturn, 1) := by decide +kernel
theorem dJ7_fill_53178_0 : decode cJ7_fill_53178 0 = .ok (.iconst 0, 1) := by decide +kernel
theorem dJ7_fill_53178_1 : decode cJ7_fill_53178 1 = .ok (.istore_n 2, 1) := by decide +kernel
theorem dJ7_fill_53178_2 : decode cJ7_fill_53178 2 = .ok (.aload_n 0, 1) := by decide +kernel
theorem dJ7_fill_53178_3 : decode cJ7_fill_53178 3 = .ok (.arraylength, 1) := by decide +kernel
theorem dJ7_fill_53178_4 : decode cJ7_fill_53178 4 = .ok (.istore_n 3, 1) := by decide +kernel
theorem dJ7_fill_53178_5 : decode cJ7_fill_53178 5 = .ok (.iload_n 2, 1) := by decide +kernel
theorem dJ7_fill_53178_6 : decode cJ7_fill_53178 6 = .ok (.iload_n 3, 1) := by decide +kernel
theorem dJ7_fill_53178_7 : decode cJ7_fill_53178 7 = .ok (.if_icmp .ge 13, 3) := by decide +kernel
theorem dJ7_fill_53178_10 : decode cJ7_fill_53178 10 = .ok (.aload_n 0, 1) := by decide +kernel
theorem dJ7_fill_53178_11 : decode cJ7_fill_53178 11 = .ok (.iload_n 2, 1) := by decide +kernel
theorem dJ7_fill_53178_12 : decode cJ7_fill_53178 12 = .ok (.iload_n 1, 1) := by decide +kernel
theorem dJ7_fill_53178_13 : decode cJ7_fill_53178 13 = .ok (.iastore, 1) := by decide +kernel
theorem dJ7_fill_53178_14 : decode cJ7_fill_53178 14 = .ok (.iinc 2 1, 3) := by decide +kernel
theorem dJ7_fill_53178_17 : decode cJ7_fill_53178 17 = .ok (.goto (-12), 3) := by decide +kernel
theorem dJ7_fill_53178_20 : decode cJ7_fill_53178 20 = .ok (.return_, 1) := by decide +kernel
theorem dX8_put_0 : decode cX8_put 0 = .ok (.bipush 24, 2) := by decide +kernel
theorem dX8_put_2 : decode cX8_put 2 = .ok (.istore_n 2, 1) := by decide +kernel
theorem dX8_put_3 : decode cX8_put 3 = .ok (.iload_n 2, 1) := by decide +kernel
theorem dX8_put_4 : decode cX8_put 4 = .ok (.ifCond .lt 42, 3) := by decide +kernel
theorem dX8_put_7 : decode cX8_put 7 = .ok (.aload_n 0, 1) := by decide +kernel
theorem dX8_put_8 : decode cX8_put 8 = .ok (.getfield 15, 3) := by decide +kernel
theorem dX8_put_11 : decode cX8_put 11 = .ok (.sipush 1600, 3) := by decide +kernel
theorem dX8_put_14 : decode cX8_put 14 = .ok (.if_icmp .ge 26, 3) := by decide +kernel
theorem dX8_put_17 : decode cX8_put 17 = .ok (.aload_n 0, 1) := by decide +kernel
theorem dX8_put_18 : decode cX8_put 18 = .ok (.getfield 9, 3) := by decide +kernel
theorem dX8_put_21 : decode cX8_put 21 = .ok (.aload_n 0, 1) := by decide +kernel
theorem dX8_put_22 : decode cX8_put 22 = .ok (.getfield 15, 3) := by decide +kernel
theorem dX8_put_25 : decode cX8_put 25 = .ok (.iload_n 1, 1) := by decide +kernel
theorem dX8_put_26 : decode cX8_put 26 = .ok (.iload_n 2, 1) := by decide +kernel
theorem dX8_put_27 : decode cX8_put 27 = .ok (.ishr, 1) := by decide +kernel
theorem dX8_put_28 : decode cX8_put 28 = .ok (.i2b, 1) := by decide +kernel
theorem dX8_put_29 : decode cX8_put 29 = .ok (.bastore, 1) := by decide +kernel
theorem dX8_put_30 : decode cX8_put 30 = .ok (.aload_n 0, 1) := by decide +kernel
theorem dX8_put_31 : decode cX8_put 31 = .ok (.dup, 1) := by decide +kernel
theorem dX8_put_32 : decode cX8_put 32 = .ok (.getfield 15, 3) := by decide +kernel
theorem dX8_put_35 : decode cX8_put 35 = .ok (.iconst 1, 1) := by decide +kernel
theorem dX8_put_36 : decode cX8_put 36 = .ok (.iadd, 1) := by decide +kernel
theorem dX8_put_37 : decode cX8_put 37 = .ok (.putfield 15, 3) := by decide +kernel
theorem dX8_put_40 : decode cX8_put 40 = .ok (.iinc 2 (-8), 3) := by decide +kernel
theorem dX8_put_43 : decode cX8_put 43 = .ok (.goto (-40), 3) := by decide +kernel
theorem dX8_put_46 : decode cX8_put 46 = .ok (.return_, 1) := by decide +kernel
theorem dX0_allRooms_0 : decode cX0_allRooms 0 = .ok (.iconst 1, 1) := by decide +kernel
theorem dX0_allRooms_1 : decode cX0_allRooms 1 = .ok (.aload_n 0, 1) := by decide +kernel
theorem dX0_allRooms_2 : decode cX0_allRooms 2 = .ok (.getfield 21, 3) := by decide +kernel
theorem dX0_allRooms_5 : decode cX0_allRooms 5 = .ok (.getfield 43, 3) := by decide +kernel
theorem dX0_allRooms_8 : decode cX0_allRooms 8 = .ok (.ishl, 1) := by decide +kernel
theorem dX0_allRooms_9 : decode cX0_allRooms 9 = .ok (.iconst 1, 1) := by decide +kernel
theorem dX0_allRooms_10 : decode cX0_allRooms 10 = .ok (.isub, 1) := by decide +kernel
theorem dX0_allRooms_11 : decode cX0_allRooms 11 = .ok (.ireturn, 1) := by decide +kernel
theorem dX0_creakingRooms_0 : decode cX0_creakingRooms 0 = .ok (.iconst 0, 1) := by decide +kernel
theorem dX0_creakingRooms_1 : decode cX0_creakingRooms 1 = .ok (.istore_n 2, 1) := by decide +kernel
theorem dX0_creakingRooms_2 : decode cX0_creakingRooms 2 = .ok (.iconst 0, 1) := by decide +kernel
theorem dX0_creakingRooms_3 : decode cX0_creakingRooms 3 = .ok (.istore_n 3, 1) := by decide +kernel
theorem dX0_creakingRooms_4 : decode cX0_creakingRooms 4 = .ok (.iload_n 3, 1) := by decide +kernel
theorem dX0_creakingRooms_5 : decode cX0_creakingRooms 5 = .ok (.aload_n 0, 1) := by decide +kernel
theorem dX0_creakingRooms_6 : decode cX0_creakingRooms 6 = .ok (.getfield 21, 3) := by decide +kernel
theorem dX0_creakingRooms_9 : decode cX0_creakingRooms 9 = .ok (.getfield 43, 3) := by decide +kernel
theorem dX0_creakingRooms_12 : decode cX0_creakingRooms 12 = .ok (.if_icmp .ge 28, 3) := by decide +kernel
theorem dX0_creakingRooms_15 : decode cX0_creakingRooms 15 = .ok (.aload_n 0, 1) := by decide +kernel
theorem dX0_creakingRooms_16 : decode cX0_creakingRooms 16 = .ok (.getfield 21, 3) := by decide +kernel
theorem dX0_creakingRooms_19 : decode cX0_creakingRooms 19 = .ok (.getfield 88, 3) := by decide +kernel
theorem dX0_creakingRooms_22 : decode cX0_creakingRooms 22 = .ok (.iload_n 3, 1) := by decide +kernel
theorem dX0_creakingRooms_23 : decode cX0_creakingRooms 23 = .ok (.iaload, 1) := by decide +kernel
theorem dX0_creakingRooms_24 : decode cX0_creakingRooms 24 = .ok (.iload_n 1, 1) := by decide +kernel
theorem dX0_creakingRooms_25 : decode cX0_creakingRooms 25 = .ok (.if_icmp .lt 9, 3) := by decide +kernel
theorem dX0_creakingRooms_28 : decode cX0_creakingRooms 28 = .ok (.iload_n 2, 1) := by decide +kernel
theorem dX0_creakingRooms_29 : decode cX0_creakingRooms 29 = .ok (.iconst 1, 1) := by decide +kernel
theorem dX0_creakingRooms_30 : decode cX0_creakingRooms 30 = .ok (.iload_n 3, 1) := by decide +kernel
theorem dX0_creakingRooms_31 : decode cX0_creakingRooms 31 = .ok (.ishl, 1) := by decide +kernel
theorem dX0_creakingRooms_32 : decode cX0_creakingRooms 32 = .ok (.ior, 1) := by decide +kernel
theorem dX0_creakingRooms_33 : decode cX0_creakingRooms 33 = .ok (.istore_n 2, 1) := by decide +kernel
theorem dX0_creakingRooms_34 : decode cX0_creakingRooms 34 = .ok (.iinc 3 1, 3) := by decide +kernel
theorem dX0_creakingRooms_37 : decode cX0_creakingRooms 37 = .ok (.goto (-33), 3) := by decide +kernel
theorem dX0_creakingRooms_40 : decode cX0_creakingRooms 40 = .ok (.iload_n 2, 1) := by decide +kernel
theorem dX0_creakingRooms_41 : decode cX0_creakingRooms 41 = .ok (.ireturn, 1) := by decide +kernel
theorem dX0_behindDoors_0 : decode cX0_behindDoors 0 = .ok (.iconst 0, 1) := by decide +kernel
theorem dX0_behindDoors_1 : decode cX0_behindDoors 1 = .ok (.istore_n 2, 1) := by decide +kernel
theorem dX0_behindDoors_2 : decode cX0_behindDoors 2 = .ok (.iconst 0, 1) := by decide +kernel
theorem dX0_behindDoors_3 : decode cX0_behindDoors 3 = .ok (.istore_n 3, 1) := by decide +kernel
theorem dX0_behindDoors_4 : decode cX0_behindDoors 4 = .ok (.iload_n 3, 1) := by decide +kernel
theorem dX0_behindDoors_5 : decode cX0_behindDoors 5 = .ok (.aload_n 0, 1) := by decide +kernel
theorem dX0_behindDoors_6 : decode cX0_behindDoors 6 = .ok (.getfield 21, 3) := by decide +kernel
theorem dX0_behindDoors_9 : decode cX0_behindDoors 9 = .ok (.getfield 43, 3) := by decide +kernel
theorem dX0_behindDoors_12 : decode cX0_behindDoors 12 = .ok (.if_icmp .ge 27, 3) := by decide +kernel
theorem dX0_behindDoors_15 : decode cX0_behindDoors 15 = .ok (.iload_n 1, 1) := by decide +kernel
theorem dX0_behindDoors_16 : decode cX0_behindDoors 16 = .ok (.iload_n 3, 1) := by decide +kernel
theorem dX0_behindDoors_17 : decode cX0_behindDoors 17 = .ok (.ishr, 1) := by decide +kernel
theorem dX0_behindDoors_18 : decode cX0_behindDoors 18 = .ok (.iconst 1, 1) := by decide +kernel
theorem dX0_behindDoors_19 : decode cX0_behindDoors 19 = .ok (.iand, 1) := by decide +kernel
theorem dX0_behindDoors_20 : decode cX0_behindDoors 20 = .ok (.iconst 1, 1) := by decide +kernel
theorem dX0_behindDoors_21 : decode cX0_behindDoors 21 = .ok (.if_icmp .ne 12, 3) := by decide +kernel
theorem dX0_behindDoors_24 : decode cX0_behindDoors 24 = .ok (.iload_n 2, 1) := by decide +kernel
theorem dX0_behindDoors_25 : decode cX0_behindDoors 25 = .ok (.aload_n 0, 1) := by decide +kernel
theorem dX0_behindDoors_26 : decode cX0_behindDoors 26 = .ok (.getfield 9, 3) := by decide +kernel
theorem dX0_behindDoors_29 : decode cX0_behindDoors 29 = .ok (.iload_n 3, 1) := by decide +kernel
theorem dX0_behindDoors_30 : decode cX0_behindDoors 30 = .ok (.iaload, 1) := by decide +kernel
theorem dX0_behindDoors_31 : decode cX0_behindDoors 31 = .ok (.ior, 1) := by decide +kernel
theorem dX0_behindDoors_32 : decode cX0_behindDoors 32 = .ok (.istore_n 2, 1) := by decide +kernel
theorem dX0_behindDoors_33 : decode cX0_behindDoors 33 = .ok (.iinc 3 1, 3) := by decide +kernel
theorem dX0_behindDoors_36 : decode cX0_behindDoors 36 = .ok (.goto (-32), 3) := by decide +kernel
theorem dX0_behindDoors_39 : decode cX0_behindDoors 39 = .ok (.iload_n 2, 1) := by decide +kernel
theorem dX0_behindDoors_40 : decode cX0_behindDoors 40 = .ok (.ireturn, 1) := by decide +kernel
theorem dX0_reach_0 : decode cX0_reach 0 = .ok (.iconst 1, 1) := by decide +kernel
theorem dX0_reach_1 : decode cX0_reach 1 = .ok (.iload_n 1, 1) := by decide +kernel
theorem dX0_reach_2 : decode cX0_reach 2 = .ok (.ishl, 1) := by decide +kernel
theorem dX0_reach_3 : decode cX0_reach 3 = .ok (.istore_n 3, 1) := by decide +kernel
theorem dX0_reach_4 : decode cX0_reach 4 = .ok (.iconst 0, 1) := by decide +kernel
theorem dX0_reach_5 : decode cX0_reach 5 = .ok (.istore 4, 2) := by decide +kernel
theorem dX0_reach_7 : decode cX0_reach 7 = .ok (.iload 4, 2) := by decide +kernel
theorem dX0_reach_9 : decode cX0_reach 9 = .ok (.bipush 8, 2) := by decide +kernel
theorem dX0_reach_11 : decode cX0_reach 11 = .ok (.if_icmp .ge 19, 3) := by decide +kernel
theorem dX0_reach_14 : decode cX0_reach 14 = .ok (.iload_n 3, 1) := by decide +kernel
theorem dX0_reach_15 : decode cX0_reach 15 = .ok (.aload_n 0, 1) := by decide +kernel
theorem dX0_reach_16 : decode cX0_reach 16 = .ok (.iload_n 3, 1) := by decide +kernel
theorem dX0_reach_17 : decode cX0_reach 17 = .ok (.invokevirtual 57, 3) := by decide +kernel
theorem dX0_reach_20 : decode cX0_reach 20 = .ok (.iload_n 2, 1) := by decide +kernel
theorem dX0_reach_21 : decode cX0_reach 21 = .ok (.iand, 1) := by decide +kernel
theorem dX0_reach_22 : decode cX0_reach 22 = .ok (.ior, 1) := by decide +kernel
theorem dX0_reach_23 : decode cX0_reach 23 = .ok (.istore_n 3, 1) := by decide +kernel
theorem dX0_reach_24 : decode cX0_reach 24 = .ok (.iinc 4 1, 3) := by decide +kernel
theorem dX0_reach_27 : decode cX0_reach 27 = .ok (.goto (-20), 3) := by decide +kernel
theorem dX0_reach_30 : decode cX0_reach 30 = .ok (.iload_n 3, 1) := by decide +kernel
theorem dX0_reach_31 : decode cX0_reach 31 = .ok (.ireturn, 1) := by decide +kernel
theorem dX0_countPieces_0 : decode cX0_countPieces 0 = .ok (.iconst 0, 1) := by decide +kernel
theorem dX0_countPieces_1 : decode cX0_countPieces 1 = .ok (.istore_n 1, 1) := by decide +kernel
theorem dX0_countPieces_2 : decode cX0_countPieces 2 = .ok (.aload_n 0, 1) := by decide +kernel
theorem dX0_countPieces_3 : decode cX0_countPieces 3 = .ok (.invokevirtual 60, 3) := by decide +kernel
theorem dX0_countPieces_6 : decode cX0_countPieces 6 = .ok (.istore_n 2, 1) := by decide +kernel
theorem dX0_countPieces_7 : decode cX0_countPieces 7 = .ok (.iconst 0, 1) := by decide +kernel
theorem dX0_countPieces_8 : decode cX0_countPieces 8 = .ok (.istore_n 3, 1) := by decide +kernel
theorem dX0_countPieces_9 : decode cX0_countPieces 9 = .ok (.iload_n 3, 1) := by decide +kernel
theorem dX0_countPieces_10 : decode cX0_countPieces 10 = .ok (.aload_n 0, 1) := by decide +kernel
theorem dX0_countPieces_11 : decode cX0_countPieces 11 = .ok (.getfield 21, 3) := by decide +kernel
theorem dX0_countPieces_14 : decode cX0_countPieces 14 = .ok (.getfield 43, 3) := by decide +kernel
theorem dX0_countPieces_17 : decode cX0_countPieces 17 = .ok (.if_icmp .ge 35, 3) := by decide +kernel
theorem dX0_countPieces_20 : decode cX0_countPieces 20 = .ok (.iload_n 2, 1) := by decide +kernel
theorem dX0_countPieces_21 : decode cX0_countPieces 21 = .ok (.iload_n 3, 1) := by decide +kernel
theorem dX0_countPieces_22 : decode cX0_countPieces 22 = .ok (.ishr, 1) := by decide +kernel
theorem dX0_countPieces_23 : decode cX0_countPieces 23 = .ok (.iconst 1, 1) := by decide +kernel
theorem dX0_countPieces_24 : decode cX0_countPieces 24 = .ok (.iand, 1) := by decide +kernel
theorem dX0_countPieces_25 : decode cX0_countPieces 25 = .ok (.iconst 1, 1) := by decide +kernel
theorem dX0_countPieces_26 : decode cX0_countPieces 26 = .ok (.if_icmp .ne 20, 3) := by decide +kernel
theorem dX0_countPieces_29 : decode cX0_countPieces 29 = .ok (.iinc 1 1, 3) := by decide +kernel
theorem dX0_countPieces_32 : decode cX0_countPieces 32 = .ok (.iload_n 2, 1) := by decide +kernel
theorem dX0_countPieces_33 : decode cX0_countPieces 33 = .ok (.aload_n 0, 1) := by decide +kernel
theorem dX0_countPieces_34 : decode cX0_countPieces 34 = .ok (.iload_n 3, 1) := by decide +kernel
theorem dX0_countPieces_35 : decode cX0_countPieces 35 = .ok (.aload_n 0, 1) := by decide +kernel
theorem dX0_countPieces_36 : decode cX0_countPieces 36 = .ok (.invokevirtual 60, 3) := by decide +kernel
theorem dX0_countPieces_39 : decode cX0_countPieces 39 = .ok (.invokevirtual 64, 3) := by decide +kernel
theorem dX0_countPieces_42 : decode cX0_countPieces 42 = .ok (.iconst (-1), 1) := by decide +kernel
theorem dX0_countPieces_43 : decode cX0_countPieces 43 = .ok (.ixor, 1) := by decide +kernel
theorem dX0_countPieces_44 : decode cX0_countPieces 44 = .ok (.iand, 1) := by decide +kernel
theorem dX0_countPieces_45 : decode cX0_countPieces 45 = .ok (.istore_n 2, 1) := by decide +kernel
theorem dX0_countPieces_46 : decode cX0_countPieces 46 = .ok (.iinc 3 1, 3) := by decide +kernel
theorem dX0_countPieces_49 : decode cX0_countPieces 49 = .ok (.goto (-40), 3) := by decide +kernel
theorem dX0_countPieces_52 : decode cX0_countPieces 52 = .ok (.iload_n 1, 1) := by decide +kernel
theorem dX0_countPieces_53 : decode cX0_countPieces 53 = .ok (.ireturn, 1) := by decide +kernel
theorem dX0_farOf_0 : decode cX0_farOf 0 = .ok (.aload_n 0, 1) := by decide +kernel
theorem dX0_farOf_1 : decode cX0_farOf 1 = .ok (.getfield 15, 3) := by decide +kernel
theorem dX0_farOf_4 : decode cX0_farOf 4 = .ok (.iload_n 1, 1) := by decide +kernel
theorem dX0_farOf_5 : decode cX0_farOf 5 = .ok (.bipush 8, 2) := by decide +kernel
theorem dX0_farOf_7 : decode cX0_farOf 7 = .ok (.imul, 1) := by decide +kernel
theorem dX0_farOf_8 : decode cX0_farOf 8 = .ok (.iload_n 2, 1) := by decide +kernel
theorem dX0_farOf_9 : decode cX0_farOf 9 = .ok (.iadd, 1) := by decide +kernel
theorem dX0_farOf_10 : decode cX0_farOf 10 = .ok (.iaload, 1) := by decide +kernel
theorem dX0_farOf_11 : decode cX0_farOf 11 = .ok (.ireturn, 1) := by decide +kernel
theorem dX0_farthestFrom_0 : decode cX0_farthestFrom 0 = .ok (.iconst 0, 1) := by decide +kernel
theorem dX0_farthestFrom_1 : decode cX0_farthestFrom 1 = .ok (.istore_n 2, 1) := by decide +kernel
theorem dX0_farthestFrom_2 : decode cX0_farthestFrom 2 = .ok (.iconst 0, 1) := by decide +kernel
theorem dX0_farthestFrom_3 : decode cX0_farthestFrom 3 = .ok (.istore_n 3, 1) := by decide +kernel
theorem dX0_farthestFrom_4 : decode cX0_farthestFrom 4 = .ok (.iload_n 3, 1) := by decide +kernel
theorem dX0_farthestFrom_5 : decode cX0_farthestFrom 5 = .ok (.aload_n 0, 1) := by decide +kernel
theorem dX0_farthestFrom_6 : decode cX0_farthestFrom 6 = .ok (.getfield 21, 3) := by decide +kernel
theorem dX0_farthestFrom_9 : decode cX0_farthestFrom 9 = .ok (.getfield 43, 3) := by decide +kernel
theorem dX0_farthestFrom_12 : decode cX0_farthestFrom 12 = .ok (.if_icmp .ge 20, 3) := by decide +kernel
theorem dX0_farthestFrom_15 : decode cX0_farthestFrom 15 = .ok (.iload_n 2, 1) := by decide +kernel
theorem dX0_farthestFrom_16 : decode cX0_farthestFrom 16 = .ok (.aload_n 0, 1) := by decide +kernel
theorem dX0_farthestFrom_17 : decode cX0_farthestFrom 17 = .ok (.iload_n 1, 1) := by decide +kernel
theorem dX0_farthestFrom_18 : decode cX0_farthestFrom 18 = .ok (.iload_n 3, 1) := by decide +kernel
theorem dX0_farthestFrom_19 : decode cX0_farthestFrom 19 = .ok (.invokevirtual 68, 3) := by decide +kernel
theorem dX0_farthestFrom_22 : decode cX0_farthestFrom 22 = .ok (.invokestatic 71, 3) := by decide +kernel
theorem dX0_farthestFrom_25 : decode cX0_farthestFrom 25 = .ok (.istore_n 2, 1) := by decide +kernel
theorem dX0_farthestFrom_26 : decode cX0_farthestFrom 26 = .ok (.iinc 3 1, 3) := by decide +kernel
theorem dX0_farthestFrom_29 : decode cX0_farthestFrom 29 = .ok (.goto (-25), 3) := by decide +kernel
theorem dX0_farthestFrom_32 : decode cX0_farthestFrom 32 = .ok (.iload_n 2, 1) := by decide +kernel
theorem dX0_farthestFrom_33 : decode cX0_farthestFrom 33 = .ok (.ireturn, 1) := by decide +kernel
theorem dX0_middleRoom_0 : decode cX0_middleRoom 0 = .ok (.iconst (-1), 1) := by decide +kernel
theorem dX0_middleRoom_1 : decode cX0_middleRoom 1 = .ok (.istore_n 1, 1) := by decide +kernel
theorem dX0_middleRoom_2 : decode cX0_middleRoom 2 = .ok (.bipush 8, 2) := by decide +kernel
theorem dX0_middleRoom_4 : decode cX0_middleRoom 4 = .ok (.istore_n 2, 1) := by decide +kernel
theorem dX0_middleRoom_5 : decode cX0_middleRoom 5 = .ok (.iconst 0, 1) := by decide +kernel
theorem dX0_middleRoom_6 : decode cX0_middleRoom 6 = .ok (.istore_n 3, 1) := by decide +kernel
theorem dX0_middleRoom_7 : decode cX0_middleRoom 7 = .ok (.iload_n 3, 1) := by decide +kernel
theorem dX0_middleRoom_8 : decode cX0_middleRoom 8 = .ok (.aload_n 0, 1) := by decide +kernel
theorem dX0_middleRoom_9 : decode cX0_middleRoom 9 = .ok (.getfield 21, 3) := by decide +kernel
theorem dX0_middleRoom_12 : decode cX0_middleRoom 12 = .ok (.getfield 43, 3) := by decide +kernel
theorem dX0_middleRoom_15 : decode cX0_middleRoom 15 = .ok (.if_icmp .ge 27, 3) := by decide +kernel
theorem dX0_middleRoom_18 : decode cX0_middleRoom 18 = .ok (.aload_n 0, 1) := by decide +kernel
theorem dX0_middleRoom_19 : decode cX0_middleRoom 19 = .ok (.iload_n 3, 1) := by decide +kernel
theorem dX0_middleRoom_20 : decode cX0_middleRoom 20 = .ok (.invokevirtual 85, 3) := by decide +kernel
theorem dX0_middleRoom_23 : decode cX0_middleRoom 23 = .ok (.istore 4, 2) := by decide +kernel
theorem dX0_middleRoom_25 : decode cX0_middleRoom 25 = .ok (.iload 4, 2) := by decide +kernel
theorem dX0_middleRoom_27 : decode cX0_middleRoom 27 = .ok (.iload_n 2, 1) := by decide +kernel
theorem dX0_middleRoom_28 : decode cX0_middleRoom 28 = .ok (.if_icmp .ge 8, 3) := by decide +kernel
theorem dX0_middleRoom_31 : decode cX0_middleRoom 31 = .ok (.iload 4, 2) := by decide +kernel
theorem dX0_middleRoom_33 : decode cX0_middleRoom 33 = .ok (.istore_n 2, 1) := by decide +kernel
theorem dX0_middleRoom_34 : decode cX0_middleRoom 34 = .ok (.iload_n 3, 1) := by decide +kernel
theorem dX0_middleRoom_35 : decode cX0_middleRoom 35 = .ok (.istore_n 1, 1) := by decide +kernel
theorem dX0_middleRoom_36 : decode cX0_middleRoom 36 = .ok (.iinc 3 1, 3) := by decide +kernel
theorem dX0_middleRoom_39 : decode cX0_middleRoom 39 = .ok (.goto (-32), 3) := by decide +kernel
theorem dX0_middleRoom_42 : decode cX0_middleRoom 42 = .ok (.iload_n 1, 1) := by decide +kernel
theorem dX0_middleRoom_43 : decode cX0_middleRoom 43 = .ok (.ireturn, 1) := by decide +kernel
theorem dX0_minutesTo_0 : decode cX0_minutesTo 0 = .ok (.aload_n 0, 1) := by decide +kernel
theorem dX0_minutesTo_1 : decode cX0_minutesTo 1 = .ok (.iload_n 2, 1) := by decide +kernel
theorem dX0_minutesTo_2 : decode cX0_minutesTo 2 = .ok (.iload_n 1, 1) := by decide +kernel
theorem dX0_minutesTo_3 : decode cX0_minutesTo 3 = .ok (.invokevirtual 68, 3) := by decide +kernel
theorem dX0_minutesTo_6 : decode cX0_minutesTo 6 = .ok (.aload_n 0, 1) := by decide +kernel
theorem dX0_minutesTo_7 : decode cX0_minutesTo 7 = .ok (.iload_n 3, 1) := by decide +kernel
theorem dX0_minutesTo_8 : decode cX0_minutesTo 8 = .ok (.iload_n 1, 1) := by decide +kernel
theorem dX0_minutesTo_9 : decode cX0_minutesTo 9 = .ok (.invokevirtual 68, 3) := by decide +kernel
theorem dX0_minutesTo_12 : decode cX0_minutesTo 12 = .ok (.invokestatic 71, 3) := by decide +kernel
theorem dX0_minutesTo_15 : decode cX0_minutesTo 15 = .ok (.ireturn, 1) := by decide +kernel
theorem dX0_meetingRoom_0 : decode cX0_meetingRoom 0 = .ok (.aload_n 0, 1) := by decide +kernel
theorem dX0_meetingRoom_1 : decode cX0_meetingRoom 1 = .ok (.iload_n 1, 1) := by decide +kernel
theorem dX0_meetingRoom_2 : decode cX0_meetingRoom 2 = .ok (.iload_n 2, 1) := by decide +kernel
theorem dX0_meetingRoom_3 : decode cX0_meetingRoom 3 = .ok (.invokevirtual 68, 3) := by decide +kernel
theorem dX0_meetingRoom_6 : decode cX0_meetingRoom 6 = .ok (.iconst (-1), 1) := by decide +kernel
theorem dX0_meetingRoom_7 : decode cX0_meetingRoom 7 = .ok (.if_icmp .ne 5, 3) := by decide +kernel
theorem dX0_meetingRoom_10 : decode cX0_meetingRoom 10 = .ok (.iconst (-1), 1) := by decide +kernel
theorem dX0_meetingRoom_11 : decode cX0_meetingRoom 11 = .ok (.ireturn, 1) := by decide +kernel
theorem dX0_meetingRoom_12 : decode cX0_meetingRoom 12 = .ok (.iconst (-1), 1) := by decide +kernel
theorem dX0_meetingRoom_13 : decode cX0_meetingRoom 13 = .ok (.istore_n 3, 1) := by decide +kernel
theorem dX0_meetingRoom_14 : decode cX0_meetingRoom 14 = .ok (.bipush 8, 2) := by decide +kernel
theorem dX0_meetingRoom_16 : decode cX0_meetingRoom 16 = .ok (.istore 4, 2) := by decide +kernel
theorem dX0_meetingRoom_18 : decode cX0_meetingRoom 18 = .ok (.iconst 0, 1) := by decide +kernel
theorem dX0_meetingRoom_19 : decode cX0_meetingRoom 19 = .ok (.istore 5, 2) := by decide +kernel
theorem dX0_meetingRoom_21 : decode cX0_meetingRoom 21 = .ok (.iload 5, 2) := by decide +kernel
theorem dX0_meetingRoom_23 : decode cX0_meetingRoom 23 = .ok (.aload_n 0, 1) := by decide +kernel
theorem dX0_meetingRoom_24 : decode cX0_meetingRoom 24 = .ok (.getfield 21, 3) := by decide +kernel
theorem dX0_meetingRoom_27 : decode cX0_meetingRoom 27 = .ok (.getfield 43, 3) := by decide +kernel
theorem dX0_meetingRoom_30 : decode cX0_meetingRoom 30 = .ok (.if_icmp .ge 46, 3) := by decide +kernel
theorem dX0_meetingRoom_33 : decode cX0_meetingRoom 33 = .ok (.aload_n 0, 1) := by decide +kernel
theorem dX0_meetingRoom_34 : decode cX0_meetingRoom 34 = .ok (.iload_n 1, 1) := by decide +kernel
theorem dX0_meetingRoom_35 : decode cX0_meetingRoom 35 = .ok (.iload 5, 2) := by decide +kernel
theorem dX0_meetingRoom_37 : decode cX0_meetingRoom 37 = .ok (.invokevirtual 68, 3) := by decide +kernel
theorem dX0_meetingRoom_40 : decode cX0_meetingRoom 40 = .ok (.iconst (-1), 1) := by decide +kernel
theorem dX0_meetingRoom_41 : decode cX0_meetingRoom 41 = .ok (.if_icmp .eq 29, 3) := by decide +kernel
theorem dX0_meetingRoom_44 : decode cX0_meetingRoom 44 = .ok (.aload_n 0, 1) := by decide +kernel
theorem dX0_meetingRoom_45 : decode cX0_meetingRoom 45 = .ok (.iload 5, 2) := by decide +kernel
theorem dX0_meetingRoom_47 : decode cX0_meetingRoom 47 = .ok (.iload_n 1, 1) := by decide +kernel
theorem dX0_meetingRoom_48 : decode cX0_meetingRoom 48 = .ok (.iload_n 2, 1) := by decide +kernel
theorem dX0_meetingRoom_49 : decode cX0_meetingRoom 49 = .ok (.invokevirtual 76, 3) := by decide +kernel
theorem dX0_meetingRoom_52 : decode cX0_meetingRoom 52 = .ok (.iload 4, 2) := by decide +kernel
theorem dX0_meetingRoom_54 : decode cX0_meetingRoom 54 = .ok (.if_icmp .ge 16, 3) := by decide +kernel
theorem dX0_meetingRoom_57 : decode cX0_meetingRoom 57 = .ok (.aload_n 0, 1) := by decide +kernel
theorem dX0_meetingRoom_58 : decode cX0_meetingRoom 58 = .ok (.iload 5, 2) := by decide +kernel
theorem dX0_meetingRoom_60 : decode cX0_meetingRoom 60 = .ok (.iload_n 1, 1) := by decide +kernel
theorem dX0_meetingRoom_61 : decode cX0_meetingRoom 61 = .ok (.iload_n 2, 1) := by decide +kernel
theorem dX0_meetingRoom_62 : decode cX0_meetingRoom 62 = .ok (.invokevirtual 76, 3) := by decide +kernel
theorem dX0_meetingRoom_65 : decode cX0_meetingRoom 65 = .ok (.istore 4, 2) := by decide +kernel
theorem dX0_meetingRoom_67 : decode cX0_meetingRoom 67 = .ok (.iload 5, 2) := by decide +kernel
theorem dX0_meetingRoom_69 : decode cX0_meetingRoom 69 = .ok (.istore_n 3, 1) := by decide +kernel
theorem dX0_meetingRoom_70 : decode cX0_meetingRoom 70 = .ok (.iinc 5 1, 3) := by decide +kernel
theorem dX0_meetingRoom_73 : decode cX0_meetingRoom 73 = .ok (.goto (-52), 3) := by decide +kernel
theorem dX0_meetingRoom_76 : decode cX0_meetingRoom 76 = .ok (.iload_n 3, 1) := by decide +kernel
theorem dX0_meetingRoom_77 : decode cX0_meetingRoom 77 = .ok (.ireturn, 1) := by decide +kernel
theorem dX0_barringRooms_0 : decode cX0_barringRooms 0 = .ok (.aload_n 0, 1) := by decide +kernel
theorem dX0_barringRooms_1 : decode cX0_barringRooms 1 = .ok (.invokevirtual 60, 3) := by decide +kernel
theorem dX0_barringRooms_4 : decode cX0_barringRooms 4 = .ok (.iconst 1, 1) := by decide +kernel
theorem dX0_barringRooms_5 : decode cX0_barringRooms 5 = .ok (.iload_n 1, 1) := by decide +kernel
theorem dX0_barringRooms_6 : decode cX0_barringRooms 6 = .ok (.ishl, 1) := by decide +kernel
theorem dX0_barringRooms_7 : decode cX0_barringRooms 7 = .ok (.iconst 1, 1) := by decide +kernel
theorem dX0_barringRooms_8 : decode cX0_barringRooms 8 = .ok (.iload_n 2, 1) := by decide +kernel
theorem dX0_barringRooms_9 : decode cX0_barringRooms 9 = .ok (.ishl, 1) := by decide +kernel
theorem dX0_barringRooms_10 : decode cX0_barringRooms 10 = .ok (.ior, 1) := by decide +kernel
theorem dX0_barringRooms_11 : decode cX0_barringRooms 11 = .ok (.iconst (-1), 1) := by decide +kernel
theorem dX0_barringRooms_12 : decode cX0_barringRooms 12 = .ok (.ixor, 1) := by decide +kernel
theorem dX0_barringRooms_13 : decode cX0_barringRooms 13 = .ok (.iand, 1) := by decide +kernel
theorem dX0_barringRooms_14 : decode cX0_barringRooms 14 = .ok (.istore_n 3, 1) := by decide +kernel
theorem dX0_barringRooms_15 : decode cX0_barringRooms 15 = .ok (.iconst 0, 1) := by decide +kernel
theorem dX0_barringRooms_16 : decode cX0_barringRooms 16 = .ok (.istore 4, 2) := by decide +kernel
theorem dX0_barringRooms_18 : decode cX0_barringRooms 18 = .ok (.iload_n 1, 1) := by decide +kernel
theorem dX0_barringRooms_19 : decode cX0_barringRooms 19 = .ok (.iload_n 2, 1) := by decide +kernel
theorem dX0_barringRooms_20 : decode cX0_barringRooms 20 = .ok (.if_icmp .eq 80, 3) := by decide +kernel
theorem dX0_barringRooms_23 : decode cX0_barringRooms 23 = .ok (.iload 4, 2) := by decide +kernel
theorem dX0_barringRooms_25 : decode cX0_barringRooms 25 = .ok (.iconst 3, 1) := by decide +kernel
theorem dX0_barringRooms_26 : decode cX0_barringRooms 26 = .ok (.if_icmp .gt 74, 3) := by decide +kernel
theorem dX0_barringRooms_29 : decode cX0_barringRooms 29 = .ok (.iconst 0, 1) := by decide +kernel
theorem dX0_barringRooms_30 : decode cX0_barringRooms 30 = .ok (.istore 5, 2) := by decide +kernel
theorem dX0_barringRooms_32 : decode cX0_barringRooms 32 = .ok (.iload 5, 2) := by decide +kernel
theorem dX0_barringRooms_34 : decode cX0_barringRooms 34 = .ok (.iload_n 3, 1) := by decide +kernel
theorem dX0_barringRooms_35 : decode cX0_barringRooms 35 = .ok (.if_icmp .gt 59, 3) := by decide +kernel
theorem dX0_barringRooms_38 : decode cX0_barringRooms 38 = .ok (.iload 5, 2) := by decide +kernel
theorem dX0_barringRooms_40 : decode cX0_barringRooms 40 = .ok (.iload_n 3, 1) := by decide +kernel
theorem dX0_barringRooms_41 : decode cX0_barringRooms 41 = .ok (.iconst (-1), 1) := by decide +kernel
theorem dX0_barringRooms_42 : decode cX0_barringRooms 42 = .ok (.ixor, 1) := by decide +kernel
theorem dX0_barringRooms_43 : decode cX0_barringRooms 43 = .ok (.iand, 1) := by decide +kernel
theorem dX0_barringRooms_44 : decode cX0_barringRooms 44 = .ok (.ifCond .ne 17, 3) := by decide +kernel
theorem dX0_barringRooms_47 : decode cX0_barringRooms 47 = .ok (.iload 5, 2) := by decide +kernel
theorem dX0_barringRooms_49 : decode cX0_barringRooms 49 = .ok (.invokestatic 80, 3) := by decide +kernel
theorem dX0_barringRooms_52 : decode cX0_barringRooms 52 = .ok (.iload 4, 2) := by decide +kernel
theorem dX0_barringRooms_54 : decode cX0_barringRooms 54 = .ok (.if_icmp .ne 7, 3) := by decide +kernel
theorem dX0_barringRooms_57 : decode cX0_barringRooms 57 = .ok (.iconst 1, 1) := by decide +kernel
theorem dX0_barringRooms_58 : decode cX0_barringRooms 58 = .ok (.goto 4, 3) := by decide +kernel
theorem dX0_barringRooms_61 : decode cX0_barringRooms 61 = .ok (.iconst 0, 1) := by decide +kernel
theorem dX0_barringRooms_62 : decode cX0_barringRooms 62 = .ok (.istore 6, 2) := by decide +kernel
theorem dX0_barringRooms_64 : decode cX0_barringRooms 64 = .ok (.iload 6, 2) := by decide +kernel
theorem dX0_barringRooms_66 : decode cX0_barringRooms 66 = .ok (.ifCond .eq 22, 3) := by decide +kernel
theorem dX0_barringRooms_69 : decode cX0_barringRooms 69 = .ok (.aload_n 0, 1) := by decide +kernel
theorem dX0_barringRooms_70 : decode cX0_barringRooms 70 = .ok (.iload_n 1, 1) := by decide +kernel
theorem dX0_barringRooms_71 : decode cX0_barringRooms 71 = .ok (.iload 5, 2) := by decide +kernel
theorem dX0_barringRooms_73 : decode cX0_barringRooms 73 = .ok (.iconst (-1), 1) := by decide +kernel
theorem dX0_barringRooms_74 : decode cX0_barringRooms 74 = .ok (.ixor, 1) := by decide +kernel
theorem dX0_barringRooms_75 : decode cX0_barringRooms 75 = .ok (.invokevirtual 64, 3) := by decide +kernel
theorem dX0_barringRooms_78 : decode cX0_barringRooms 78 = .ok (.iload_n 2, 1) := by decide +kernel
theorem dX0_barringRooms_79 : decode cX0_barringRooms 79 = .ok (.ishr, 1) := by decide +kernel
theorem dX0_barringRooms_80 : decode cX0_barringRooms 80 = .ok (.iconst 1, 1) := by decide +kernel
theorem dX0_barringRooms_81 : decode cX0_barringRooms 81 = .ok (.iand, 1) := by decide +kernel
theorem dX0_barringRooms_82 : decode cX0_barringRooms 82 = .ok (.ifCond .ne 6, 3) := by decide +kernel
theorem dX0_barringRooms_85 : decode cX0_barringRooms 85 = .ok (.iload 5, 2) := by decide +kernel
theorem dX0_barringRooms_87 : decode cX0_barringRooms 87 = .ok (.ireturn, 1) := by decide +kernel
theorem dX0_barringRooms_88 : decode cX0_barringRooms 88 = .ok (.iinc 5 1, 3) := by decide +kernel
theorem dX0_barringRooms_91 : decode cX0_barringRooms 91 = .ok (.goto (-59), 3) := by decide +kernel
theorem dX0_barringRooms_94 : decode cX0_barringRooms 94 = .ok (.iinc 4 1, 3) := by decide +kernel
theorem dX0_barringRooms_97 : decode cX0_barringRooms 97 = .ok (.goto (-79), 3) := by decide +kernel
theorem dX0_barringRooms_100 : decode cX0_barringRooms 100 = .ok (.iconst (-1), 1) := by decide +kernel
theorem dX0_barringRooms_101 : decode cX0_barringRooms 101 = .ok (.ireturn, 1) := by decide +kernel
theorem dX0_measureFrom_0 : decode cX0_measureFrom 0 = .ok (.iconst 0, 1) := by decide +kernel
theorem dX0_measureFrom_1 : decode cX0_measureFrom 1 = .ok (.istore_n 2, 1) := by decide +kernel
theorem dX0_measureFrom_2 : decode cX0_measureFrom 2 = .ok (.iconst 1, 1) := by decide +kernel
theorem dX0_measureFrom_3 : decode cX0_measureFrom 3 = .ok (.iload_n 1, 1) := by decide +kernel
theorem dX0_measureFrom_4 : decode cX0_measureFrom 4 = .ok (.ishl, 1) := by decide +kernel
theorem dX0_measureFrom_5 : decode cX0_measureFrom 5 = .ok (.istore_n 3, 1) := by decide +kernel
theorem dX0_measureFrom_6 : decode cX0_measureFrom 6 = .ok (.iconst 0, 1) := by decide +kernel
theorem dX0_measureFrom_7 : decode cX0_measureFrom 7 = .ok (.istore 4, 2) := by decide +kernel
theorem dX0_measureFrom_9 : decode cX0_measureFrom 9 = .ok (.iload 4, 2) := by decide +kernel
theorem dX0_measureFrom_11 : decode cX0_measureFrom 11 = .ok (.aload_n 0, 1) := by decide +kernel
theorem dX0_measureFrom_12 : decode cX0_measureFrom 12 = .ok (.getfield 21, 3) := by decide +kernel
theorem dX0_measureFrom_15 : decode cX0_measureFrom 15 = .ok (.getfield 43, 3) := by decide +kernel
theorem dX0_measureFrom_18 : decode cX0_measureFrom 18 = .ok (.if_icmp .ge 68, 3) := by decide +kernel
theorem dX0_measureFrom_21 : decode cX0_measureFrom 21 = .ok (.iconst 0, 1) := by decide +kernel
theorem dX0_measureFrom_22 : decode cX0_measureFrom 22 = .ok (.istore 5, 2) := by decide +kernel
theorem dX0_measureFrom_24 : decode cX0_measureFrom 24 = .ok (.iload 5, 2) := by decide +kernel
theorem dX0_measureFrom_26 : decode cX0_measureFrom 26 = .ok (.aload_n 0, 1) := by decide +kernel
theorem dX0_measureFrom_27 : decode cX0_measureFrom 27 = .ok (.getfield 21, 3) := by decide +kernel
theorem dX0_measureFrom_30 : decode cX0_measureFrom 30 = .ok (.getfield 43, 3) := by decide +kernel
theorem dX0_measureFrom_33 : decode cX0_measureFrom 33 = .ok (.if_icmp .ge 33, 3) := by decide +kernel
theorem dX0_measureFrom_36 : decode cX0_measureFrom 36 = .ok (.iload_n 3, 1) := by decide +kernel
theorem dX0_measureFrom_37 : decode cX0_measureFrom 37 = .ok (.iload 5, 2) := by decide +kernel
theorem dX0_measureFrom_39 : decode cX0_measureFrom 39 = .ok (.ishr, 1) := by decide +kernel
theorem dX0_measureFrom_40 : decode cX0_measureFrom 40 = .ok (.iconst 1, 1) := by decide +kernel
theorem dX0_measureFrom_41 : decode cX0_measureFrom 41 = .ok (.iand, 1) := by decide +kernel
theorem dX0_measureFrom_42 : decode cX0_measureFrom 42 = .ok (.iconst 1, 1) := by decide +kernel
theorem dX0_measureFrom_43 : decode cX0_measureFrom 43 = .ok (.if_icmp .ne 17, 3) := by decide +kernel
theorem dX0_measureFrom_46 : decode cX0_measureFrom 46 = .ok (.aload_n 0, 1) := by decide +kernel
theorem dX0_measureFrom_47 : decode cX0_measureFrom 47 = .ok (.getfield 15, 3) := by decide +kernel
theorem dX0_measureFrom_50 : decode cX0_measureFrom 50 = .ok (.iload_n 1, 1) := by decide +kernel
theorem dX0_measureFrom_51 : decode cX0_measureFrom 51 = .ok (.bipush 8, 2) := by decide +kernel
theorem dX0_measureFrom_53 : decode cX0_measureFrom 53 = .ok (.imul, 1) := by decide +kernel
theorem dX0_measureFrom_54 : decode cX0_measureFrom 54 = .ok (.iload 5, 2) := by decide +kernel
theorem dX0_measureFrom_56 : decode cX0_measureFrom 56 = .ok (.iadd, 1) := by decide +kernel
theorem dX0_measureFrom_57 : decode cX0_measureFrom 57 = .ok (.iload 4, 2) := by decide +kernel
theorem dX0_measureFrom_59 : decode cX0_measureFrom 59 = .ok (.iastore, 1) := by decide +kernel
theorem dX0_measureFrom_60 : decode cX0_measureFrom 60 = .ok (.iinc 5 1, 3) := by decide +kernel
theorem dX0_measureFrom_63 : decode cX0_measureFrom 63 = .ok (.goto (-39), 3) := by decide +kernel
theorem dX0_measureFrom_66 : decode cX0_measureFrom 66 = .ok (.iload_n 2, 1) := by decide +kernel
theorem dX0_measureFrom_67 : decode cX0_measureFrom 67 = .ok (.iload_n 3, 1) := by decide +kernel
theorem dX0_measureFrom_68 : decode cX0_measureFrom 68 = .ok (.ior, 1) := by decide +kernel
theorem dX0_measureFrom_69 : decode cX0_measureFrom 69 = .ok (.istore_n 2, 1) := by decide +kernel
theorem dX0_measureFrom_70 : decode cX0_measureFrom 70 = .ok (.aload_n 0, 1) := by decide +kernel
theorem dX0_measureFrom_71 : decode cX0_measureFrom 71 = .ok (.iload_n 3, 1) := by decide +kernel
theorem dX0_measureFrom_72 : decode cX0_measureFrom 72 = .ok (.invokevirtual 57, 3) := by decide +kernel
theorem dX0_measureFrom_75 : decode cX0_measureFrom 75 = .ok (.iload_n 2, 1) := by decide +kernel
theorem dX0_measureFrom_76 : decode cX0_measureFrom 76 = .ok (.iconst (-1), 1) := by decide +kernel
theorem dX0_measureFrom_77 : decode cX0_measureFrom 77 = .ok (.ixor, 1) := by decide +kernel
theorem dX0_measureFrom_78 : decode cX0_measureFrom 78 = .ok (.iand, 1) := by decide +kernel
theorem dX0_measureFrom_79 : decode cX0_measureFrom 79 = .ok (.istore_n 3, 1) := by decide +kernel
theorem dX0_measureFrom_80 : decode cX0_measureFrom 80 = .ok (.iinc 4 1, 3) := by decide +kernel
theorem dX0_measureFrom_83 : decode cX0_measureFrom 83 = .ok (.goto (-74), 3) := by decide +kernel
theorem dX0_measureFrom_86 : decode cX0_measureFrom 86 = .ok (.return_, 1) := by decide +kernel
theorem dX0_nearSide_0 : decode cX0_nearSide 0 = .ok (.aload_n 0, 1) := by decide +kernel
theorem dX0_nearSide_1 : decode cX0_nearSide 1 = .ok (.getfield 21, 3) := by decide +kernel
theorem dX0_nearSide_4 : decode cX0_nearSide 4 = .ok (.getfield 37, 3) := by decide +kernel
theorem dX0_nearSide_7 : decode cX0_nearSide 7 = .ok (.iload_n 1, 1) := by decide +kernel
theorem dX0_nearSide_8 : decode cX0_nearSide 8 = .ok (.iaload, 1) := by decide +kernel
theorem dX0_nearSide_9 : decode cX0_nearSide 9 = .ok (.istore_n 2, 1) := by decide +kernel
theorem dX0_nearSide_10 : decode cX0_nearSide 10 = .ok (.aload_n 0, 1) := by decide +kernel
theorem dX0_nearSide_11 : decode cX0_nearSide 11 = .ok (.getfield 21, 3) := by decide +kernel
theorem dX0_nearSide_14 : decode cX0_nearSide 14 = .ok (.getfield 40, 3) := by decide +kernel
theorem dX0_nearSide_17 : decode cX0_nearSide 17 = .ok (.iload_n 1, 1) := by decide +kernel
theorem dX0_nearSide_18 : decode cX0_nearSide 18 = .ok (.iaload, 1) := by decide +kernel
theorem dX0_nearSide_19 : decode cX0_nearSide 19 = .ok (.istore_n 3, 1) := by decide +kernel
theorem dX0_nearSide_20 : decode cX0_nearSide 20 = .ok (.aload_n 0, 1) := by decide +kernel
theorem dX0_nearSide_21 : decode cX0_nearSide 21 = .ok (.getfield 9, 3) := by decide +kernel
theorem dX0_nearSide_24 : decode cX0_nearSide 24 = .ok (.iload_n 2, 1) := by decide +kernel
theorem dX0_nearSide_25 : decode cX0_nearSide 25 = .ok (.dup2, 1) := by decide +kernel
theorem dX0_nearSide_26 : decode cX0_nearSide 26 = .ok (.iaload, 1) := by decide +kernel
theorem dX0_nearSide_27 : decode cX0_nearSide 27 = .ok (.iconst 1, 1) := by decide +kernel
theorem dX0_nearSide_28 : decode cX0_nearSide 28 = .ok (.iload_n 3, 1) := by decide +kernel
theorem dX0_nearSide_29 : decode cX0_nearSide 29 = .ok (.ishl, 1) := by decide +kernel
theorem dX0_nearSide_30 : decode cX0_nearSide 30 = .ok (.ixor, 1) := by decide +kernel
theorem dX0_nearSide_31 : decode cX0_nearSide 31 = .ok (.iastore, 1) := by decide +kernel
theorem dX0_nearSide_32 : decode cX0_nearSide 32 = .ok (.aload_n 0, 1) := by decide +kernel
theorem dX0_nearSide_33 : decode cX0_nearSide 33 = .ok (.getfield 9, 3) := by decide +kernel
theorem dX0_nearSide_36 : decode cX0_nearSide 36 = .ok (.iload_n 3, 1) := by decide +kernel
theorem dX0_nearSide_37 : decode cX0_nearSide 37 = .ok (.dup2, 1) := by decide +kernel
theorem dX0_nearSide_38 : decode cX0_nearSide 38 = .ok (.iaload, 1) := by decide +kernel
theorem dX0_nearSide_39 : decode cX0_nearSide 39 = .ok (.iconst 1, 1) := by decide +kernel
theorem dX0_nearSide_40 : decode cX0_nearSide 40 = .ok (.iload_n 2, 1) := by decide +kernel
theorem dX0_nearSide_41 : decode cX0_nearSide 41 = .ok (.ishl, 1) := by decide +kernel
theorem dX0_nearSide_42 : decode cX0_nearSide 42 = .ok (.ixor, 1) := by decide +kernel
theorem dX0_nearSide_43 : decode cX0_nearSide 43 = .ok (.iastore, 1) := by decide +kernel
theorem dX0_nearSide_44 : decode cX0_nearSide 44 = .ok (.aload_n 0, 1) := by decide +kernel
theorem dX0_nearSide_45 : decode cX0_nearSide 45 = .ok (.iload_n 2, 1) := by decide +kernel
theorem dX0_nearSide_46 : decode cX0_nearSide 46 = .ok (.aload_n 0, 1) := by decide +kernel
theorem dX0_nearSide_47 : decode cX0_nearSide 47 = .ok (.invokevirtual 60, 3) := by decide +kernel
theorem dX0_nearSide_50 : decode cX0_nearSide 50 = .ok (.invokevirtual 64, 3) := by decide +kernel
theorem dX0_nearSide_53 : decode cX0_nearSide 53 = .ok (.istore 4, 2) := by decide +kernel
theorem dX0_nearSide_55 : decode cX0_nearSide 55 = .ok (.aload_n 0, 1) := by decide +kernel
theorem dX0_nearSide_56 : decode cX0_nearSide 56 = .ok (.getfield 9, 3) := by decide +kernel
theorem dX0_nearSide_59 : decode cX0_nearSide 59 = .ok (.iload_n 2, 1) := by decide +kernel
theorem dX0_nearSide_60 : decode cX0_nearSide 60 = .ok (.dup2, 1) := by decide +kernel
theorem dX0_nearSide_61 : decode cX0_nearSide 61 = .ok (.iaload, 1) := by decide +kernel
theorem dX0_nearSide_62 : decode cX0_nearSide 62 = .ok (.iconst 1, 1) := by decide +kernel
theorem dX0_nearSide_63 : decode cX0_nearSide 63 = .ok (.iload_n 3, 1) := by decide +kernel
theorem dX0_nearSide_64 : decode cX0_nearSide 64 = .ok (.ishl, 1) := by decide +kernel
theorem dX0_nearSide_65 : decode cX0_nearSide 65 = .ok (.ixor, 1) := by decide +kernel
theorem dX0_nearSide_66 : decode cX0_nearSide 66 = .ok (.iastore, 1) := by decide +kernel
theorem dX0_nearSide_67 : decode cX0_nearSide 67 = .ok (.aload_n 0, 1) := by decide +kernel
theorem dX0_nearSide_68 : decode cX0_nearSide 68 = .ok (.getfield 9, 3) := by decide +kernel
theorem dX0_nearSide_71 : decode cX0_nearSide 71 = .ok (.iload_n 3, 1) := by decide +kernel
theorem dX0_nearSide_72 : decode cX0_nearSide 72 = .ok (.dup2, 1) := by decide +kernel
theorem dX0_nearSide_73 : decode cX0_nearSide 73 = .ok (.iaload, 1) := by decide +kernel
theorem dX0_nearSide_74 : decode cX0_nearSide 74 = .ok (.iconst 1, 1) := by decide +kernel
theorem dX0_nearSide_75 : decode cX0_nearSide 75 = .ok (.iload_n 2, 1) := by decide +kernel
theorem dX0_nearSide_76 : decode cX0_nearSide 76 = .ok (.ishl, 1) := by decide +kernel
theorem dX0_nearSide_77 : decode cX0_nearSide 77 = .ok (.ixor, 1) := by decide +kernel
theorem dX0_nearSide_78 : decode cX0_nearSide 78 = .ok (.iastore, 1) := by decide +kernel
theorem dX0_nearSide_79 : decode cX0_nearSide 79 = .ok (.iload 4, 2) := by decide +kernel
theorem dX0_nearSide_81 : decode cX0_nearSide 81 = .ok (.ireturn, 1) := by decide +kernel
theorem dX0_build_0 : decode cX0_build 0 = .ok (.aload_n 0, 1) := by decide +kernel
theorem dX0_build_1 : decode cX0_build 1 = .ok (.aload_n 1, 1) := by decide +kernel
theorem dX0_build_2 : decode cX0_build 2 = .ok (.putfield 21, 3) := by decide +kernel
theorem dX0_build_5 : decode cX0_build 5 = .ok (.aload_n 0, 1) := by decide +kernel
theorem dX0_build_6 : decode cX0_build 6 = .ok (.getfield 9, 3) := by decide +kernel
theorem dX0_build_9 : decode cX0_build 9 = .ok (.iconst 0, 1) := by decide +kernel
theorem dX0_build_10 : decode cX0_build 10 = .ok (.invokestatic 25, 3) := by decide +kernel
theorem dX0_build_13 : decode cX0_build 13 = .ok (.iconst 0, 1) := by decide +kernel
theorem dX0_build_14 : decode cX0_build 14 = .ok (.istore_n 2, 1) := by decide +kernel
theorem dX0_build_15 : decode cX0_build 15 = .ok (.iload_n 2, 1) := by decide +kernel
theorem dX0_build_16 : decode cX0_build 16 = .ok (.aload_n 0, 1) := by decide +kernel
theorem dX0_build_17 : decode cX0_build 17 = .ok (.getfield 21, 3) := by decide +kernel
theorem dX0_build_20 : decode cX0_build 20 = .ok (.getfield 31, 3) := by decide +kernel
theorem dX0_build_23 : decode cX0_build 23 = .ok (.if_icmp .ge 65, 3) := by decide +kernel
theorem dX0_build_26 : decode cX0_build 26 = .ok (.aload_n 0, 1) := by decide +kernel
theorem dX0_build_27 : decode cX0_build 27 = .ok (.getfield 9, 3) := by decide +kernel
theorem dX0_build_30 : decode cX0_build 30 = .ok (.aload_n 0, 1) := by decide +kernel
theorem dX0_build_31 : decode cX0_build 31 = .ok (.getfield 21, 3) := by decide +kernel
theorem dX0_build_34 : decode cX0_build 34 = .ok (.getfield 37, 3) := by decide +kernel
theorem dX0_build_37 : decode cX0_build 37 = .ok (.iload_n 2, 1) := by decide +kernel
theorem dX0_build_38 : decode cX0_build 38 = .ok (.iaload, 1) := by decide +kernel
theorem dX0_build_39 : decode cX0_build 39 = .ok (.dup2, 1) := by decide +kernel
theorem dX0_build_40 : decode cX0_build 40 = .ok (.iaload, 1) := by decide +kernel
theorem dX0_build_41 : decode cX0_build 41 = .ok (.iconst 1, 1) := by decide +kernel
theorem dX0_build_42 : decode cX0_build 42 = .ok (.aload_n 0, 1) := by decide +kernel
theorem dX0_build_43 : decode cX0_build 43 = .ok (.getfield 21, 3) := by decide +kernel
theorem dX0_build_46 : decode cX0_build 46 = .ok (.getfield 40, 3) := by decide +kernel
theorem dX0_build_49 : decode cX0_build 49 = .ok (.iload_n 2, 1) := by decide +kernel
theorem dX0_build_50 : decode cX0_build 50 = .ok (.iaload, 1) := by decide +kernel
theorem dX0_build_51 : decode cX0_build 51 = .ok (.ishl, 1) := by decide +kernel
theorem dX0_build_52 : decode cX0_build 52 = .ok (.ior, 1) := by decide +kernel
theorem dX0_build_53 : decode cX0_build 53 = .ok (.iastore, 1) := by decide +kernel
theorem dX0_build_54 : decode cX0_build 54 = .ok (.aload_n 0, 1) := by decide +kernel
theorem dX0_build_55 : decode cX0_build 55 = .ok (.getfield 9, 3) := by decide +kernel
theorem dX0_build_58 : decode cX0_build 58 = .ok (.aload_n 0, 1) := by decide +kernel
theorem dX0_build_59 : decode cX0_build 59 = .ok (.getfield 21, 3) := by decide +kernel
theorem dX0_build_62 : decode cX0_build 62 = .ok (.getfield 40, 3) := by decide +kernel
theorem dX0_build_65 : decode cX0_build 65 = .ok (.iload_n 2, 1) := by decide +kernel
theorem dX0_build_66 : decode cX0_build 66 = .ok (.iaload, 1) := by decide +kernel
theorem dX0_build_67 : decode cX0_build 67 = .ok (.dup2, 1) := by decide +kernel
theorem dX0_build_68 : decode cX0_build 68 = .ok (.iaload, 1) := by decide +kernel
theorem dX0_build_69 : decode cX0_build 69 = .ok (.iconst 1, 1) := by decide +kernel
theorem dX0_build_70 : decode cX0_build 70 = .ok (.aload_n 0, 1) := by decide +kernel
theorem dX0_build_71 : decode cX0_build 71 = .ok (.getfield 21, 3) := by decide +kernel
theorem dX0_build_74 : decode cX0_build 74 = .ok (.getfield 37, 3) := by decide +kernel
theorem dX0_build_77 : decode cX0_build 77 = .ok (.iload_n 2, 1) := by decide +kernel
theorem dX0_build_78 : decode cX0_build 78 = .ok (.iaload, 1) := by decide +kernel
theorem dX0_build_79 : decode cX0_build 79 = .ok (.ishl, 1) := by decide +kernel
theorem dX0_build_80 : decode cX0_build 80 = .ok (.ior, 1) := by decide +kernel
theorem dX0_build_81 : decode cX0_build 81 = .ok (.iastore, 1) := by decide +kernel
theorem dX0_build_82 : decode cX0_build 82 = .ok (.iinc 2 1, 3) := by decide +kernel
theorem dX0_build_85 : decode cX0_build 85 = .ok (.goto (-70), 3) := by decide +kernel
theorem dX0_build_88 : decode cX0_build 88 = .ok (.aload_n 0, 1) := by decide +kernel
theorem dX0_build_89 : decode cX0_build 89 = .ok (.getfield 15, 3) := by decide +kernel
theorem dX0_build_92 : decode cX0_build 92 = .ok (.iconst (-1), 1) := by decide +kernel
theorem dX0_build_93 : decode cX0_build 93 = .ok (.invokestatic 25, 3) := by decide +kernel
theorem dX0_build_96 : decode cX0_build 96 = .ok (.iconst 0, 1) := by decide +kernel
theorem dX0_build_97 : decode cX0_build 97 = .ok (.istore_n 2, 1) := by decide +kernel
theorem dX0_build_98 : decode cX0_build 98 = .ok (.iload_n 2, 1) := by decide +kernel
theorem dX0_build_99 : decode cX0_build 99 = .ok (.aload_n 0, 1) := by decide +kernel
theorem dX0_build_100 : decode cX0_build 100 = .ok (.getfield 21, 3) := by decide +kernel
theorem dX0_build_103 : decode cX0_build 103 = .ok (.getfield 43, 3) := by decide +kernel
theorem dX0_build_106 : decode cX0_build 106 = .ok (.if_icmp .ge 14, 3) := by decide +kernel
theorem dX0_build_109 : decode cX0_build 109 = .ok (.aload_n 0, 1) := by decide +kernel
theorem dX0_build_110 : decode cX0_build 110 = .ok (.iload_n 2, 1) := by decide +kernel
theorem dX0_build_111 : decode cX0_build 111 = .ok (.invokevirtual 46, 3) := by decide +kernel
theorem dX0_build_114 : decode cX0_build 114 = .ok (.iinc 2 1, 3) := by decide +kernel
theorem dX0_build_117 : decode cX0_build 117 = .ok (.goto (-19), 3) := by decide +kernel
theorem dX0_build_120 : decode cX0_build 120 = .ok (.aload_n 0, 1) := by decide +kernel
theorem dX0_build_121 : decode cX0_build 121 = .ok (.iconst 0, 1) := by decide +kernel
theorem dX0_build_122 : decode cX0_build 122 = .ok (.putfield 50, 3) := by decide +kernel
theorem dX0_build_125 : decode cX0_build 125 = .ok (.iconst 0, 1) := by decide +kernel
theorem dX0_build_126 : decode cX0_build 126 = .ok (.istore_n 2, 1) := by decide +kernel
theorem dX0_build_127 : decode cX0_build 127 = .ok (.iload_n 2, 1) := by decide +kernel
theorem dX0_build_128 : decode cX0_build 128 = .ok (.aload_n 0, 1) := by decide +kernel
theorem dX0_build_129 : decode cX0_build 129 = .ok (.getfield 21, 3) := by decide +kernel
theorem dX0_build_132 : decode cX0_build 132 = .ok (.getfield 31, 3) := by decide +kernel
theorem dX0_build_135 : decode cX0_build 135 = .ok (.if_icmp .ge 53, 3) := by decide +kernel
theorem dX0_build_138 : decode cX0_build 138 = .ok (.aload_n 0, 1) := by decide +kernel
theorem dX0_build_139 : decode cX0_build 139 = .ok (.getfield 18, 3) := by decide +kernel
theorem dX0_build_142 : decode cX0_build 142 = .ok (.iload_n 2, 1) := by decide +kernel
theorem dX0_build_143 : decode cX0_build 143 = .ok (.aload_n 0, 1) := by decide +kernel
theorem dX0_build_144 : decode cX0_build 144 = .ok (.iload_n 2, 1) := by decide +kernel
theorem dX0_build_145 : decode cX0_build 145 = .ok (.invokevirtual 53, 3) := by decide +kernel
theorem dX0_build_148 : decode cX0_build 148 = .ok (.iastore, 1) := by decide +kernel
theorem dX0_build_149 : decode cX0_build 149 = .ok (.aload_n 0, 1) := by decide +kernel
theorem dX0_build_150 : decode cX0_build 150 = .ok (.getfield 18, 3) := by decide +kernel
theorem dX0_build_153 : decode cX0_build 153 = .ok (.iload_n 2, 1) := by decide +kernel
theorem dX0_build_154 : decode cX0_build 154 = .ok (.iaload, 1) := by decide +kernel
theorem dX0_build_155 : decode cX0_build 155 = .ok (.aload_n 0, 1) := by decide +kernel
theorem dX0_build_156 : decode cX0_build 156 = .ok (.getfield 21, 3) := by decide +kernel
theorem dX0_build_159 : decode cX0_build 159 = .ok (.getfield 40, 3) := by decide +kernel
theorem dX0_build_162 : decode cX0_build 162 = .ok (.iload_n 2, 1) := by decide +kernel
theorem dX0_build_163 : decode cX0_build 163 = .ok (.iaload, 1) := by decide +kernel
theorem dX0_build_164 : decode cX0_build 164 = .ok (.ishr, 1) := by decide +kernel
theorem dX0_build_165 : decode cX0_build 165 = .ok (.iconst 1, 1) := by decide +kernel
theorem dX0_build_166 : decode cX0_build 166 = .ok (.iand, 1) := by decide +kernel
theorem dX0_build_167 : decode cX0_build 167 = .ok (.ifCond .ne 15, 3) := by decide +kernel
theorem dX0_build_170 : decode cX0_build 170 = .ok (.aload_n 0, 1) := by decide +kernel
theorem dX0_build_171 : decode cX0_build 171 = .ok (.dup, 1) := by decide +kernel
theorem dX0_build_172 : decode cX0_build 172 = .ok (.getfield 50, 3) := by decide +kernel
theorem dX0_build_175 : decode cX0_build 175 = .ok (.iconst 1, 1) := by decide +kernel
theorem dX0_build_176 : decode cX0_build 176 = .ok (.iload_n 2, 1) := by decide +kernel
theorem dX0_build_177 : decode cX0_build 177 = .ok (.ishl, 1) := by decide +kernel
theorem dX0_build_178 : decode cX0_build 178 = .ok (.ior, 1) := by decide +kernel
theorem dX0_build_179 : decode cX0_build 179 = .ok (.putfield 50, 3) := by decide +kernel
theorem dX0_build_182 : decode cX0_build 182 = .ok (.iinc 2 1, 3) := by decide +kernel
theorem dX0_build_185 : decode cX0_build 185 = .ok (.goto (-58), 3) := by decide +kernel
theorem dX0_build_188 : decode cX0_build 188 = .ok (.return_, 1) := by decide +kernel
theorem dX1_clear_0 : decode cX1_clear 0 = .ok (.aload_n 0, 1) := by decide +kernel
theorem dX1_clear_1 : decode cX1_clear 1 = .ok (.iconst 0, 1) := by decide +kernel
theorem dX1_clear_2 : decode cX1_clear 2 = .ok (.putfield 19, 3) := by decide +kernel
theorem dX1_clear_5 : decode cX1_clear 5 = .ok (.aload_n 0, 1) := by decide +kernel
theorem dX1_clear_6 : decode cX1_clear 6 = .ok (.iconst 0, 1) := by decide +kernel
theorem dX1_clear_7 : decode cX1_clear 7 = .ok (.putfield 23, 3) := by decide +kernel
theorem dX1_clear_10 : decode cX1_clear 10 = .ok (.aload_n 0, 1) := by decide +kernel
theorem dX1_clear_11 : decode cX1_clear 11 = .ok (.iconst 0, 1) := by decide +kernel
theorem dX1_clear_12 : decode cX1_clear 12 = .ok (.putfield 26, 3) := by decide +kernel
theorem dX1_clear_15 : decode cX1_clear 15 = .ok (.return_, 1) := by decide +kernel
theorem dX5_clear_0 : decode cX5_clear 0 = .ok (.aload_n 0, 1) := by decide +kernel
theorem dX5_clear_1 : decode cX5_clear 1 = .ok (.iconst 0, 1) := by decide +kernel
theorem dX5_clear_2 : decode cX5_clear 2 = .ok (.putfield 50, 3) := by decide +kernel
theorem dX5_clear_5 : decode cX5_clear 5 = .ok (.aload_n 0, 1) := by decide +kernel
theorem dX5_clear_6 : decode cX5_clear 6 = .ok (.iconst 0, 1) := by decide +kernel
theorem dX5_clear_7 : decode cX5_clear 7 = .ok (.putfield 54, 3) := by decide +kernel
theorem dX5_clear_10 : decode cX5_clear 10 = .ok (.aload_n 0, 1) := by decide +kernel
theorem dX5_clear_11 : decode cX5_clear 11 = .ok (.iconst 0, 1) := by decide +kernel
theorem dX5_clear_12 : decode cX5_clear 12 = .ok (.putfield 57, 3) := by decide +kernel
theorem dX5_clear_15 : decode cX5_clear 15 = .ok (.aload_n 0, 1) := by decide +kernel
theorem dX5_clear_16 : decode cX5_clear 16 = .ok (.getfield 46, 3) := by decide +kernel
theorem dX5_clear_19 : decode cX5_clear 19 = .ok (.invokevirtual 60, 3) := by decide +kernel
theorem dX5_clear_22 : decode cX5_clear 22 = .ok (.aload_n 0, 1) := by decide +kernel
theorem dX5_clear_23 : decode cX5_clear 23 = .ok (.iconst 0, 1) := by decide +kernel
theorem dX5_clear_24 : decode cX5_clear 24 = .ok (.putfield 63, 3) := by decide +kernel
theorem dX5_clear_27 : decode cX5_clear 27 = .ok (.aload_n 0, 1) := by decide +kernel
theorem dX5_clear_28 : decode cX5_clear 28 = .ok (.iconst 0, 1) := by decide +kernel
theorem dX5_clear_29 : decode cX5_clear 29 = .ok (.putfield 66, 3) := by decide +kernel
theorem dX5_clear_32 : decode cX5_clear 32 = .ok (.return_, 1) := by decide +kernel
theorem dX5_roomNamed_0 : decode cX5_roomNamed 0 = .ok (.iconst 0, 1) := by decide +kernel
theorem dX5_roomNamed_1 : decode cX5_roomNamed 1 = .ok (.istore_n 3, 1) := by decide +kernel
theorem dX5_roomNamed_2 : decode cX5_roomNamed 2 = .ok (.iload_n 3, 1) := by decide +kernel
theorem dX5_roomNamed_3 : decode cX5_roomNamed 3 = .ok (.aload_n 0, 1) := by decide +kernel
theorem dX5_roomNamed_4 : decode cX5_roomNamed 4 = .ok (.getfield 50, 3) := by decide +kernel
theorem dX5_roomNamed_7 : decode cX5_roomNamed 7 = .ok (.if_icmp .ge 22, 3) := by decide +kernel
theorem dX5_roomNamed_10 : decode cX5_roomNamed 10 = .ok (.aload_n 0, 1) := by decide +kernel
theorem dX5_roomNamed_11 : decode cX5_roomNamed 11 = .ok (.getfield 9, 3) := by decide +kernel
theorem dX5_roomNamed_14 : decode cX5_roomNamed 14 = .ok (.iload_n 3, 1) := by decide +kernel
theorem dX5_roomNamed_15 : decode cX5_roomNamed 15 = .ok (.laload, 1) := by decide +kernel
theorem dX5_roomNamed_16 : decode cX5_roomNamed 16 = .ok (.lload_n 1, 1) := by decide +kernel
theorem dX5_roomNamed_17 : decode cX5_roomNamed 17 = .ok (.lcmp, 1) := by decide +kernel
theorem dX5_roomNamed_18 : decode cX5_roomNamed 18 = .ok (.ifCond .ne 5, 3) := by decide +kernel
theorem dX5_roomNamed_21 : decode cX5_roomNamed 21 = .ok (.iload_n 3, 1) := by decide +kernel
theorem dX5_roomNamed_22 : decode cX5_roomNamed 22 = .ok (.ireturn, 1) := by decide +kernel
theorem dX5_roomNamed_23 : decode cX5_roomNamed 23 = .ok (.iinc 3 1, 3) := by decide +kernel
theorem dX5_roomNamed_26 : decode cX5_roomNamed 26 = .ok (.goto (-24), 3) := by decide +kernel
theorem dX5_roomNamed_29 : decode cX5_roomNamed 29 = .ok (.iconst (-1), 1) := by decide +kernel
theorem dX5_roomNamed_30 : decode cX5_roomNamed 30 = .ok (.ireturn, 1) := by decide +kernel
theorem dX5_hasThingNamed_0 : decode cX5_hasThingNamed 0 = .ok (.iconst 0, 1) := by decide +kernel
theorem dX5_hasThingNamed_1 : decode cX5_hasThingNamed 1 = .ok (.istore_n 3, 1) := by decide +kernel
theorem dX5_hasThingNamed_2 : decode cX5_hasThingNamed 2 = .ok (.iload_n 3, 1) := by decide +kernel
theorem dX5_hasThingNamed_3 : decode cX5_hasThingNamed 3 = .ok (.aload_n 0, 1) := by decide +kernel
theorem dX5_hasThingNamed_4 : decode cX5_hasThingNamed 4 = .ok (.getfield 57, 3) := by decide +kernel
theorem dX5_hasThingNamed_7 : decode cX5_hasThingNamed 7 = .ok (.if_icmp .ge 22, 3) := by decide +kernel
theorem dX5_hasThingNamed_10 : decode cX5_hasThingNamed 10 = .ok (.aload_n 0, 1) := by decide +kernel
theorem dX5_hasThingNamed_11 : decode cX5_hasThingNamed 11 = .ok (.getfield 25, 3) := by decide +kernel
theorem dX5_hasThingNamed_14 : decode cX5_hasThingNamed 14 = .ok (.iload_n 3, 1) := by decide +kernel
theorem dX5_hasThingNamed_15 : decode cX5_hasThingNamed 15 = .ok (.laload, 1) := by decide +kernel
theorem dX5_hasThingNamed_16 : decode cX5_hasThingNamed 16 = .ok (.lload_n 1, 1) := by decide +kernel
theorem dX5_hasThingNamed_17 : decode cX5_hasThingNamed 17 = .ok (.lcmp, 1) := by decide +kernel
theorem dX5_hasThingNamed_18 : decode cX5_hasThingNamed 18 = .ok (.ifCond .ne 5, 3) := by decide +kernel
theorem dX5_hasThingNamed_21 : decode cX5_hasThingNamed 21 = .ok (.iconst 1, 1) := by decide +kernel
theorem dX5_hasThingNamed_22 : decode cX5_hasThingNamed 22 = .ok (.ireturn, 1) := by decide +kernel
theorem dX5_hasThingNamed_23 : decode cX5_hasThingNamed 23 = .ok (.iinc 3 1, 3) := by decide +kernel
theorem dX5_hasThingNamed_26 : decode cX5_hasThingNamed 26 = .ok (.goto (-24), 3) := by decide +kernel
theorem dX5_hasThingNamed_29 : decode cX5_hasThingNamed 29 = .ok (.iconst 0, 1) := by decide +kernel
theorem dX5_hasThingNamed_30 : decode cX5_hasThingNamed 30 = .ok (.ireturn, 1) := by decide +kernel
theorem dX5_behind_0 : decode cX5_behind 0 = .ok (.aload_n 0, 1) := by decide +kernel
theorem dX5_behind_1 : decode cX5_behind 1 = .ok (.getfield 19, 3) := by decide +kernel
theorem dX5_behind_4 : decode cX5_behind 4 = .ok (.iload_n 1, 1) := by decide +kernel
theorem dX5_behind_5 : decode cX5_behind 5 = .ok (.iaload, 1) := by decide +kernel
theorem dX5_behind_6 : decode cX5_behind 6 = .ok (.iload_n 2, 1) := by decide +kernel
theorem dX5_behind_7 : decode cX5_behind 7 = .ok (.if_icmp .ne 10, 3) := by decide +kernel
theorem dX5_behind_10 : decode cX5_behind 10 = .ok (.aload_n 0, 1) := by decide +kernel
theorem dX5_behind_11 : decode cX5_behind 11 = .ok (.getfield 22, 3) := by decide +kernel
theorem dX5_behind_14 : decode cX5_behind 14 = .ok (.iload_n 1, 1) := by decide +kernel
theorem dX5_behind_15 : decode cX5_behind 15 = .ok (.iaload, 1) := by decide +kernel
theorem dX5_behind_16 : decode cX5_behind 16 = .ok (.ireturn, 1) := by decide +kernel
theorem dX5_behind_17 : decode cX5_behind 17 = .ok (.aload_n 0, 1) := by decide +kernel
theorem dX5_behind_18 : decode cX5_behind 18 = .ok (.getfield 22, 3) := by decide +kernel
theorem dX5_behind_21 : decode cX5_behind 21 = .ok (.iload_n 1, 1) := by decide +kernel
theorem dX5_behind_22 : decode cX5_behind 22 = .ok (.iaload, 1) := by decide +kernel
theorem dX5_behind_23 : decode cX5_behind 23 = .ok (.iload_n 2, 1) := by decide +kernel
theorem dX5_behind_24 : decode cX5_behind 24 = .ok (.if_icmp .ne 12, 3) := by decide +kernel
theorem dX5_behind_27 : decode cX5_behind 27 = .ok (.aload_n 0, 1) := by decide +kernel
theorem dX5_behind_28 : decode cX5_behind 28 = .ok (.getfield 19, 3) := by decide +kernel
theorem dX5_behind_31 : decode cX5_behind 31 = .ok (.iload_n 1, 1) := by decide +kernel
theorem dX5_behind_32 : decode cX5_behind 32 = .ok (.iaload, 1) := by decide +kernel
theorem dX5_behind_33 : decode cX5_behind 33 = .ok (.goto 4, 3) := by decide +kernel
theorem dX5_behind_36 : decode cX5_behind 36 = .ok (.iconst (-1), 1) := by decide +kernel
theorem dX5_behind_37 : decode cX5_behind 37 = .ok (.ireturn, 1) := by decide +kernel
theorem dX5_hasDoorOf_0 : decode cX5_hasDoorOf 0 = .ok (.iconst 0, 1) := by decide +kernel
theorem dX5_hasDoorOf_1 : decode cX5_hasDoorOf 1 = .ok (.istore_n 3, 1) := by decide +kernel
theorem dX5_hasDoorOf_2 : decode cX5_hasDoorOf 2 = .ok (.iload_n 3, 1) := by decide +kernel
theorem dX5_hasDoorOf_3 : decode cX5_hasDoorOf 3 = .ok (.aload_n 0, 1) := by decide +kernel
theorem dX5_hasDoorOf_4 : decode cX5_hasDoorOf 4 = .ok (.getfield 54, 3) := by decide +kernel
theorem dX5_hasDoorOf_7 : decode cX5_hasDoorOf 7 = .ok (.if_icmp .ge 21, 3) := by decide +kernel
theorem dX5_hasDoorOf_10 : decode cX5_hasDoorOf 10 = .ok (.aload_n 0, 1) := by decide +kernel
theorem dX5_hasDoorOf_11 : decode cX5_hasDoorOf 11 = .ok (.iload_n 3, 1) := by decide +kernel
theorem dX5_hasDoorOf_12 : decode cX5_hasDoorOf 12 = .ok (.iload_n 1, 1) := by decide +kernel
theorem dX5_hasDoorOf_13 : decode cX5_hasDoorOf 13 = .ok (.invokevirtual 70, 3) := by decide +kernel
theorem dX5_hasDoorOf_16 : decode cX5_hasDoorOf 16 = .ok (.iload_n 2, 1) := by decide +kernel
theorem dX5_hasDoorOf_17 : decode cX5_hasDoorOf 17 = .ok (.if_icmp .ne 5, 3) := by decide +kernel
theorem dX5_hasDoorOf_20 : decode cX5_hasDoorOf 20 = .ok (.iconst 1, 1) := by decide +kernel
theorem dX5_hasDoorOf_21 : decode cX5_hasDoorOf 21 = .ok (.ireturn, 1) := by decide +kernel
theorem dX5_hasDoorOf_22 : decode cX5_hasDoorOf 22 = .ok (.iinc 3 1, 3) := by decide +kernel
theorem dX5_hasDoorOf_25 : decode cX5_hasDoorOf 25 = .ok (.goto (-23), 3) := by decide +kernel
theorem dX5_hasDoorOf_28 : decode cX5_hasDoorOf 28 = .ok (.iconst 0, 1) := by decide +kernel
theorem dX5_hasDoorOf_29 : decode cX5_hasDoorOf 29 = .ok (.ireturn, 1) := by decide +kernel
set_option maxRecDepth 20000 in
theorem ggX0_reach_X0_behindDoors : GoodIn wsX0_reach wsX0_behindDoors := goodIn_r _ [5, 6, 7, 8, 9, 10, 11, 12, 13, 14, 15, 16, 17, 18, 19, 20, 21, 22, 23, 24, 25, 26, 27, 28, 29] (by decide +kernel) (by decide +kernel)
set_option maxRecDepth 20000 in
theorem gX0_reach_X0_behindDoors : GoodIn wsX0_reach (wsV RX0 57 RX0 yX0_behindDoors wsX0_behindDoors) := goodIn_app (goodIn_of _ (by decide +kernel)) ggX0_reach_X0_behindDoors
set_option maxRecDepth 20000 in
theorem ggX0_countPieces_X0_allRooms : GoodIn wsX0_countPieces wsX0_allRooms := goodIn_r _ [7, 1, 2, 17, 18, 19, 20, 21, 22, 23, 24, 25, 26, 27, 28, 29, 30, 31, 32, 33, 34, 35, 36, 37] (by decide +kernel) (by decide +kernel)
set_option maxRecDepth 20000 in
theorem gX0_countPieces_X0_allRooms : GoodIn wsX0_countPieces (wsV RX0 60 RX0 yX0_allRooms wsX0_allRooms) := goodIn_app (goodIn_of _ (by decide +kernel)) ggX0_countPieces_X0_allRooms
set_option maxRecDepth 20000 in
theorem ggX0_countPieces_X0_reach : GoodIn wsX0_countPieces wsX0_reach := goodIn_r _ [11, 12, 13, 14, 6, 15, 1, 2, 16, 17, 18, 19, 20, 21, 22, 23, 24, 25, 26, 27, 28, 29, 30, 31, 32, 33, 34, 35, 36, 37] (by decide +kernel) (by decide +kernel)
set_option maxRecDepth 20000 in
theorem gX0_countPieces_X0_reach : GoodIn wsX0_countPieces (wsV RX0 64 RX0 yX0_reach wsX0_reach) := goodIn_app (goodIn_of _ (by decide +kernel)) ggX0_countPieces_X0_reach
set_option maxRecDepth 20000 in
theorem ggX0_farthestFrom_X0_farOf : GoodIn wsX0_farthestFrom wsX0_farOf := goodIn_r _ [11, 12, 13, 14, 15, 16, 17] (by decide +kernel) (by decide +kernel)
set_option maxRecDepth 20000 in
theorem gX0_farthestFrom_X0_farOf : GoodIn wsX0_farthestFrom (wsV RX0 68 RX0 yX0_farOf wsX0_farOf) := goodIn_app (goodIn_of _ (by decide +kernel)) ggX0_farthestFrom_X0_farOf
set_option maxRecDepth 20000 in
theorem ggX0_middleRoom_X0_farthestFrom : GoodIn wsX0_middleRoom wsX0_farthestFrom := goodIn_r _ [7, 1, 2, 8, 9, 10, 11, 12, 13, 14, 6, 15, 16, 17, 18, 19, 20, 21, 22, 23, 24, 25, 26, 27, 28, 29, 30, 31, 32, 33, 34, 35, 36, 37] (by decide +kernel) (by decide +kernel)
set_option maxRecDepth 20000 in
theorem gX0_middleRoom_X0_farthestFrom : GoodIn wsX0_middleRoom (wsV RX0 85 RX0 yX0_farthestFrom wsX0_farthestFrom) := goodIn_app (goodIn_of _ (by decide +kernel)) ggX0_middleRoom_X0_farthestFrom
set_option maxRecDepth 20000 in
theorem ggX0_minutesTo_X0_farOf : GoodIn wsX0_minutesTo wsX0_farOf := goodIn_r _ [9, 10, 11, 12, 13, 14, 15] (by decide +kernel) (by decide +kernel)
set_option maxRecDepth 20000 in
theorem gX0_minutesTo_X0_farOf : GoodIn wsX0_minutesTo (wsV RX0 68 RX0 yX0_farOf wsX0_farOf) := goodIn_app (goodIn_of _ (by decide +kernel)) ggX0_minutesTo_X0_farOf
set_option maxRecDepth 20000 in
theorem ggX0_meetingRoom_X0_farOf : GoodIn wsX0_meetingRoom wsX0_farOf := goodIn_r _ [7, 8, 17, 18, 19, 20, 21] (by decide +kernel) (by decide +kernel)
set_option maxRecDepth 20000 in
theorem gX0_meetingRoom_X0_farOf : GoodIn wsX0_meetingRoom (wsV RX0 68 RX0 yX0_farOf wsX0_farOf) := goodIn_app (goodIn_of _ (by decide +kernel)) ggX0_meetingRoom_X0_farOf
set_option maxRecDepth 20000 in
theorem ggX0_meetingRoom_X0_minutesTo : GoodIn wsX0_meetingRoom wsX0_minutesTo := goodIn_r _ [12, 13, 14, 15, 16, 3, 4, 5, 6, 7, 8, 17, 18, 19, 20, 21] (by decide +kernel) (by decide +kernel)
set_option maxRecDepth 20000 in
theorem gX0_meetingRoom_X0_minutesTo : GoodIn wsX0_meetingRoom (wsV RX0 76 RX0 yX0_minutesTo wsX0_minutesTo) := goodIn_app (goodIn_of _ (by decide +kernel)) ggX0_meetingRoom_X0_minutesTo
set_option maxRecDepth 20000 in
theorem ggX0_barringRooms_J6_bitCount_0f7a4 : GoodIn wsX0_barringRooms wsJ6_bitCount_0f7a4 := goodIn_r _ [11, 12, 13, 14] (by decide +kernel) (by decide +kernel)
set_option maxRecDepth 20000 in
theorem gX0_barringRooms_J6_bitCount_0f7a4 : GoodIn wsX0_barringRooms (va_wsS RX0 80 yJ6_bitCount_0f7a4 wsJ6_bitCount_0f7a4) := goodIn_app (goodIn_of _ (by decide +kernel)) ggX0_barringRooms_J6_bitCount_0f7a4
set_option maxRecDepth 20000 in
theorem ggX0_barringRooms_X0_allRooms : GoodIn wsX0_barringRooms wsX0_allRooms := goodIn_r _ [5, 6, 7, 24, 25, 26, 27, 28, 29, 30, 31, 32, 33, 34, 35, 36, 37, 38, 39, 40, 41, 42, 43, 44] (by decide +kernel) (by decide +kernel)
set_option maxRecDepth 20000 in
theorem gX0_barringRooms_X0_allRooms : GoodIn wsX0_barringRooms (wsV RX0 60 RX0 yX0_allRooms wsX0_allRooms) := goodIn_app (goodIn_of _ (by decide +kernel)) ggX0_barringRooms_X0_allRooms
set_option maxRecDepth 20000 in
theorem ggX0_barringRooms_X0_reach : GoodIn wsX0_barringRooms wsX0_reach := goodIn_r _ [18, 19, 20, 21, 4, 22, 6, 7, 23, 24, 25, 26, 27, 28, 29, 30, 31, 32, 33, 34, 35, 36, 37, 38, 39, 40, 41, 42, 43, 44] (by decide +kernel) (by decide +kernel)
set_option maxRecDepth 20000 in
theorem gX0_barringRooms_X0_reach : GoodIn wsX0_barringRooms (wsV RX0 64 RX0 yX0_reach wsX0_reach) := goodIn_app (goodIn_of _ (by decide +kernel)) ggX0_barringRooms_X0_reach
set_option maxRecDepth 20000 in
theorem ggX0_measureFrom_X0_behindDoors : GoodIn wsX0_measureFrom wsX0_behindDoors := goodIn_r _ [8, 1, 2, 9, 10, 11, 12, 13, 14, 15, 16, 17, 18, 19, 20, 21, 22, 23, 24, 25, 26, 27, 28, 29, 30] (by decide +kernel) (by decide +kernel)
set_option maxRecDepth 20000 in
theorem gX0_measureFrom_X0_behindDoors : GoodIn wsX0_measureFrom (wsV RX0 57 RX0 yX0_behindDoors wsX0_behindDoors) := goodIn_app (goodIn_of _ (by decide +kernel)) ggX0_measureFrom_X0_behindDoors
set_option maxRecDepth 20000 in
theorem ggX0_nearSide_X0_allRooms : GoodIn wsX0_nearSide wsX0_allRooms := goodIn_r _ [9, 1, 10, 19, 20, 21, 22, 23, 24, 25, 26, 27, 28, 29, 30, 31, 32, 33, 34, 35, 36, 37, 38, 39] (by decide +kernel) (by decide +kernel)
set_option maxRecDepth 20000 in
theorem gX0_nearSide_X0_allRooms : GoodIn wsX0_nearSide (wsV RX0 60 RX0 yX0_allRooms wsX0_allRooms) := goodIn_app (goodIn_of _ (by decide +kernel)) ggX0_nearSide_X0_allRooms
set_option maxRecDepth 20000 in
theorem ggX0_nearSide_X0_reach : GoodIn wsX0_nearSide wsX0_reach := goodIn_r _ [14, 15, 16, 17, 8, 18, 1, 10, 4, 19, 20, 21, 22, 23, 24, 25, 26, 27, 28, 29, 30, 31, 32, 33, 34, 35, 36, 37, 38, 39] (by decide +kernel) (by decide +kernel)
set_option maxRecDepth 20000 in
theorem gX0_nearSide_X0_reach : GoodIn wsX0_nearSide (wsV RX0 64 RX0 yX0_reach wsX0_reach) := goodIn_app (goodIn_of _ (by decide +kernel)) ggX0_nearSide_X0_reach
set_option maxRecDepth 20000 in
theorem ggX0_build_J7_fill_53178 : GoodIn wsX0_build wsJ7_fill_53178 := goodIn_r _ [13] (by decide +kernel) (by decide +kernel)
set_option maxRecDepth 20000 in
theorem gX0_build_J7_fill_53178 : GoodIn wsX0_build (va_wsS RX0 25 yJ7_fill_53178 wsJ7_fill_53178) := goodIn_app (goodIn_of _ (by decide +kernel)) ggX0_build_J7_fill_53178
set_option maxRecDepth 20000 in
theorem ggX0_build_X0_measureFrom : GoodIn wsX0_build wsX0_measureFrom := goodIn_r _ [18, 1, 7, 6, 19, 20, 21, 17, 22, 2, 35, 36, 37, 38, 39, 40, 41, 42, 43, 44, 45, 46, 47, 48, 49, 50, 51, 52, 53, 54, 55] (by decide +kernel) (by decide +kernel)
set_option maxRecDepth 20000 in
theorem gX0_build_X0_measureFrom : GoodIn wsX0_build (wsV RX0 46 RX0 yX0_measureFrom wsX0_measureFrom) := goodIn_app (goodIn_of _ (by decide +kernel)) ggX0_build_X0_measureFrom
set_option maxRecDepth 20000 in
theorem ggX0_build_X0_nearSide : GoodIn wsX0_build wsX0_nearSide := goodIn_r _ [26, 1, 4, 5, 2, 27, 28, 29, 17, 30, 7, 31, 32, 33, 34, 19, 20, 21, 22, 35, 36, 37, 38, 39, 40, 41, 42, 43, 44, 45, 46, 47, 48, 49, 50, 51, 52, 53, 54, 55] (by decide +kernel) (by decide +kernel)
set_option maxRecDepth 20000 in
theorem gX0_build_X0_nearSide : GoodIn wsX0_build (wsV RX0 53 RX0 yX0_nearSide wsX0_nearSide) := goodIn_app (goodIn_of _ (by decide +kernel)) ggX0_build_X0_nearSide
set_option maxRecDepth 20000 in
theorem ggX5_clear_X1_clear : GoodIn wsX5_clear wsX1_clear := goodIn_r _ [11, 12, 13, 14, 31, 32, 33, 34, 35, 36] (by decide +kernel) (by decide +kernel)
set_option maxRecDepth 20000 in
theorem gX5_clear_X1_clear : GoodIn wsX5_clear (wsV RX5 60 RX1 yX1_clear wsX1_clear) := goodIn_app (goodIn_of _ (by decide +kernel)) ggX5_clear_X1_clear
set_option maxRecDepth 20000 in
theorem ggX5_hasDoorOf_X5_behind : GoodIn wsX5_hasDoorOf wsX5_behind := goodIn_r _ [6, 7, 8, 9, 10, 11, 12, 13, 14, 15, 16, 17, 18, 19, 20, 21, 22, 23, 24] (by decide +kernel) (by decide +kernel)
set_option maxRecDepth 20000 in
theorem gX5_hasDoorOf_X5_behind : GoodIn wsX5_hasDoorOf (wsV RX5 70 RX5 yX5_behind wsX5_behind) := goodIn_app (goodIn_of _ (by decide +kernel)) ggX5_hasDoorOf_X5_behind
theorem iw_X8_put_X8 : ∀ w ∈ wsX80, w ∈ wsX8_put := fun _ h => List.mem_cons_of_mem _ (List.mem_append_right _ h)
theorem iw_X0_allRooms_X0 : ∀ w ∈ wsX00, w ∈ wsX0_allRooms := fun _ h => List.mem_cons_of_mem _ (List.mem_append_left _ (List.mem_append_right _ h))
theorem iw_X0_allRooms_X5 : ∀ w ∈ wsX50, w ∈ wsX0_allRooms := fun _ h => List.mem_cons_of_mem _ (List.mem_append_right _ h)
theorem iw_X0_creakingRooms_X0 : ∀ w ∈ wsX00, w ∈ wsX0_creakingRooms := fun _ h => List.mem_cons_of_mem _ (List.mem_append_left _ (List.mem_append_right _ h))
theorem iw_X0_creakingRooms_X5 : ∀ w ∈ wsX50, w ∈ wsX0_creakingRooms := fun _ h => List.mem_cons_of_mem _ (List.mem_append_right _ h)
theorem iw_X0_behindDoors_X0 : ∀ w ∈ wsX00, w ∈ wsX0_behindDoors := fun _ h => List.mem_cons_of_mem _ (List.mem_append_left _ (List.mem_append_right _ h))
theorem iw_X0_behindDoors_X5 : ∀ w ∈ wsX50, w ∈ wsX0_behindDoors := fun _ h => List.mem_cons_of_mem _ (List.mem_append_right _ h)
theorem iw_X0_countPieces_X0 : ∀ w ∈ wsX00, w ∈ wsX0_countPieces := fun _ h => List.mem_cons_of_mem _ (List.mem_append_left _ (List.mem_append_right _ h))
theorem iw_X0_countPieces_X5 : ∀ w ∈ wsX50, w ∈ wsX0_countPieces := fun _ h => List.mem_cons_of_mem _ (List.mem_append_right _ h)
theorem iw_X0_farOf_X0 : ∀ w ∈ wsX00, w ∈ wsX0_farOf := fun _ h => List.mem_cons_of_mem _ (List.mem_append_right _ h)
theorem iw_X0_farthestFrom_X0 : ∀ w ∈ wsX00, w ∈ wsX0_farthestFrom := fun _ h => List.mem_cons_of_mem _ (List.mem_append_left _ (List.mem_append_right _ h))
theorem iw_X0_farthestFrom_X5 : ∀ w ∈ wsX50, w ∈ wsX0_farthestFrom := fun _ h => List.mem_cons_of_mem _ (List.mem_append_right _ h)
theorem iw_X0_middleRoom_X0 : ∀ w ∈ wsX00, w ∈ wsX0_middleRoom := fun _ h => List.mem_cons_of_mem _ (List.mem_append_left _ (List.mem_append_right _ h))
theorem iw_X0_middleRoom_X5 : ∀ w ∈ wsX50, w ∈ wsX0_middleRoom := fun _ h => List.mem_cons_of_mem _ (List.mem_append_right _ h)
theorem iw_X0_meetingRoom_X0 : ∀ w ∈ wsX00, w ∈ wsX0_meetingRoom := fun _ h => List.mem_cons_of_mem _ (List.mem_append_left _ (List.mem_append_right _ h))
theorem iw_X0_meetingRoom_X5 : ∀ w ∈ wsX50, w ∈ wsX0_meetingRoom := fun _ h => List.mem_cons_of_mem _ (List.mem_append_right _ h)
theorem iw_X0_measureFrom_X0 : ∀ w ∈ wsX00, w ∈ wsX0_measureFrom := fun _ h => List.mem_cons_of_mem _ (List.mem_append_left _ (List.mem_append_right _ h))
theorem iw_X0_measureFrom_X5 : ∀ w ∈ wsX50, w ∈ wsX0_measureFrom := fun _ h => List.mem_cons_of_mem _ (List.mem_append_right _ h)
theorem iw_X0_nearSide_X0 : ∀ w ∈ wsX00, w ∈ wsX0_nearSide := fun _ h => List.mem_cons_of_mem _ (List.mem_append_left _ (List.mem_append_right _ h))
theorem iw_X0_nearSide_X5 : ∀ w ∈ wsX50, w ∈ wsX0_nearSide := fun _ h => List.mem_cons_of_mem _ (List.mem_append_right _ h)
theorem iw_X0_build_X0 : ∀ w ∈ wsX00, w ∈ wsX0_build := fun _ h => List.mem_cons_of_mem _ (List.mem_append_left _ (List.mem_append_right _ h))
theorem iw_X0_build_X5 : ∀ w ∈ wsX50, w ∈ wsX0_build := fun _ h => List.mem_cons_of_mem _ (List.mem_append_right _ h)
theorem iw_X1_clear_X1 : ∀ w ∈ wsX10, w ∈ wsX1_clear := fun _ h => List.mem_cons_of_mem _ (List.mem_append_right _ h)
theorem iw_X5_clear_X5 : ∀ w ∈ wsX50, w ∈ wsX5_clear := fun _ h => List.mem_cons_of_mem _ (List.mem_append_left _ (List.mem_append_right _ h))
theorem iw_X5_roomNamed_X5 : ∀ w ∈ wsX50, w ∈ wsX5_roomNamed := fun _ h => List.mem_cons_of_mem _ (List.mem_append_right _ h)
theorem iw_X5_hasThingNamed_X5 : ∀ w ∈ wsX50, w ∈ wsX5_hasThingNamed := fun _ h => List.mem_cons_of_mem _ (List.mem_append_right _ h)
theorem iw_X5_behind_X5 : ∀ w ∈ wsX50, w ∈ wsX5_behind := fun _ h => List.mem_cons_of_mem _ (List.mem_append_right _ h)
theorem iw_X5_hasDoorOf_X5 : ∀ w ∈ wsX50, w ∈ wsX5_hasDoorOf := fun _ h => List.mem_cons_of_mem _ (List.mem_append_right _ h)
