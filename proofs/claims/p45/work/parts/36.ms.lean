def wsX12_ways_r1 : List Cond := [Cond.fieldLink RX12 116 "SoldHouseModel" "waysTo" "[I", Cond.methodLink RX12 445 yX12_areRooms, Cond.instanceMethod yX12_areRooms, Cond.selects RX12 yX12_areRooms yX12_areRooms, Cond.initialized RX12, Cond.code yX12_areRooms cX12_areRooms 3 (some .boolean), Cond.methodLink RX12 385 yX12_isRoom, Cond.instanceMethod yX12_isRoom, Cond.selects RX12 yX12_isRoom yX12_isRoom, Cond.code yX12_isRoom cX12_isRoom 2 (some .boolean), Cond.methodLink RX12 378 yX12_places, Cond.instanceMethod yX12_places, Cond.selects RX12 yX12_places yX12_places, Cond.code yX12_places cX12_places 1 (some .int), Cond.fieldLink RX12 20 "SoldHouseModel" "rooms" "[I", Cond.fieldLink RX12 280 "SoldHouseModel" "bank" "I", Cond.methodLink RX12 381 yX12_isIn, Cond.static yX12_isIn, Cond.code yX12_isIn cX12_isIn 3 (some .boolean), Cond.methodLink RX12 421 yX12_farOf, Cond.instanceMethod yX12_farOf, Cond.selects RX12 yX12_farOf yX12_farOf, Cond.code yX12_farOf cX12_farOf 3 (some .int), Cond.fieldLink RX12 98 "SoldHouseModel" "table" "[I"]
def wsX12_ways_r2 : List Cond := [Cond.methodLink RX12 400 yX12_behind, Cond.instanceMethod yX12_behind, Cond.selects RX12 yX12_behind yX12_behind, Cond.code yX12_behind cX12_behind 5 (some .int), Cond.fieldLink RX12 24 "SoldHouseModel" "doors" "[I", Cond.methodLink RX12 391 yX12_oneOf, Cond.instanceMethod yX12_oneOf, Cond.selects RX12 yX12_oneOf yX12_oneOf, Cond.code yX12_oneOf cX12_oneOf 2 (some .int), Cond.fieldLink RX12 39 "SoldHouseModel" "one" "[I", Cond.methodLink RX12 394 yX12_otherOf, Cond.instanceMethod yX12_otherOf, Cond.selects RX12 yX12_otherOf yX12_otherOf, Cond.code yX12_otherOf cX12_otherOf 2 (some .int), Cond.fieldLink RX12 42 "SoldHouseModel" "other" "[I", Cond.methodLink RX12 397 yX12_has, Cond.static yX12_has, Cond.code yX12_has cX12_has 2 (some .boolean)]
def wsX12_ways : List Cond := .code yX12_ways cX12_ways 6 (some .int) :: ((wsX12_ways_r1 ++ wsX12_ways_r2) ++ wsX120)
def wsX12_pieces_r1 : List Cond := [Cond.methodLink RX12 378 yX12_places, Cond.instanceMethod yX12_places, Cond.selects RX12 yX12_places yX12_places, Cond.initialized RX12, Cond.code yX12_places cX12_places 1 (some .int), Cond.fieldLink RX12 20 "SoldHouseModel" "rooms" "[I", Cond.fieldLink RX12 280 "SoldHouseModel" "bank" "I", Cond.methodLink RX12 397 yX12_has, Cond.static yX12_has, Cond.code yX12_has cX12_has 2 (some .boolean), Cond.methodLink RX12 403 yX12_joined, Cond.instanceMethod yX12_joined, Cond.selects RX12 yX12_joined yX12_joined, Cond.code yX12_joined cX12_joined 7 (some .int), Cond.methodLink RX12 400 yX12_behind, Cond.instanceMethod yX12_behind, Cond.selects RX12 yX12_behind yX12_behind, Cond.code yX12_behind cX12_behind 5 (some .int), Cond.fieldLink RX12 24 "SoldHouseModel" "doors" "[I", Cond.methodLink RX12 391 yX12_oneOf, Cond.instanceMethod yX12_oneOf, Cond.selects RX12 yX12_oneOf yX12_oneOf, Cond.code yX12_oneOf cX12_oneOf 2 (some .int), Cond.fieldLink RX12 39 "SoldHouseModel" "one" "[I"]
def wsX12_pieces_r2 : List Cond := [Cond.methodLink RX12 394 yX12_otherOf, Cond.instanceMethod yX12_otherOf, Cond.selects RX12 yX12_otherOf yX12_otherOf, Cond.code yX12_otherOf cX12_otherOf 2 (some .int), Cond.fieldLink RX12 42 "SoldHouseModel" "other" "[I"]
def wsX12_pieces : List Cond := .code yX12_pieces cX12_pieces 4 (some .int) :: ((wsX12_pieces_r1 ++ wsX12_pieces_r2) ++ wsX120)
def wsX12_parts : List Cond := .code yX12_parts cX12_parts 3 (some .int) :: ([.fieldLink RX12 24 "SoldHouseModel" "doors" "[I", .fieldLink RX12 280 "SoldHouseModel" "bank" "I", .methodLink RX12 442 yX12_doesPart, .instanceMethod yX12_doesPart, .selects RX12 yX12_doesPart yX12_doesPart, .initialized RX12, .code yX12_doesPart cX12_doesPart 2 (some .boolean), .fieldLink RX12 101 "SoldHouseModel" "nearSide" "[I", .methodLink RX12 394 yX12_otherOf, .instanceMethod yX12_otherOf, .selects RX12 yX12_otherOf yX12_otherOf, .code yX12_otherOf cX12_otherOf 2 (some .int), .fieldLink RX12 42 "SoldHouseModel" "other" "[I", .methodLink RX12 397 yX12_has, .static yX12_has, .code yX12_has cX12_has 2 (some .boolean)] ++ wsX120)
def wsX12_layHunts_r1 : List Cond := [Cond.fieldLink RX12 122 "SoldHouseModel" "hunts" "[I", Cond.fieldLink RX12 125 "SoldHouseModel" "firsts" "[I", Cond.fieldLink RX12 24 "SoldHouseModel" "doors" "[I", Cond.fieldLink RX12 280 "SoldHouseModel" "bank" "I", Cond.fieldLink RX12 101 "SoldHouseModel" "nearSide" "[I", Cond.methodLink RX12 378 yX12_places, Cond.instanceMethod yX12_places, Cond.selects RX12 yX12_places yX12_places, Cond.initialized RX12, Cond.code yX12_places cX12_places 1 (some .int), Cond.fieldLink RX12 20 "SoldHouseModel" "rooms" "[I", Cond.methodLink RX12 469 yX12_bitsOf, Cond.static yX12_bitsOf, Cond.code yX12_bitsOf cX12_bitsOf 3 (some .int), Cond.methodLink RX12 442 yX12_doesPart, Cond.instanceMethod yX12_doesPart, Cond.selects RX12 yX12_doesPart yX12_doesPart, Cond.code yX12_doesPart cX12_doesPart 2 (some .boolean), Cond.methodLink RX12 394 yX12_otherOf, Cond.instanceMethod yX12_otherOf, Cond.selects RX12 yX12_otherOf yX12_otherOf, Cond.code yX12_otherOf cX12_otherOf 2 (some .int), Cond.fieldLink RX12 42 "SoldHouseModel" "other" "[I", Cond.methodLink RX12 397 yX12_has]
def wsX12_layHunts_r2 : List Cond := [Cond.static yX12_has, Cond.code yX12_has cX12_has 2 (some .boolean)]
def wsX12_layHunts : List Cond := .code yX12_layHunts cX12_layHunts 5 none :: ((wsX12_layHunts_r1 ++ wsX12_layHunts_r2) ++ wsX120)
def wsX12_hunt_r1 : List Cond := [Cond.fieldLink RX12 122 "SoldHouseModel" "hunts" "[I", Cond.methodLink RX12 472 yX12_isSet, Cond.instanceMethod yX12_isSet, Cond.selects RX12 yX12_isSet yX12_isSet, Cond.initialized RX12, Cond.code yX12_isSet cX12_isSet 2 (some .boolean), Cond.methodLink RX12 378 yX12_places, Cond.instanceMethod yX12_places, Cond.selects RX12 yX12_places yX12_places, Cond.code yX12_places cX12_places 1 (some .int), Cond.fieldLink RX12 20 "SoldHouseModel" "rooms" "[I", Cond.fieldLink RX12 280 "SoldHouseModel" "bank" "I", Cond.methodLink RX12 381 yX12_isIn, Cond.static yX12_isIn, Cond.code yX12_isIn cX12_isIn 3 (some .boolean), Cond.methodLink RX12 475 yX12_layHunts, Cond.instanceMethod yX12_layHunts, Cond.selects RX12 yX12_layHunts yX12_layHunts, Cond.code yX12_layHunts cX12_layHunts 5 none, Cond.fieldLink RX12 125 "SoldHouseModel" "firsts" "[I", Cond.fieldLink RX12 24 "SoldHouseModel" "doors" "[I", Cond.fieldLink RX12 101 "SoldHouseModel" "nearSide" "[I", Cond.methodLink RX12 469 yX12_bitsOf, Cond.static yX12_bitsOf]
def wsX12_hunt_r2 : List Cond := [Cond.code yX12_bitsOf cX12_bitsOf 3 (some .int), Cond.methodLink RX12 442 yX12_doesPart, Cond.instanceMethod yX12_doesPart, Cond.selects RX12 yX12_doesPart yX12_doesPart, Cond.code yX12_doesPart cX12_doesPart 2 (some .boolean), Cond.methodLink RX12 394 yX12_otherOf, Cond.instanceMethod yX12_otherOf, Cond.selects RX12 yX12_otherOf yX12_otherOf, Cond.code yX12_otherOf cX12_otherOf 2 (some .int), Cond.fieldLink RX12 42 "SoldHouseModel" "other" "[I", Cond.methodLink RX12 397 yX12_has, Cond.static yX12_has, Cond.code yX12_has cX12_has 2 (some .boolean)]
def wsX12_hunt : List Cond := .code yX12_hunt cX12_hunt 2 (some .int) :: ((wsX12_hunt_r1 ++ wsX12_hunt_r2) ++ wsX120)
def wsX12_first_r1 : List Cond := [Cond.fieldLink RX12 122 "SoldHouseModel" "hunts" "[I", Cond.fieldLink RX12 125 "SoldHouseModel" "firsts" "[I", Cond.methodLink RX12 472 yX12_isSet, Cond.instanceMethod yX12_isSet, Cond.selects RX12 yX12_isSet yX12_isSet, Cond.initialized RX12, Cond.code yX12_isSet cX12_isSet 2 (some .boolean), Cond.methodLink RX12 378 yX12_places, Cond.instanceMethod yX12_places, Cond.selects RX12 yX12_places yX12_places, Cond.code yX12_places cX12_places 1 (some .int), Cond.fieldLink RX12 20 "SoldHouseModel" "rooms" "[I", Cond.fieldLink RX12 280 "SoldHouseModel" "bank" "I", Cond.methodLink RX12 381 yX12_isIn, Cond.static yX12_isIn, Cond.code yX12_isIn cX12_isIn 3 (some .boolean), Cond.methodLink RX12 475 yX12_layHunts, Cond.instanceMethod yX12_layHunts, Cond.selects RX12 yX12_layHunts yX12_layHunts, Cond.code yX12_layHunts cX12_layHunts 5 none, Cond.fieldLink RX12 24 "SoldHouseModel" "doors" "[I", Cond.fieldLink RX12 101 "SoldHouseModel" "nearSide" "[I", Cond.methodLink RX12 469 yX12_bitsOf, Cond.static yX12_bitsOf]
def wsX12_first_r2 : List Cond := [Cond.code yX12_bitsOf cX12_bitsOf 3 (some .int), Cond.methodLink RX12 442 yX12_doesPart, Cond.instanceMethod yX12_doesPart, Cond.selects RX12 yX12_doesPart yX12_doesPart, Cond.code yX12_doesPart cX12_doesPart 2 (some .boolean), Cond.methodLink RX12 394 yX12_otherOf, Cond.instanceMethod yX12_otherOf, Cond.selects RX12 yX12_otherOf yX12_otherOf, Cond.code yX12_otherOf cX12_otherOf 2 (some .int), Cond.fieldLink RX12 42 "SoldHouseModel" "other" "[I", Cond.methodLink RX12 397 yX12_has, Cond.static yX12_has, Cond.code yX12_has cX12_has 2 (some .boolean)]
def wsX12_first : List Cond := .code yX12_first cX12_first 2 (some .int) :: ((wsX12_first_r1 ++ wsX12_first_r2) ++ wsX120)
def wsX12_meet : List Cond := .code yX12_meet cX12_meet 8 (some .int) :: ([.methodLink RX12 445 yX12_areRooms, .instanceMethod yX12_areRooms, .selects RX12 yX12_areRooms yX12_areRooms, .initialized RX12, .code yX12_areRooms cX12_areRooms 3 (some .boolean), .methodLink RX12 385 yX12_isRoom, .instanceMethod yX12_isRoom, .selects RX12 yX12_isRoom yX12_isRoom, .code yX12_isRoom cX12_isRoom 2 (some .boolean), .methodLink RX12 378 yX12_places, .instanceMethod yX12_places, .selects RX12 yX12_places yX12_places, .code yX12_places cX12_places 1 (some .int), .fieldLink RX12 20 "SoldHouseModel" "rooms" "[I", .fieldLink RX12 280 "SoldHouseModel" "bank" "I", .methodLink RX12 381 yX12_isIn, .static yX12_isIn, .code yX12_isIn cX12_isIn 3 (some .boolean), .methodLink RX12 421 yX12_farOf, .instanceMethod yX12_farOf, .selects RX12 yX12_farOf yX12_farOf, .code yX12_farOf cX12_farOf 3 (some .int), .fieldLink RX12 98 "SoldHouseModel" "table" "[I"] ++ wsX120)
def wsX12_farthest : List Cond := .code yX12_farthest cX12_farthest 4 (some .int) :: ([.methodLink RX12 378 yX12_places, .instanceMethod yX12_places, .selects RX12 yX12_places yX12_places, .initialized RX12, .code yX12_places cX12_places 1 (some .int), .fieldLink RX12 20 "SoldHouseModel" "rooms" "[I", .fieldLink RX12 280 "SoldHouseModel" "bank" "I", .methodLink RX12 421 yX12_farOf, .instanceMethod yX12_farOf, .selects RX12 yX12_farOf yX12_farOf, .code yX12_farOf cX12_farOf 3 (some .int), .fieldLink RX12 98 "SoldHouseModel" "table" "[I"] ++ wsX120)
def wsX12_centre : List Cond := .code yX12_centre cX12_centre 3 (some .int) :: ([.methodLink RX12 378 yX12_places, .instanceMethod yX12_places, .selects RX12 yX12_places yX12_places, .initialized RX12, .code yX12_places cX12_places 1 (some .int), .fieldLink RX12 20 "SoldHouseModel" "rooms" "[I", .fieldLink RX12 280 "SoldHouseModel" "bank" "I", .methodLink RX12 484 yX12_farthest, .instanceMethod yX12_farthest, .selects RX12 yX12_farthest yX12_farthest, .code yX12_farthest cX12_farthest 4 (some .int), .methodLink RX12 421 yX12_farOf, .instanceMethod yX12_farOf, .selects RX12 yX12_farOf yX12_farOf, .code yX12_farOf cX12_farOf 3 (some .int), .fieldLink RX12 98 "SoldHouseModel" "table" "[I"] ++ wsX120)
def wsX12_nooks_r1 : List Cond := [Cond.methodLink RX12 378 yX12_places, Cond.instanceMethod yX12_places, Cond.selects RX12 yX12_places yX12_places, Cond.initialized RX12, Cond.code yX12_places cX12_places 1 (some .int), Cond.fieldLink RX12 20 "SoldHouseModel" "rooms" "[I", Cond.fieldLink RX12 280 "SoldHouseModel" "bank" "I", Cond.methodLink RX12 400 yX12_behind, Cond.instanceMethod yX12_behind, Cond.selects RX12 yX12_behind yX12_behind, Cond.code yX12_behind cX12_behind 5 (some .int), Cond.fieldLink RX12 24 "SoldHouseModel" "doors" "[I", Cond.methodLink RX12 391 yX12_oneOf, Cond.instanceMethod yX12_oneOf, Cond.selects RX12 yX12_oneOf yX12_oneOf, Cond.code yX12_oneOf cX12_oneOf 2 (some .int), Cond.fieldLink RX12 39 "SoldHouseModel" "one" "[I", Cond.methodLink RX12 394 yX12_otherOf, Cond.instanceMethod yX12_otherOf, Cond.selects RX12 yX12_otherOf yX12_otherOf, Cond.code yX12_otherOf cX12_otherOf 2 (some .int), Cond.fieldLink RX12 42 "SoldHouseModel" "other" "[I", Cond.methodLink RX12 469 yX12_bitsOf, Cond.static yX12_bitsOf]
def wsX12_nooks_r2 : List Cond := [Cond.code yX12_bitsOf cX12_bitsOf 3 (some .int)]
def wsX12_nooks : List Cond := .code yX12_nooks cX12_nooks 3 (some .int) :: ((wsX12_nooks_r1 ++ wsX12_nooks_r2) ++ wsX120)
def wsX12_echo : List Cond := .code yX12_echo cX12_echo 5 (some .int) :: ([.methodLink RX12 385 yX12_isRoom, .instanceMethod yX12_isRoom, .selects RX12 yX12_isRoom yX12_isRoom, .initialized RX12, .code yX12_isRoom cX12_isRoom 2 (some .boolean), .methodLink RX12 378 yX12_places, .instanceMethod yX12_places, .selects RX12 yX12_places yX12_places, .code yX12_places cX12_places 1 (some .int), .fieldLink RX12 20 "SoldHouseModel" "rooms" "[I", .fieldLink RX12 280 "SoldHouseModel" "bank" "I", .methodLink RX12 381 yX12_isIn, .static yX12_isIn, .code yX12_isIn cX12_isIn 3 (some .boolean), .methodLink RX12 421 yX12_farOf, .instanceMethod yX12_farOf, .selects RX12 yX12_farOf yX12_farOf, .code yX12_farOf cX12_farOf 3 (some .int), .fieldLink RX12 98 "SoldHouseModel" "table" "[I", .methodLink RX12 430 yX12_creakOf, .instanceMethod yX12_creakOf, .selects RX12 yX12_creakOf yX12_creakOf, .code yX12_creakOf cX12_creakOf 2 (some .int), .fieldLink RX12 36 "SoldHouseModel" "creaks" "[I"] ++ wsX120)
def wsX12_mend : List Cond := .code yX12_mend cX12_mend 6 (some .int) :: ([.fieldLink RX12 95 "SoldHouseModel" "all" "[I", .methodLink RX12 381 yX12_isIn, .static yX12_isIn, .initialized RX12, .code yX12_isIn cX12_isIn 3 (some .boolean), .methodLink RX12 388 yX12_many, .instanceMethod yX12_many, .selects RX12 yX12_many yX12_many, .code yX12_many cX12_many 1 (some .int), .fieldLink RX12 27 "SoldHouseModel" "things" "[I", .fieldLink RX12 280 "SoldHouseModel" "bank" "I", .methodLink RX12 421 yX12_farOf, .instanceMethod yX12_farOf, .selects RX12 yX12_farOf yX12_farOf, .code yX12_farOf cX12_farOf 3 (some .int), .fieldLink RX12 98 "SoldHouseModel" "table" "[I"] ++ wsX120)
def wsX12_worthOf : List Cond := .code yX12_worthOf cX12_worthOf 3 (some .int) :: ([.fieldLink RX12 54 "SoldHouseModel" "toUs" "[I", .fieldLink RX12 280 "SoldHouseModel" "bank" "I", .fieldLink RX12 57 "SoldHouseModel" "toThem" "[I"] ++ wsX120)
def wsX12_regret : List Cond := .code yX12_regret cX12_regret 3 (some .int) :: ([.fieldLink RX12 95 "SoldHouseModel" "all" "[I", .methodLink RX12 388 yX12_many, .instanceMethod yX12_many, .selects RX12 yX12_many yX12_many, .initialized RX12, .code yX12_many cX12_many 1 (some .int), .fieldLink RX12 27 "SoldHouseModel" "things" "[I", .fieldLink RX12 280 "SoldHouseModel" "bank" "I", .methodLink RX12 487 yX12_worthOf, .instanceMethod yX12_worthOf, .selects RX12 yX12_worthOf yX12_worthOf, .code yX12_worthOf cX12_worthOf 3 (some .int), .fieldLink RX12 54 "SoldHouseModel" "toUs" "[I", .fieldLink RX12 57 "SoldHouseModel" "toThem" "[I"] ++ wsX120)
def wsX12_gainOf : List Cond := .code yX12_gainOf cX12_gainOf 5 (some .int) :: ([.fieldLink RX12 95 "SoldHouseModel" "all" "[I", .methodLink RX12 487 yX12_worthOf, .instanceMethod yX12_worthOf, .selects RX12 yX12_worthOf yX12_worthOf, .initialized RX12, .code yX12_worthOf cX12_worthOf 3 (some .int), .fieldLink RX12 54 "SoldHouseModel" "toUs" "[I", .fieldLink RX12 280 "SoldHouseModel" "bank" "I", .fieldLink RX12 57 "SoldHouseModel" "toThem" "[I"] ++ wsX120)
def wsX12_trade : List Cond := .code yX12_trade cX12_trade 5 (some .int) :: ([.methodLink RX12 381 yX12_isIn, .static yX12_isIn, .initialized RX12, .code yX12_isIn cX12_isIn 3 (some .boolean), .methodLink RX12 388 yX12_many, .instanceMethod yX12_many, .selects RX12 yX12_many yX12_many, .code yX12_many cX12_many 1 (some .int), .fieldLink RX12 27 "SoldHouseModel" "things" "[I", .fieldLink RX12 280 "SoldHouseModel" "bank" "I", .methodLink RX12 490 yX12_gainOf, .instanceMethod yX12_gainOf, .selects RX12 yX12_gainOf yX12_gainOf, .code yX12_gainOf cX12_gainOf 5 (some .int), .fieldLink RX12 95 "SoldHouseModel" "all" "[I", .methodLink RX12 487 yX12_worthOf, .instanceMethod yX12_worthOf, .selects RX12 yX12_worthOf yX12_worthOf, .code yX12_worthOf cX12_worthOf 3 (some .int), .fieldLink RX12 54 "SoldHouseModel" "toUs" "[I", .fieldLink RX12 57 "SoldHouseModel" "toThem" "[I"] ++ wsX120)
theorem dX12_ways_0 : decode cX12_ways 0 = .ok (.aload_n 0, 1) := by decide +kernel
theorem dX12_ways_1 : decode cX12_ways 1 = .ok (.iload_n 1, 1) := by decide +kernel
theorem dX12_ways_2 : decode cX12_ways 2 = .ok (.iload_n 2, 1) := by decide +kernel
theorem dX12_ways_3 : decode cX12_ways 3 = .ok (.invokevirtual 445, 3) := by decide +kernel
theorem dX12_ways_6 : decode cX12_ways 6 = .ok (.ifCond .eq 15, 3) := by decide +kernel
theorem dX12_ways_9 : decode cX12_ways 9 = .ok (.aload_n 0, 1) := by decide +kernel
theorem dX12_ways_10 : decode cX12_ways 10 = .ok (.iload_n 1, 1) := by decide +kernel
theorem dX12_ways_11 : decode cX12_ways 11 = .ok (.iload_n 2, 1) := by decide +kernel
theorem dX12_ways_12 : decode cX12_ways 12 = .ok (.invokevirtual 421, 3) := by decide +kernel
theorem dX12_ways_15 : decode cX12_ways 15 = .ok (.sipush 10000, 3) := by decide +kernel
theorem dX12_ways_18 : decode cX12_ways 18 = .ok (.if_icmp .ne 5, 3) := by decide +kernel
theorem dX12_ways_21 : decode cX12_ways 21 = .ok (.iconst (-1), 1) := by decide +kernel
theorem dX12_ways_22 : decode cX12_ways 22 = .ok (.ireturn, 1) := by decide +kernel
theorem dX12_ways_23 : decode cX12_ways 23 = .ok (.iconst 0, 1) := by decide +kernel
theorem dX12_ways_24 : decode cX12_ways 24 = .ok (.istore_n 3, 1) := by decide +kernel
theorem dX12_ways_25 : decode cX12_ways 25 = .ok (.iload_n 3, 1) := by decide +kernel
theorem dX12_ways_26 : decode cX12_ways 26 = .ok (.bipush 8, 2) := by decide +kernel
theorem dX12_ways_28 : decode cX12_ways 28 = .ok (.if_icmp .ge 25, 3) := by decide +kernel
theorem dX12_ways_31 : decode cX12_ways 31 = .ok (.aload_n 0, 1) := by decide +kernel
theorem dX12_ways_32 : decode cX12_ways 32 = .ok (.getfield 116, 3) := by decide +kernel
theorem dX12_ways_35 : decode cX12_ways 35 = .ok (.iload_n 3, 1) := by decide +kernel
theorem dX12_ways_36 : decode cX12_ways 36 = .ok (.iload_n 3, 1) := by decide +kernel
theorem dX12_ways_37 : decode cX12_ways 37 = .ok (.iload_n 1, 1) := by decide +kernel
theorem dX12_ways_38 : decode cX12_ways 38 = .ok (.if_icmp .ne 7, 3) := by decide +kernel
theorem dX12_ways_41 : decode cX12_ways 41 = .ok (.iconst 1, 1) := by decide +kernel
theorem dX12_ways_42 : decode cX12_ways 42 = .ok (.goto 4, 3) := by decide +kernel
theorem dX12_ways_45 : decode cX12_ways 45 = .ok (.iconst 0, 1) := by decide +kernel
theorem dX12_ways_46 : decode cX12_ways 46 = .ok (.iastore, 1) := by decide +kernel
theorem dX12_ways_47 : decode cX12_ways 47 = .ok (.iinc 3 1, 3) := by decide +kernel
theorem dX12_ways_50 : decode cX12_ways 50 = .ok (.goto (-25), 3) := by decide +kernel
theorem dX12_ways_53 : decode cX12_ways 53 = .ok (.iconst 1, 1) := by decide +kernel
theorem dX12_ways_54 : decode cX12_ways 54 = .ok (.istore_n 3, 1) := by decide +kernel
theorem dX12_ways_55 : decode cX12_ways 55 = .ok (.iload_n 3, 1) := by decide +kernel
theorem dX12_ways_56 : decode cX12_ways 56 = .ok (.aload_n 0, 1) := by decide +kernel
theorem dX12_ways_57 : decode cX12_ways 57 = .ok (.iload_n 1, 1) := by decide +kernel
theorem dX12_ways_58 : decode cX12_ways 58 = .ok (.iload_n 2, 1) := by decide +kernel
theorem dX12_ways_59 : decode cX12_ways 59 = .ok (.invokevirtual 421, 3) := by decide +kernel
theorem dX12_ways_62 : decode cX12_ways 62 = .ok (.if_icmp .gt 104, 3) := by decide +kernel
theorem dX12_ways_65 : decode cX12_ways 65 = .ok (.iconst 0, 1) := by decide +kernel
theorem dX12_ways_66 : decode cX12_ways 66 = .ok (.istore 4, 2) := by decide +kernel
theorem dX12_ways_68 : decode cX12_ways 68 = .ok (.iload 4, 2) := by decide +kernel
theorem dX12_ways_70 : decode cX12_ways 70 = .ok (.aload_n 0, 1) := by decide +kernel
theorem dX12_ways_71 : decode cX12_ways 71 = .ok (.invokevirtual 378, 3) := by decide +kernel
theorem dX12_ways_74 : decode cX12_ways 74 = .ok (.if_icmp .ge 86, 3) := by decide +kernel
theorem dX12_ways_77 : decode cX12_ways 77 = .ok (.aload_n 0, 1) := by decide +kernel
theorem dX12_ways_78 : decode cX12_ways 78 = .ok (.iload_n 1, 1) := by decide +kernel
theorem dX12_ways_79 : decode cX12_ways 79 = .ok (.iload 4, 2) := by decide +kernel
theorem dX12_ways_81 : decode cX12_ways 81 = .ok (.invokevirtual 421, 3) := by decide +kernel
theorem dX12_ways_84 : decode cX12_ways 84 = .ok (.iload_n 3, 1) := by decide +kernel
theorem dX12_ways_85 : decode cX12_ways 85 = .ok (.if_icmp .eq 6, 3) := by decide +kernel
theorem dX12_ways_88 : decode cX12_ways 88 = .ok (.goto 66, 3) := by decide +kernel
theorem dX12_ways_91 : decode cX12_ways 91 = .ok (.iconst 0, 1) := by decide +kernel
theorem dX12_ways_92 : decode cX12_ways 92 = .ok (.istore 5, 2) := by decide +kernel
theorem dX12_ways_94 : decode cX12_ways 94 = .ok (.iload 5, 2) := by decide +kernel
theorem dX12_ways_96 : decode cX12_ways 96 = .ok (.aload_n 0, 1) := by decide +kernel
theorem dX12_ways_97 : decode cX12_ways 97 = .ok (.invokevirtual 378, 3) := by decide +kernel
theorem dX12_ways_100 : decode cX12_ways 100 = .ok (.if_icmp .ge 54, 3) := by decide +kernel
theorem dX12_ways_103 : decode cX12_ways 103 = .ok (.aload_n 0, 1) := by decide +kernel
theorem dX12_ways_104 : decode cX12_ways 104 = .ok (.iload 4, 2) := by decide +kernel
theorem dX12_ways_106 : decode cX12_ways 106 = .ok (.iconst (-1), 1) := by decide +kernel
theorem dX12_ways_107 : decode cX12_ways 107 = .ok (.invokevirtual 400, 3) := by decide +kernel
theorem dX12_ways_110 : decode cX12_ways 110 = .ok (.iload 5, 2) := by decide +kernel
theorem dX12_ways_112 : decode cX12_ways 112 = .ok (.invokestatic 397, 3) := by decide +kernel
theorem dX12_ways_115 : decode cX12_ways 115 = .ok (.ifCond .eq 33, 3) := by decide +kernel
theorem dX12_ways_118 : decode cX12_ways 118 = .ok (.aload_n 0, 1) := by decide +kernel
theorem dX12_ways_119 : decode cX12_ways 119 = .ok (.iload_n 1, 1) := by decide +kernel
theorem dX12_ways_120 : decode cX12_ways 120 = .ok (.iload 5, 2) := by decide +kernel
theorem dX12_ways_122 : decode cX12_ways 122 = .ok (.invokevirtual 421, 3) := by decide +kernel
theorem dX12_ways_125 : decode cX12_ways 125 = .ok (.iload_n 3, 1) := by decide +kernel
theorem dX12_ways_126 : decode cX12_ways 126 = .ok (.iconst 1, 1) := by decide +kernel
theorem dX12_ways_127 : decode cX12_ways 127 = .ok (.isub, 1) := by decide +kernel
theorem dX12_ways_128 : decode cX12_ways 128 = .ok (.if_icmp .ne 20, 3) := by decide +kernel
theorem dX12_ways_131 : decode cX12_ways 131 = .ok (.aload_n 0, 1) := by decide +kernel
theorem dX12_ways_132 : decode cX12_ways 132 = .ok (.getfield 116, 3) := by decide +kernel
theorem dX12_ways_135 : decode cX12_ways 135 = .ok (.iload 4, 2) := by decide +kernel
theorem dX12_ways_137 : decode cX12_ways 137 = .ok (.dup2, 1) := by decide +kernel
theorem dX12_ways_138 : decode cX12_ways 138 = .ok (.iaload, 1) := by decide +kernel
theorem dX12_ways_139 : decode cX12_ways 139 = .ok (.aload_n 0, 1) := by decide +kernel
theorem dX12_ways_140 : decode cX12_ways 140 = .ok (.getfield 116, 3) := by decide +kernel
theorem dX12_ways_143 : decode cX12_ways 143 = .ok (.iload 5, 2) := by decide +kernel
theorem dX12_ways_145 : decode cX12_ways 145 = .ok (.iaload, 1) := by decide +kernel
theorem dX12_ways_146 : decode cX12_ways 146 = .ok (.iadd, 1) := by decide +kernel
theorem dX12_ways_147 : decode cX12_ways 147 = .ok (.iastore, 1) := by decide +kernel
theorem dX12_ways_148 : decode cX12_ways 148 = .ok (.iinc 5 1, 3) := by decide +kernel
theorem dX12_ways_151 : decode cX12_ways 151 = .ok (.goto (-57), 3) := by decide +kernel
theorem dX12_ways_154 : decode cX12_ways 154 = .ok (.iinc 4 1, 3) := by decide +kernel
theorem dX12_ways_157 : decode cX12_ways 157 = .ok (.goto (-89), 3) := by decide +kernel
theorem dX12_ways_160 : decode cX12_ways 160 = .ok (.iinc 3 1, 3) := by decide +kernel
theorem dX12_ways_163 : decode cX12_ways 163 = .ok (.goto (-108), 3) := by decide +kernel
theorem dX12_ways_166 : decode cX12_ways 166 = .ok (.aload_n 0, 1) := by decide +kernel
theorem dX12_ways_167 : decode cX12_ways 167 = .ok (.getfield 116, 3) := by decide +kernel
theorem dX12_ways_170 : decode cX12_ways 170 = .ok (.iload_n 2, 1) := by decide +kernel
theorem dX12_ways_171 : decode cX12_ways 171 = .ok (.iaload, 1) := by decide +kernel
theorem dX12_ways_172 : decode cX12_ways 172 = .ok (.ireturn, 1) := by decide +kernel
theorem dX12_pieces_0 : decode cX12_pieces 0 = .ok (.iconst 1, 1) := by decide +kernel
theorem dX12_pieces_1 : decode cX12_pieces 1 = .ok (.aload_n 0, 1) := by decide +kernel
theorem dX12_pieces_2 : decode cX12_pieces 2 = .ok (.invokevirtual 378, 3) := by decide +kernel
theorem dX12_pieces_5 : decode cX12_pieces 5 = .ok (.ishl, 1) := by decide +kernel
theorem dX12_pieces_6 : decode cX12_pieces 6 = .ok (.iconst 1, 1) := by decide +kernel
theorem dX12_pieces_7 : decode cX12_pieces 7 = .ok (.isub, 1) := by decide +kernel
theorem dX12_pieces_8 : decode cX12_pieces 8 = .ok (.istore_n 1, 1) := by decide +kernel
theorem dX12_pieces_9 : decode cX12_pieces 9 = .ok (.iconst 0, 1) := by decide +kernel
theorem dX12_pieces_10 : decode cX12_pieces 10 = .ok (.istore_n 2, 1) := by decide +kernel
theorem dX12_pieces_11 : decode cX12_pieces 11 = .ok (.iconst 0, 1) := by decide +kernel
theorem dX12_pieces_12 : decode cX12_pieces 12 = .ok (.istore_n 3, 1) := by decide +kernel
theorem dX12_pieces_13 : decode cX12_pieces 13 = .ok (.iload_n 3, 1) := by decide +kernel
theorem dX12_pieces_14 : decode cX12_pieces 14 = .ok (.aload_n 0, 1) := by decide +kernel
theorem dX12_pieces_15 : decode cX12_pieces 15 = .ok (.invokevirtual 378, 3) := by decide +kernel
theorem dX12_pieces_18 : decode cX12_pieces 18 = .ok (.if_icmp .ge 34, 3) := by decide +kernel
theorem dX12_pieces_21 : decode cX12_pieces 21 = .ok (.iload_n 1, 1) := by decide +kernel
theorem dX12_pieces_22 : decode cX12_pieces 22 = .ok (.iload_n 3, 1) := by decide +kernel
theorem dX12_pieces_23 : decode cX12_pieces 23 = .ok (.invokestatic 397, 3) := by decide +kernel
theorem dX12_pieces_26 : decode cX12_pieces 26 = .ok (.ifCond .ne 6, 3) := by decide +kernel
theorem dX12_pieces_29 : decode cX12_pieces 29 = .ok (.goto 17, 3) := by decide +kernel
theorem dX12_pieces_32 : decode cX12_pieces 32 = .ok (.iload_n 1, 1) := by decide +kernel
theorem dX12_pieces_33 : decode cX12_pieces 33 = .ok (.aload_n 0, 1) := by decide +kernel
theorem dX12_pieces_34 : decode cX12_pieces 34 = .ok (.iload_n 3, 1) := by decide +kernel
theorem dX12_pieces_35 : decode cX12_pieces 35 = .ok (.iconst (-1), 1) := by decide +kernel
theorem dX12_pieces_36 : decode cX12_pieces 36 = .ok (.invokevirtual 403, 3) := by decide +kernel
theorem dX12_pieces_39 : decode cX12_pieces 39 = .ok (.iconst (-1), 1) := by decide +kernel
theorem dX12_pieces_40 : decode cX12_pieces 40 = .ok (.ixor, 1) := by decide +kernel
theorem dX12_pieces_41 : decode cX12_pieces 41 = .ok (.iand, 1) := by decide +kernel
theorem dX12_pieces_42 : decode cX12_pieces 42 = .ok (.istore_n 1, 1) := by decide +kernel
theorem dX12_pieces_43 : decode cX12_pieces 43 = .ok (.iinc 2 1, 3) := by decide +kernel
theorem dX12_pieces_46 : decode cX12_pieces 46 = .ok (.iinc 3 1, 3) := by decide +kernel
theorem dX12_pieces_49 : decode cX12_pieces 49 = .ok (.goto (-36), 3) := by decide +kernel
theorem dX12_pieces_52 : decode cX12_pieces 52 = .ok (.iload_n 2, 1) := by decide +kernel
theorem dX12_pieces_53 : decode cX12_pieces 53 = .ok (.ireturn, 1) := by decide +kernel
theorem dX12_parts_0 : decode cX12_parts 0 = .ok (.iconst 0, 1) := by decide +kernel
theorem dX12_parts_1 : decode cX12_parts 1 = .ok (.istore_n 1, 1) := by decide +kernel
theorem dX12_parts_2 : decode cX12_parts 2 = .ok (.iconst 0, 1) := by decide +kernel
theorem dX12_parts_3 : decode cX12_parts 3 = .ok (.istore_n 2, 1) := by decide +kernel
theorem dX12_parts_4 : decode cX12_parts 4 = .ok (.iload_n 2, 1) := by decide +kernel
theorem dX12_parts_5 : decode cX12_parts 5 = .ok (.aload_n 0, 1) := by decide +kernel
theorem dX12_parts_6 : decode cX12_parts 6 = .ok (.getfield 24, 3) := by decide +kernel
theorem dX12_parts_9 : decode cX12_parts 9 = .ok (.aload_n 0, 1) := by decide +kernel
theorem dX12_parts_10 : decode cX12_parts 10 = .ok (.getfield 280, 3) := by decide +kernel
theorem dX12_parts_13 : decode cX12_parts 13 = .ok (.iaload, 1) := by decide +kernel
theorem dX12_parts_14 : decode cX12_parts 14 = .ok (.if_icmp .ge 23, 3) := by decide +kernel
theorem dX12_parts_17 : decode cX12_parts 17 = .ok (.aload_n 0, 1) := by decide +kernel
theorem dX12_parts_18 : decode cX12_parts 18 = .ok (.iload_n 2, 1) := by decide +kernel
theorem dX12_parts_19 : decode cX12_parts 19 = .ok (.invokevirtual 442, 3) := by decide +kernel
theorem dX12_parts_22 : decode cX12_parts 22 = .ok (.ifCond .eq 9, 3) := by decide +kernel
theorem dX12_parts_25 : decode cX12_parts 25 = .ok (.iload_n 1, 1) := by decide +kernel
theorem dX12_parts_26 : decode cX12_parts 26 = .ok (.iconst 1, 1) := by decide +kernel
theorem dX12_parts_27 : decode cX12_parts 27 = .ok (.iload_n 2, 1) := by decide +kernel
theorem dX12_parts_28 : decode cX12_parts 28 = .ok (.ishl, 1) := by decide +kernel
theorem dX12_parts_29 : decode cX12_parts 29 = .ok (.ior, 1) := by decide +kernel
theorem dX12_parts_30 : decode cX12_parts 30 = .ok (.istore_n 1, 1) := by decide +kernel
theorem dX12_parts_31 : decode cX12_parts 31 = .ok (.iinc 2 1, 3) := by decide +kernel
theorem dX12_parts_34 : decode cX12_parts 34 = .ok (.goto (-30), 3) := by decide +kernel
theorem dX12_parts_37 : decode cX12_parts 37 = .ok (.iload_n 1, 1) := by decide +kernel
theorem dX12_parts_38 : decode cX12_parts 38 = .ok (.ireturn, 1) := by decide +kernel
theorem dX12_layHunts_0 : decode cX12_layHunts 0 = .ok (.iconst 1, 1) := by decide +kernel
theorem dX12_layHunts_1 : decode cX12_layHunts 1 = .ok (.istore_n 1, 1) := by decide +kernel
theorem dX12_layHunts_2 : decode cX12_layHunts 2 = .ok (.iload_n 1, 1) := by decide +kernel
theorem dX12_layHunts_3 : decode cX12_layHunts 3 = .ok (.iconst 1, 1) := by decide +kernel
theorem dX12_layHunts_4 : decode cX12_layHunts 4 = .ok (.aload_n 0, 1) := by decide +kernel
theorem dX12_layHunts_5 : decode cX12_layHunts 5 = .ok (.invokevirtual 378, 3) := by decide +kernel
theorem dX12_layHunts_8 : decode cX12_layHunts 8 = .ok (.ishl, 1) := by decide +kernel
theorem dX12_layHunts_9 : decode cX12_layHunts 9 = .ok (.if_icmp .ge 168, 3) := by decide +kernel
theorem dX12_layHunts_12 : decode cX12_layHunts 12 = .ok (.aload_n 0, 1) := by decide +kernel
theorem dX12_layHunts_13 : decode cX12_layHunts 13 = .ok (.getfield 122, 3) := by decide +kernel
theorem dX12_layHunts_16 : decode cX12_layHunts 16 = .ok (.iload_n 1, 1) := by decide +kernel
theorem dX12_layHunts_17 : decode cX12_layHunts 17 = .ok (.iload_n 1, 1) := by decide +kernel
theorem dX12_layHunts_18 : decode cX12_layHunts 18 = .ok (.invokestatic 469, 3) := by decide +kernel
theorem dX12_layHunts_21 : decode cX12_layHunts 21 = .ok (.iconst 1, 1) := by decide +kernel
theorem dX12_layHunts_22 : decode cX12_layHunts 22 = .ok (.if_icmp .ne 7, 3) := by decide +kernel
theorem dX12_layHunts_25 : decode cX12_layHunts 25 = .ok (.iconst 0, 1) := by decide +kernel
theorem dX12_layHunts_26 : decode cX12_layHunts 26 = .ok (.goto 6, 3) := by decide +kernel
theorem dX12_layHunts_29 : decode cX12_layHunts 29 = .ok (.sipush 10000, 3) := by decide +kernel
theorem dX12_layHunts_32 : decode cX12_layHunts 32 = .ok (.iastore, 1) := by decide +kernel
theorem dX12_layHunts_33 : decode cX12_layHunts 33 = .ok (.aload_n 0, 1) := by decide +kernel
theorem dX12_layHunts_34 : decode cX12_layHunts 34 = .ok (.getfield 125, 3) := by decide +kernel
theorem dX12_layHunts_37 : decode cX12_layHunts 37 = .ok (.iload_n 1, 1) := by decide +kernel
theorem dX12_layHunts_38 : decode cX12_layHunts 38 = .ok (.iconst (-1), 1) := by decide +kernel
theorem dX12_layHunts_39 : decode cX12_layHunts 39 = .ok (.iastore, 1) := by decide +kernel
theorem dX12_layHunts_40 : decode cX12_layHunts 40 = .ok (.iconst 0, 1) := by decide +kernel
theorem dX12_layHunts_41 : decode cX12_layHunts 41 = .ok (.istore_n 2, 1) := by decide +kernel
theorem dX12_layHunts_42 : decode cX12_layHunts 42 = .ok (.iload_n 2, 1) := by decide +kernel
theorem dX12_layHunts_43 : decode cX12_layHunts 43 = .ok (.aload_n 0, 1) := by decide +kernel
theorem dX12_layHunts_44 : decode cX12_layHunts 44 = .ok (.getfield 24, 3) := by decide +kernel
theorem dX12_layHunts_47 : decode cX12_layHunts 47 = .ok (.aload_n 0, 1) := by decide +kernel
theorem dX12_layHunts_48 : decode cX12_layHunts 48 = .ok (.getfield 280, 3) := by decide +kernel
theorem dX12_layHunts_51 : decode cX12_layHunts 51 = .ok (.iaload, 1) := by decide +kernel
theorem dX12_layHunts_52 : decode cX12_layHunts 52 = .ok (.if_icmp .ge 119, 3) := by decide +kernel
theorem dX12_layHunts_55 : decode cX12_layHunts 55 = .ok (.iload_n 1, 1) := by decide +kernel
theorem dX12_layHunts_56 : decode cX12_layHunts 56 = .ok (.invokestatic 469, 3) := by decide +kernel
theorem dX12_layHunts_59 : decode cX12_layHunts 59 = .ok (.iconst 1, 1) := by decide +kernel
theorem dX12_layHunts_60 : decode cX12_layHunts 60 = .ok (.if_icmp .le 111, 3) := by decide +kernel
theorem dX12_layHunts_63 : decode cX12_layHunts 63 = .ok (.iload_n 1, 1) := by decide +kernel
theorem dX12_layHunts_64 : decode cX12_layHunts 64 = .ok (.aload_n 0, 1) := by decide +kernel
theorem dX12_layHunts_65 : decode cX12_layHunts 65 = .ok (.getfield 101, 3) := by decide +kernel
theorem dX12_layHunts_68 : decode cX12_layHunts 68 = .ok (.iload_n 2, 1) := by decide +kernel
theorem dX12_layHunts_69 : decode cX12_layHunts 69 = .ok (.iaload, 1) := by decide +kernel
theorem dX12_layHunts_70 : decode cX12_layHunts 70 = .ok (.iand, 1) := by decide +kernel
theorem dX12_layHunts_71 : decode cX12_layHunts 71 = .ok (.istore_n 3, 1) := by decide +kernel
theorem dX12_layHunts_72 : decode cX12_layHunts 72 = .ok (.aload_n 0, 1) := by decide +kernel
theorem dX12_layHunts_73 : decode cX12_layHunts 73 = .ok (.iload_n 2, 1) := by decide +kernel
theorem dX12_layHunts_74 : decode cX12_layHunts 74 = .ok (.invokevirtual 442, 3) := by decide +kernel
theorem dX12_layHunts_77 : decode cX12_layHunts 77 = .ok (.ifCond .eq 88, 3) := by decide +kernel
theorem dX12_layHunts_80 : decode cX12_layHunts 80 = .ok (.iload_n 3, 1) := by decide +kernel
theorem dX12_layHunts_81 : decode cX12_layHunts 81 = .ok (.ifCond .eq 84, 3) := by decide +kernel
theorem dX12_layHunts_84 : decode cX12_layHunts 84 = .ok (.iload_n 3, 1) := by decide +kernel
theorem dX12_layHunts_85 : decode cX12_layHunts 85 = .ok (.iload_n 1, 1) := by decide +kernel
theorem dX12_layHunts_86 : decode cX12_layHunts 86 = .ok (.if_icmp .ne 6, 3) := by decide +kernel
theorem dX12_layHunts_89 : decode cX12_layHunts 89 = .ok (.goto 76, 3) := by decide +kernel
theorem dX12_layHunts_92 : decode cX12_layHunts 92 = .ok (.aload_n 0, 1) := by decide +kernel
theorem dX12_layHunts_93 : decode cX12_layHunts 93 = .ok (.getfield 122, 3) := by decide +kernel
theorem dX12_layHunts_96 : decode cX12_layHunts 96 = .ok (.iload_n 3, 1) := by decide +kernel
theorem dX12_layHunts_97 : decode cX12_layHunts 97 = .ok (.iaload, 1) := by decide +kernel
theorem dX12_layHunts_98 : decode cX12_layHunts 98 = .ok (.aload_n 0, 1) := by decide +kernel
theorem dX12_layHunts_99 : decode cX12_layHunts 99 = .ok (.getfield 122, 3) := by decide +kernel
theorem dX12_layHunts_102 : decode cX12_layHunts 102 = .ok (.iload_n 1, 1) := by decide +kernel
theorem dX12_layHunts_103 : decode cX12_layHunts 103 = .ok (.iload_n 3, 1) := by decide +kernel
theorem dX12_layHunts_104 : decode cX12_layHunts 104 = .ok (.iconst (-1), 1) := by decide +kernel
theorem dX12_layHunts_105 : decode cX12_layHunts 105 = .ok (.ixor, 1) := by decide +kernel
theorem dX12_layHunts_106 : decode cX12_layHunts 106 = .ok (.iand, 1) := by decide +kernel
theorem dX12_layHunts_107 : decode cX12_layHunts 107 = .ok (.iaload, 1) := by decide +kernel
theorem dX12_layHunts_108 : decode cX12_layHunts 108 = .ok (.if_icmp .le 12, 3) := by decide +kernel
theorem dX12_layHunts_111 : decode cX12_layHunts 111 = .ok (.aload_n 0, 1) := by decide +kernel
theorem dX12_layHunts_112 : decode cX12_layHunts 112 = .ok (.getfield 122, 3) := by decide +kernel
theorem dX12_layHunts_115 : decode cX12_layHunts 115 = .ok (.iload_n 3, 1) := by decide +kernel
theorem dX12_layHunts_116 : decode cX12_layHunts 116 = .ok (.iaload, 1) := by decide +kernel
theorem dX12_layHunts_117 : decode cX12_layHunts 117 = .ok (.goto 13, 3) := by decide +kernel
theorem dX12_layHunts_120 : decode cX12_layHunts 120 = .ok (.aload_n 0, 1) := by decide +kernel
theorem dX12_layHunts_121 : decode cX12_layHunts 121 = .ok (.getfield 122, 3) := by decide +kernel
theorem dX12_layHunts_124 : decode cX12_layHunts 124 = .ok (.iload_n 1, 1) := by decide +kernel
theorem dX12_layHunts_125 : decode cX12_layHunts 125 = .ok (.iload_n 3, 1) := by decide +kernel
theorem dX12_layHunts_126 : decode cX12_layHunts 126 = .ok (.iconst (-1), 1) := by decide +kernel
theorem dX12_layHunts_127 : decode cX12_layHunts 127 = .ok (.ixor, 1) := by decide +kernel
theorem dX12_layHunts_128 : decode cX12_layHunts 128 = .ok (.iand, 1) := by decide +kernel
theorem dX12_layHunts_129 : decode cX12_layHunts 129 = .ok (.iaload, 1) := by decide +kernel
theorem dX12_layHunts_130 : decode cX12_layHunts 130 = .ok (.istore 4, 2) := by decide +kernel
theorem dX12_layHunts_132 : decode cX12_layHunts 132 = .ok (.iload 4, 2) := by decide +kernel
theorem dX12_layHunts_134 : decode cX12_layHunts 134 = .ok (.iconst 1, 1) := by decide +kernel
theorem dX12_layHunts_135 : decode cX12_layHunts 135 = .ok (.iadd, 1) := by decide +kernel
theorem dX12_layHunts_136 : decode cX12_layHunts 136 = .ok (.aload_n 0, 1) := by decide +kernel
theorem dX12_layHunts_137 : decode cX12_layHunts 137 = .ok (.getfield 122, 3) := by decide +kernel
theorem dX12_layHunts_140 : decode cX12_layHunts 140 = .ok (.iload_n 1, 1) := by decide +kernel
theorem dX12_layHunts_141 : decode cX12_layHunts 141 = .ok (.iaload, 1) := by decide +kernel
theorem dX12_layHunts_142 : decode cX12_layHunts 142 = .ok (.if_icmp .lt 6, 3) := by decide +kernel
theorem dX12_layHunts_145 : decode cX12_layHunts 145 = .ok (.goto 20, 3) := by decide +kernel
theorem dX12_layHunts_148 : decode cX12_layHunts 148 = .ok (.aload_n 0, 1) := by decide +kernel
theorem dX12_layHunts_149 : decode cX12_layHunts 149 = .ok (.getfield 122, 3) := by decide +kernel
theorem dX12_layHunts_152 : decode cX12_layHunts 152 = .ok (.iload_n 1, 1) := by decide +kernel
theorem dX12_layHunts_153 : decode cX12_layHunts 153 = .ok (.iload 4, 2) := by decide +kernel
theorem dX12_layHunts_155 : decode cX12_layHunts 155 = .ok (.iconst 1, 1) := by decide +kernel
theorem dX12_layHunts_156 : decode cX12_layHunts 156 = .ok (.iadd, 1) := by decide +kernel
theorem dX12_layHunts_157 : decode cX12_layHunts 157 = .ok (.iastore, 1) := by decide +kernel
theorem dX12_layHunts_158 : decode cX12_layHunts 158 = .ok (.aload_n 0, 1) := by decide +kernel
theorem dX12_layHunts_159 : decode cX12_layHunts 159 = .ok (.getfield 125, 3) := by decide +kernel
theorem dX12_layHunts_162 : decode cX12_layHunts 162 = .ok (.iload_n 1, 1) := by decide +kernel
theorem dX12_layHunts_163 : decode cX12_layHunts 163 = .ok (.iload_n 2, 1) := by decide +kernel
theorem dX12_layHunts_164 : decode cX12_layHunts 164 = .ok (.iastore, 1) := by decide +kernel
theorem dX12_layHunts_165 : decode cX12_layHunts 165 = .ok (.iinc 2 1, 3) := by decide +kernel
theorem dX12_layHunts_168 : decode cX12_layHunts 168 = .ok (.goto (-126), 3) := by decide +kernel
theorem dX12_layHunts_171 : decode cX12_layHunts 171 = .ok (.iinc 1 1, 3) := by decide +kernel
theorem dX12_layHunts_174 : decode cX12_layHunts 174 = .ok (.goto (-172), 3) := by decide +kernel
theorem dX12_layHunts_177 : decode cX12_layHunts 177 = .ok (.return_, 1) := by decide +kernel
theorem dX12_hunt_0 : decode cX12_hunt 0 = .ok (.aload_n 0, 1) := by decide +kernel
theorem dX12_hunt_1 : decode cX12_hunt 1 = .ok (.iload_n 1, 1) := by decide +kernel
theorem dX12_hunt_2 : decode cX12_hunt 2 = .ok (.invokevirtual 472, 3) := by decide +kernel
theorem dX12_hunt_5 : decode cX12_hunt 5 = .ok (.ifCond .eq 7, 3) := by decide +kernel
theorem dX12_hunt_8 : decode cX12_hunt 8 = .ok (.iload_n 1, 1) := by decide +kernel
theorem dX12_hunt_9 : decode cX12_hunt 9 = .ok (.ifCond .ne 5, 3) := by decide +kernel
theorem dX12_hunt_12 : decode cX12_hunt 12 = .ok (.iconst (-1), 1) := by decide +kernel
theorem dX12_hunt_13 : decode cX12_hunt 13 = .ok (.ireturn, 1) := by decide +kernel
theorem dX12_hunt_14 : decode cX12_hunt 14 = .ok (.aload_n 0, 1) := by decide +kernel
theorem dX12_hunt_15 : decode cX12_hunt 15 = .ok (.invokevirtual 475, 3) := by decide +kernel
theorem dX12_hunt_18 : decode cX12_hunt 18 = .ok (.aload_n 0, 1) := by decide +kernel
theorem dX12_hunt_19 : decode cX12_hunt 19 = .ok (.getfield 122, 3) := by decide +kernel
theorem dX12_hunt_22 : decode cX12_hunt 22 = .ok (.iload_n 1, 1) := by decide +kernel
theorem dX12_hunt_23 : decode cX12_hunt 23 = .ok (.iaload, 1) := by decide +kernel
theorem dX12_hunt_24 : decode cX12_hunt 24 = .ok (.sipush 10000, 3) := by decide +kernel
theorem dX12_hunt_27 : decode cX12_hunt 27 = .ok (.if_icmp .lt 7, 3) := by decide +kernel
theorem dX12_hunt_30 : decode cX12_hunt 30 = .ok (.iconst (-1), 1) := by decide +kernel
theorem dX12_hunt_31 : decode cX12_hunt 31 = .ok (.goto 9, 3) := by decide +kernel
theorem dX12_hunt_34 : decode cX12_hunt 34 = .ok (.aload_n 0, 1) := by decide +kernel
theorem dX12_hunt_35 : decode cX12_hunt 35 = .ok (.getfield 122, 3) := by decide +kernel
theorem dX12_hunt_38 : decode cX12_hunt 38 = .ok (.iload_n 1, 1) := by decide +kernel
theorem dX12_hunt_39 : decode cX12_hunt 39 = .ok (.iaload, 1) := by decide +kernel
theorem dX12_hunt_40 : decode cX12_hunt 40 = .ok (.ireturn, 1) := by decide +kernel
theorem dX12_first_0 : decode cX12_first 0 = .ok (.aload_n 0, 1) := by decide +kernel
theorem dX12_first_1 : decode cX12_first 1 = .ok (.iload_n 1, 1) := by decide +kernel
theorem dX12_first_2 : decode cX12_first 2 = .ok (.invokevirtual 472, 3) := by decide +kernel
theorem dX12_first_5 : decode cX12_first 5 = .ok (.ifCond .eq 7, 3) := by decide +kernel
theorem dX12_first_8 : decode cX12_first 8 = .ok (.iload_n 1, 1) := by decide +kernel
theorem dX12_first_9 : decode cX12_first 9 = .ok (.ifCond .ne 5, 3) := by decide +kernel
theorem dX12_first_12 : decode cX12_first 12 = .ok (.iconst (-1), 1) := by decide +kernel
theorem dX12_first_13 : decode cX12_first 13 = .ok (.ireturn, 1) := by decide +kernel
theorem dX12_first_14 : decode cX12_first 14 = .ok (.aload_n 0, 1) := by decide +kernel
theorem dX12_first_15 : decode cX12_first 15 = .ok (.invokevirtual 475, 3) := by decide +kernel
theorem dX12_first_18 : decode cX12_first 18 = .ok (.aload_n 0, 1) := by decide +kernel
theorem dX12_first_19 : decode cX12_first 19 = .ok (.getfield 122, 3) := by decide +kernel
theorem dX12_first_22 : decode cX12_first 22 = .ok (.iload_n 1, 1) := by decide +kernel
theorem dX12_first_23 : decode cX12_first 23 = .ok (.iaload, 1) := by decide +kernel
theorem dX12_first_24 : decode cX12_first 24 = .ok (.sipush 10000, 3) := by decide +kernel
theorem dX12_first_27 : decode cX12_first 27 = .ok (.if_icmp .lt 7, 3) := by decide +kernel
theorem dX12_first_30 : decode cX12_first 30 = .ok (.iconst (-1), 1) := by decide +kernel
theorem dX12_first_31 : decode cX12_first 31 = .ok (.goto 9, 3) := by decide +kernel
theorem dX12_first_34 : decode cX12_first 34 = .ok (.aload_n 0, 1) := by decide +kernel
theorem dX12_first_35 : decode cX12_first 35 = .ok (.getfield 125, 3) := by decide +kernel
theorem dX12_first_38 : decode cX12_first 38 = .ok (.iload_n 1, 1) := by decide +kernel
theorem dX12_first_39 : decode cX12_first 39 = .ok (.iaload, 1) := by decide +kernel
theorem dX12_first_40 : decode cX12_first 40 = .ok (.ireturn, 1) := by decide +kernel
theorem dX12_meet_0 : decode cX12_meet 0 = .ok (.aload_n 0, 1) := by decide +kernel
theorem dX12_meet_1 : decode cX12_meet 1 = .ok (.iload_n 1, 1) := by decide +kernel
theorem dX12_meet_2 : decode cX12_meet 2 = .ok (.iload_n 2, 1) := by decide +kernel
theorem dX12_meet_3 : decode cX12_meet 3 = .ok (.invokevirtual 445, 3) := by decide +kernel
theorem dX12_meet_6 : decode cX12_meet 6 = .ok (.ifCond .eq 12, 3) := by decide +kernel
theorem dX12_meet_9 : decode cX12_meet 9 = .ok (.iload_n 3, 1) := by decide +kernel
theorem dX12_meet_10 : decode cX12_meet 10 = .ok (.iconst 0, 1) := by decide +kernel
theorem dX12_meet_11 : decode cX12_meet 11 = .ok (.iconst 1, 1) := by decide +kernel
theorem dX12_meet_12 : decode cX12_meet 12 = .ok (.invokestatic 381, 3) := by decide +kernel
theorem dX12_meet_15 : decode cX12_meet 15 = .ok (.ifCond .ne 5, 3) := by decide +kernel
theorem dX12_meet_18 : decode cX12_meet 18 = .ok (.iconst (-1), 1) := by decide +kernel
theorem dX12_meet_19 : decode cX12_meet 19 = .ok (.ireturn, 1) := by decide +kernel
theorem dX12_meet_20 : decode cX12_meet 20 = .ok (.iconst (-1), 1) := by decide +kernel
theorem dX12_meet_21 : decode cX12_meet 21 = .ok (.istore 4, 2) := by decide +kernel
theorem dX12_meet_23 : decode cX12_meet 23 = .ok (.sipush 10000, 3) := by decide +kernel
theorem dX12_meet_26 : decode cX12_meet 26 = .ok (.istore 5, 2) := by decide +kernel
theorem dX12_meet_28 : decode cX12_meet 28 = .ok (.iconst 0, 1) := by decide +kernel
theorem dX12_meet_29 : decode cX12_meet 29 = .ok (.istore 6, 2) := by decide +kernel
theorem dX12_meet_31 : decode cX12_meet 31 = .ok (.iload 6, 2) := by decide +kernel
theorem dX12_meet_33 : decode cX12_meet 33 = .ok (.aload_n 0, 1) := by decide +kernel
theorem dX12_meet_34 : decode cX12_meet 34 = .ok (.invokevirtual 378, 3) := by decide +kernel
theorem dX12_meet_37 : decode cX12_meet 37 = .ok (.if_icmp .ge 63, 3) := by decide +kernel
theorem dX12_meet_40 : decode cX12_meet 40 = .ok (.aload_n 0, 1) := by decide +kernel
theorem dX12_meet_41 : decode cX12_meet 41 = .ok (.iload_n 1, 1) := by decide +kernel
theorem dX12_meet_42 : decode cX12_meet 42 = .ok (.iload 6, 2) := by decide +kernel
theorem dX12_meet_44 : decode cX12_meet 44 = .ok (.invokevirtual 421, 3) := by decide +kernel
theorem dX12_meet_47 : decode cX12_meet 47 = .ok (.aload_n 0, 1) := by decide +kernel
theorem dX12_meet_48 : decode cX12_meet 48 = .ok (.iload_n 2, 1) := by decide +kernel
theorem dX12_meet_49 : decode cX12_meet 49 = .ok (.iload 6, 2) := by decide +kernel
theorem dX12_meet_51 : decode cX12_meet 51 = .ok (.invokevirtual 421, 3) := by decide +kernel
theorem dX12_meet_54 : decode cX12_meet 54 = .ok (.if_icmp .le 13, 3) := by decide +kernel
theorem dX12_meet_57 : decode cX12_meet 57 = .ok (.aload_n 0, 1) := by decide +kernel
theorem dX12_meet_58 : decode cX12_meet 58 = .ok (.iload_n 1, 1) := by decide +kernel
theorem dX12_meet_59 : decode cX12_meet 59 = .ok (.iload 6, 2) := by decide +kernel
theorem dX12_meet_61 : decode cX12_meet 61 = .ok (.invokevirtual 421, 3) := by decide +kernel
theorem dX12_meet_64 : decode cX12_meet 64 = .ok (.goto 10, 3) := by decide +kernel
theorem dX12_meet_67 : decode cX12_meet 67 = .ok (.aload_n 0, 1) := by decide +kernel
theorem dX12_meet_68 : decode cX12_meet 68 = .ok (.iload_n 2, 1) := by decide +kernel
theorem dX12_meet_69 : decode cX12_meet 69 = .ok (.iload 6, 2) := by decide +kernel
theorem dX12_meet_71 : decode cX12_meet 71 = .ok (.invokevirtual 421, 3) := by decide +kernel
theorem dX12_meet_74 : decode cX12_meet 74 = .ok (.istore 7, 2) := by decide +kernel
theorem dX12_meet_76 : decode cX12_meet 76 = .ok (.iload 7, 2) := by decide +kernel
theorem dX12_meet_78 : decode cX12_meet 78 = .ok (.iload 5, 2) := by decide +kernel
theorem dX12_meet_80 : decode cX12_meet 80 = .ok (.if_icmp .lt 6, 3) := by decide +kernel
theorem dX12_meet_83 : decode cX12_meet 83 = .ok (.goto 11, 3) := by decide +kernel
theorem dX12_meet_86 : decode cX12_meet 86 = .ok (.iload 6, 2) := by decide +kernel
theorem dX12_meet_88 : decode cX12_meet 88 = .ok (.istore 4, 2) := by decide +kernel
theorem dX12_meet_90 : decode cX12_meet 90 = .ok (.iload 7, 2) := by decide +kernel
theorem dX12_meet_92 : decode cX12_meet 92 = .ok (.istore 5, 2) := by decide +kernel
theorem dX12_meet_94 : decode cX12_meet 94 = .ok (.iinc 6 1, 3) := by decide +kernel
theorem dX12_meet_97 : decode cX12_meet 97 = .ok (.goto (-66), 3) := by decide +kernel
theorem dX12_meet_100 : decode cX12_meet 100 = .ok (.iload 4, 2) := by decide +kernel
theorem dX12_meet_102 : decode cX12_meet 102 = .ok (.ifCond .ge 7, 3) := by decide +kernel
theorem dX12_meet_105 : decode cX12_meet 105 = .ok (.iconst (-1), 1) := by decide +kernel
theorem dX12_meet_106 : decode cX12_meet 106 = .ok (.goto 14, 3) := by decide +kernel
theorem dX12_meet_109 : decode cX12_meet 109 = .ok (.iload_n 3, 1) := by decide +kernel
theorem dX12_meet_110 : decode cX12_meet 110 = .ok (.ifCond .ne 8, 3) := by decide +kernel
theorem dX12_meet_113 : decode cX12_meet 113 = .ok (.iload 5, 2) := by decide +kernel
theorem dX12_meet_115 : decode cX12_meet 115 = .ok (.goto 5, 3) := by decide +kernel
theorem dX12_meet_118 : decode cX12_meet 118 = .ok (.iload 4, 2) := by decide +kernel
theorem dX12_meet_120 : decode cX12_meet 120 = .ok (.ireturn, 1) := by decide +kernel
theorem dX12_farthest_0 : decode cX12_farthest 0 = .ok (.iconst 0, 1) := by decide +kernel
theorem dX12_farthest_1 : decode cX12_farthest 1 = .ok (.istore_n 2, 1) := by decide +kernel
theorem dX12_farthest_2 : decode cX12_farthest 2 = .ok (.iconst 0, 1) := by decide +kernel
theorem dX12_farthest_3 : decode cX12_farthest 3 = .ok (.istore_n 3, 1) := by decide +kernel
theorem dX12_farthest_4 : decode cX12_farthest 4 = .ok (.iload_n 3, 1) := by decide +kernel
theorem dX12_farthest_5 : decode cX12_farthest 5 = .ok (.aload_n 0, 1) := by decide +kernel
theorem dX12_farthest_6 : decode cX12_farthest 6 = .ok (.invokevirtual 378, 3) := by decide +kernel
theorem dX12_farthest_9 : decode cX12_farthest 9 = .ok (.if_icmp .ge 38, 3) := by decide +kernel
theorem dX12_farthest_12 : decode cX12_farthest 12 = .ok (.aload_n 0, 1) := by decide +kernel
theorem dX12_farthest_13 : decode cX12_farthest 13 = .ok (.iload_n 1, 1) := by decide +kernel
theorem dX12_farthest_14 : decode cX12_farthest 14 = .ok (.iload_n 3, 1) := by decide +kernel
theorem dX12_farthest_15 : decode cX12_farthest 15 = .ok (.invokevirtual 421, 3) := by decide +kernel
theorem dX12_farthest_18 : decode cX12_farthest 18 = .ok (.sipush 10000, 3) := by decide +kernel
theorem dX12_farthest_21 : decode cX12_farthest 21 = .ok (.if_icmp .ge 20, 3) := by decide +kernel
theorem dX12_farthest_24 : decode cX12_farthest 24 = .ok (.aload_n 0, 1) := by decide +kernel
theorem dX12_farthest_25 : decode cX12_farthest 25 = .ok (.iload_n 1, 1) := by decide +kernel
theorem dX12_farthest_26 : decode cX12_farthest 26 = .ok (.iload_n 3, 1) := by decide +kernel
theorem dX12_farthest_27 : decode cX12_farthest 27 = .ok (.invokevirtual 421, 3) := by decide +kernel
theorem dX12_farthest_30 : decode cX12_farthest 30 = .ok (.iload_n 2, 1) := by decide +kernel
theorem dX12_farthest_31 : decode cX12_farthest 31 = .ok (.if_icmp .le 10, 3) := by decide +kernel
theorem dX12_farthest_34 : decode cX12_farthest 34 = .ok (.aload_n 0, 1) := by decide +kernel
theorem dX12_farthest_35 : decode cX12_farthest 35 = .ok (.iload_n 1, 1) := by decide +kernel
theorem dX12_farthest_36 : decode cX12_farthest 36 = .ok (.iload_n 3, 1) := by decide +kernel
theorem dX12_farthest_37 : decode cX12_farthest 37 = .ok (.invokevirtual 421, 3) := by decide +kernel
theorem dX12_farthest_40 : decode cX12_farthest 40 = .ok (.istore_n 2, 1) := by decide +kernel
theorem dX12_farthest_41 : decode cX12_farthest 41 = .ok (.iinc 3 1, 3) := by decide +kernel
theorem dX12_farthest_44 : decode cX12_farthest 44 = .ok (.goto (-40), 3) := by decide +kernel
theorem dX12_farthest_47 : decode cX12_farthest 47 = .ok (.iload_n 2, 1) := by decide +kernel
theorem dX12_farthest_48 : decode cX12_farthest 48 = .ok (.ireturn, 1) := by decide +kernel
theorem dX12_centre_0 : decode cX12_centre 0 = .ok (.iconst (-1), 1) := by decide +kernel
theorem dX12_centre_1 : decode cX12_centre 1 = .ok (.istore_n 1, 1) := by decide +kernel
theorem dX12_centre_2 : decode cX12_centre 2 = .ok (.iconst 0, 1) := by decide +kernel
theorem dX12_centre_3 : decode cX12_centre 3 = .ok (.istore_n 2, 1) := by decide +kernel
theorem dX12_centre_4 : decode cX12_centre 4 = .ok (.iload_n 2, 1) := by decide +kernel
theorem dX12_centre_5 : decode cX12_centre 5 = .ok (.aload_n 0, 1) := by decide +kernel
theorem dX12_centre_6 : decode cX12_centre 6 = .ok (.invokevirtual 378, 3) := by decide +kernel
theorem dX12_centre_9 : decode cX12_centre 9 = .ok (.if_icmp .ge 28, 3) := by decide +kernel
theorem dX12_centre_12 : decode cX12_centre 12 = .ok (.iload_n 1, 1) := by decide +kernel
theorem dX12_centre_13 : decode cX12_centre 13 = .ok (.ifCond .lt 16, 3) := by decide +kernel
theorem dX12_centre_16 : decode cX12_centre 16 = .ok (.aload_n 0, 1) := by decide +kernel
theorem dX12_centre_17 : decode cX12_centre 17 = .ok (.iload_n 2, 1) := by decide +kernel
theorem dX12_centre_18 : decode cX12_centre 18 = .ok (.invokevirtual 484, 3) := by decide +kernel
theorem dX12_centre_21 : decode cX12_centre 21 = .ok (.aload_n 0, 1) := by decide +kernel
theorem dX12_centre_22 : decode cX12_centre 22 = .ok (.iload_n 1, 1) := by decide +kernel
theorem dX12_centre_23 : decode cX12_centre 23 = .ok (.invokevirtual 484, 3) := by decide +kernel
theorem dX12_centre_26 : decode cX12_centre 26 = .ok (.if_icmp .ge 5, 3) := by decide +kernel
theorem dX12_centre_29 : decode cX12_centre 29 = .ok (.iload_n 2, 1) := by decide +kernel
theorem dX12_centre_30 : decode cX12_centre 30 = .ok (.istore_n 1, 1) := by decide +kernel
theorem dX12_centre_31 : decode cX12_centre 31 = .ok (.iinc 2 1, 3) := by decide +kernel
theorem dX12_centre_34 : decode cX12_centre 34 = .ok (.goto (-30), 3) := by decide +kernel
theorem dX12_centre_37 : decode cX12_centre 37 = .ok (.iload_n 1, 1) := by decide +kernel
theorem dX12_centre_38 : decode cX12_centre 38 = .ok (.ireturn, 1) := by decide +kernel
theorem dX12_nooks_0 : decode cX12_nooks 0 = .ok (.iconst 0, 1) := by decide +kernel
theorem dX12_nooks_1 : decode cX12_nooks 1 = .ok (.istore_n 1, 1) := by decide +kernel
theorem dX12_nooks_2 : decode cX12_nooks 2 = .ok (.iconst 0, 1) := by decide +kernel
theorem dX12_nooks_3 : decode cX12_nooks 3 = .ok (.istore_n 2, 1) := by decide +kernel
theorem dX12_nooks_4 : decode cX12_nooks 4 = .ok (.iload_n 2, 1) := by decide +kernel
theorem dX12_nooks_5 : decode cX12_nooks 5 = .ok (.aload_n 0, 1) := by decide +kernel
theorem dX12_nooks_6 : decode cX12_nooks 6 = .ok (.invokevirtual 378, 3) := by decide +kernel
theorem dX12_nooks_9 : decode cX12_nooks 9 = .ok (.if_icmp .ge 28, 3) := by decide +kernel
theorem dX12_nooks_12 : decode cX12_nooks 12 = .ok (.aload_n 0, 1) := by decide +kernel
theorem dX12_nooks_13 : decode cX12_nooks 13 = .ok (.iload_n 2, 1) := by decide +kernel
theorem dX12_nooks_14 : decode cX12_nooks 14 = .ok (.iconst (-1), 1) := by decide +kernel
theorem dX12_nooks_15 : decode cX12_nooks 15 = .ok (.invokevirtual 400, 3) := by decide +kernel
theorem dX12_nooks_18 : decode cX12_nooks 18 = .ok (.invokestatic 469, 3) := by decide +kernel
theorem dX12_nooks_21 : decode cX12_nooks 21 = .ok (.iconst 2, 1) := by decide +kernel
theorem dX12_nooks_22 : decode cX12_nooks 22 = .ok (.if_icmp .ge 9, 3) := by decide +kernel
theorem dX12_nooks_25 : decode cX12_nooks 25 = .ok (.iload_n 1, 1) := by decide +kernel
theorem dX12_nooks_26 : decode cX12_nooks 26 = .ok (.iconst 1, 1) := by decide +kernel
theorem dX12_nooks_27 : decode cX12_nooks 27 = .ok (.iload_n 2, 1) := by decide +kernel
theorem dX12_nooks_28 : decode cX12_nooks 28 = .ok (.ishl, 1) := by decide +kernel
theorem dX12_nooks_29 : decode cX12_nooks 29 = .ok (.ior, 1) := by decide +kernel
theorem dX12_nooks_30 : decode cX12_nooks 30 = .ok (.istore_n 1, 1) := by decide +kernel
theorem dX12_nooks_31 : decode cX12_nooks 31 = .ok (.iinc 2 1, 3) := by decide +kernel
theorem dX12_nooks_34 : decode cX12_nooks 34 = .ok (.goto (-30), 3) := by decide +kernel
theorem dX12_nooks_37 : decode cX12_nooks 37 = .ok (.iload_n 1, 1) := by decide +kernel
theorem dX12_nooks_38 : decode cX12_nooks 38 = .ok (.ireturn, 1) := by decide +kernel
theorem dX12_echo_0 : decode cX12_echo 0 = .ok (.aload_n 0, 1) := by decide +kernel
theorem dX12_echo_1 : decode cX12_echo 1 = .ok (.iload_n 1, 1) := by decide +kernel
theorem dX12_echo_2 : decode cX12_echo 2 = .ok (.invokevirtual 385, 3) := by decide +kernel
theorem dX12_echo_5 : decode cX12_echo 5 = .ok (.ifCond .eq 13, 3) := by decide +kernel
theorem dX12_echo_8 : decode cX12_echo 8 = .ok (.iload_n 2, 1) := by decide +kernel
theorem dX12_echo_9 : decode cX12_echo 9 = .ok (.iconst 0, 1) := by decide +kernel
theorem dX12_echo_10 : decode cX12_echo 10 = .ok (.bipush 8, 2) := by decide +kernel
theorem dX12_echo_12 : decode cX12_echo 12 = .ok (.invokestatic 381, 3) := by decide +kernel
theorem dX12_echo_15 : decode cX12_echo 15 = .ok (.ifCond .ne 5, 3) := by decide +kernel
theorem dX12_echo_18 : decode cX12_echo 18 = .ok (.iconst (-1), 1) := by decide +kernel
theorem dX12_echo_19 : decode cX12_echo 19 = .ok (.ireturn, 1) := by decide +kernel
theorem dX12_echo_20 : decode cX12_echo 20 = .ok (.iconst 0, 1) := by decide +kernel
theorem dX12_echo_21 : decode cX12_echo 21 = .ok (.istore_n 3, 1) := by decide +kernel
theorem dX12_echo_22 : decode cX12_echo 22 = .ok (.iconst 0, 1) := by decide +kernel
theorem dX12_echo_23 : decode cX12_echo 23 = .ok (.istore 4, 2) := by decide +kernel
theorem dX12_echo_25 : decode cX12_echo 25 = .ok (.iload 4, 2) := by decide +kernel
theorem dX12_echo_27 : decode cX12_echo 27 = .ok (.aload_n 0, 1) := by decide +kernel
theorem dX12_echo_28 : decode cX12_echo 28 = .ok (.invokevirtual 378, 3) := by decide +kernel
theorem dX12_echo_31 : decode cX12_echo 31 = .ok (.if_icmp .ge 33, 3) := by decide +kernel
theorem dX12_echo_34 : decode cX12_echo 34 = .ok (.iload_n 3, 1) := by decide +kernel
theorem dX12_echo_35 : decode cX12_echo 35 = .ok (.aload_n 0, 1) := by decide +kernel
theorem dX12_echo_36 : decode cX12_echo 36 = .ok (.iload_n 1, 1) := by decide +kernel
theorem dX12_echo_37 : decode cX12_echo 37 = .ok (.iload 4, 2) := by decide +kernel
theorem dX12_echo_39 : decode cX12_echo 39 = .ok (.invokevirtual 421, 3) := by decide +kernel
theorem dX12_echo_42 : decode cX12_echo 42 = .ok (.iload_n 2, 1) := by decide +kernel
theorem dX12_echo_43 : decode cX12_echo 43 = .ok (.if_icmp .gt 12, 3) := by decide +kernel
theorem dX12_echo_46 : decode cX12_echo 46 = .ok (.aload_n 0, 1) := by decide +kernel
theorem dX12_echo_47 : decode cX12_echo 47 = .ok (.iload 4, 2) := by decide +kernel
theorem dX12_echo_49 : decode cX12_echo 49 = .ok (.invokevirtual 430, 3) := by decide +kernel
theorem dX12_echo_52 : decode cX12_echo 52 = .ok (.goto 4, 3) := by decide +kernel
theorem dX12_echo_55 : decode cX12_echo 55 = .ok (.iconst 0, 1) := by decide +kernel
theorem dX12_echo_56 : decode cX12_echo 56 = .ok (.iadd, 1) := by decide +kernel
theorem dX12_echo_57 : decode cX12_echo 57 = .ok (.istore_n 3, 1) := by decide +kernel
theorem dX12_echo_58 : decode cX12_echo 58 = .ok (.iinc 4 1, 3) := by decide +kernel
theorem dX12_echo_61 : decode cX12_echo 61 = .ok (.goto (-36), 3) := by decide +kernel
theorem dX12_echo_64 : decode cX12_echo 64 = .ok (.iload_n 3, 1) := by decide +kernel
theorem dX12_echo_65 : decode cX12_echo 65 = .ok (.ireturn, 1) := by decide +kernel
theorem dX12_mend_0 : decode cX12_mend 0 = .ok (.iload_n 1, 1) := by decide +kernel
theorem dX12_mend_1 : decode cX12_mend 1 = .ok (.iconst 0, 1) := by decide +kernel
theorem dX12_mend_2 : decode cX12_mend 2 = .ok (.bipush 99, 2) := by decide +kernel
theorem dX12_mend_4 : decode cX12_mend 4 = .ok (.invokestatic 381, 3) := by decide +kernel
theorem dX12_mend_7 : decode cX12_mend 7 = .ok (.ifCond .ne 5, 3) := by decide +kernel
theorem dX12_mend_10 : decode cX12_mend 10 = .ok (.iconst (-1), 1) := by decide +kernel
theorem dX12_mend_11 : decode cX12_mend 11 = .ok (.ireturn, 1) := by decide +kernel
theorem dX12_mend_12 : decode cX12_mend 12 = .ok (.iload_n 1, 1) := by decide +kernel
theorem dX12_mend_13 : decode cX12_mend 13 = .ok (.istore_n 2, 1) := by decide +kernel
theorem dX12_mend_14 : decode cX12_mend 14 = .ok (.iconst 0, 1) := by decide +kernel
theorem dX12_mend_15 : decode cX12_mend 15 = .ok (.istore_n 3, 1) := by decide +kernel
theorem dX12_mend_16 : decode cX12_mend 16 = .ok (.iconst 0, 1) := by decide +kernel
theorem dX12_mend_17 : decode cX12_mend 17 = .ok (.istore 4, 2) := by decide +kernel
theorem dX12_mend_19 : decode cX12_mend 19 = .ok (.iload 4, 2) := by decide +kernel
theorem dX12_mend_21 : decode cX12_mend 21 = .ok (.bipush 8, 2) := by decide +kernel
theorem dX12_mend_23 : decode cX12_mend 23 = .ok (.if_icmp .ge 72, 3) := by decide +kernel
theorem dX12_mend_26 : decode cX12_mend 26 = .ok (.iconst 0, 1) := by decide +kernel
theorem dX12_mend_27 : decode cX12_mend 27 = .ok (.istore 5, 2) := by decide +kernel
theorem dX12_mend_29 : decode cX12_mend 29 = .ok (.iload 5, 2) := by decide +kernel
theorem dX12_mend_31 : decode cX12_mend 31 = .ok (.aload_n 0, 1) := by decide +kernel
theorem dX12_mend_32 : decode cX12_mend 32 = .ok (.invokevirtual 388, 3) := by decide +kernel
theorem dX12_mend_35 : decode cX12_mend 35 = .ok (.if_icmp .ge 54, 3) := by decide +kernel
theorem dX12_mend_38 : decode cX12_mend 38 = .ok (.aload_n 0, 1) := by decide +kernel
theorem dX12_mend_39 : decode cX12_mend 39 = .ok (.aload_n 0, 1) := by decide +kernel
theorem dX12_mend_40 : decode cX12_mend 40 = .ok (.getfield 95, 3) := by decide +kernel
theorem dX12_mend_43 : decode cX12_mend 43 = .ok (.iconst 0, 1) := by decide +kernel
theorem dX12_mend_44 : decode cX12_mend 44 = .ok (.iload 5, 2) := by decide +kernel
theorem dX12_mend_46 : decode cX12_mend 46 = .ok (.iadd, 1) := by decide +kernel
theorem dX12_mend_47 : decode cX12_mend 47 = .ok (.iaload, 1) := by decide +kernel
theorem dX12_mend_48 : decode cX12_mend 48 = .ok (.aload_n 0, 1) := by decide +kernel
theorem dX12_mend_49 : decode cX12_mend 49 = .ok (.getfield 95, 3) := by decide +kernel
theorem dX12_mend_52 : decode cX12_mend 52 = .ok (.bipush 6, 2) := by decide +kernel
theorem dX12_mend_54 : decode cX12_mend 54 = .ok (.iload 5, 2) := by decide +kernel
theorem dX12_mend_56 : decode cX12_mend 56 = .ok (.iadd, 1) := by decide +kernel
theorem dX12_mend_57 : decode cX12_mend 57 = .ok (.iaload, 1) := by decide +kernel
theorem dX12_mend_58 : decode cX12_mend 58 = .ok (.invokevirtual 421, 3) := by decide +kernel
theorem dX12_mend_61 : decode cX12_mend 61 = .ok (.iload 4, 2) := by decide +kernel
theorem dX12_mend_63 : decode cX12_mend 63 = .ok (.if_icmp .ne 20, 3) := by decide +kernel
theorem dX12_mend_66 : decode cX12_mend 66 = .ok (.iload 4, 2) := by decide +kernel
theorem dX12_mend_68 : decode cX12_mend 68 = .ok (.iload_n 2, 1) := by decide +kernel
theorem dX12_mend_69 : decode cX12_mend 69 = .ok (.if_icmp .le 6, 3) := by decide +kernel
theorem dX12_mend_72 : decode cX12_mend 72 = .ok (.goto 11, 3) := by decide +kernel
theorem dX12_mend_75 : decode cX12_mend 75 = .ok (.iload_n 2, 1) := by decide +kernel
theorem dX12_mend_76 : decode cX12_mend 76 = .ok (.iload 4, 2) := by decide +kernel
theorem dX12_mend_78 : decode cX12_mend 78 = .ok (.isub, 1) := by decide +kernel
theorem dX12_mend_79 : decode cX12_mend 79 = .ok (.istore_n 2, 1) := by decide +kernel
theorem dX12_mend_80 : decode cX12_mend 80 = .ok (.iinc 3 1, 3) := by decide +kernel
theorem dX12_mend_83 : decode cX12_mend 83 = .ok (.iinc 5 1, 3) := by decide +kernel
theorem dX12_mend_86 : decode cX12_mend 86 = .ok (.goto (-57), 3) := by decide +kernel
theorem dX12_mend_89 : decode cX12_mend 89 = .ok (.iinc 4 1, 3) := by decide +kernel
theorem dX12_mend_92 : decode cX12_mend 92 = .ok (.goto (-73), 3) := by decide +kernel
theorem dX12_mend_95 : decode cX12_mend 95 = .ok (.iload_n 3, 1) := by decide +kernel
theorem dX12_mend_96 : decode cX12_mend 96 = .ok (.ireturn, 1) := by decide +kernel
theorem dX12_worthOf_0 : decode cX12_worthOf 0 = .ok (.iload_n 2, 1) := by decide +kernel
theorem dX12_worthOf_1 : decode cX12_worthOf 1 = .ok (.ifCond .ne 20, 3) := by decide +kernel
theorem dX12_worthOf_4 : decode cX12_worthOf 4 = .ok (.aload_n 0, 1) := by decide +kernel
theorem dX12_worthOf_5 : decode cX12_worthOf 5 = .ok (.getfield 54, 3) := by decide +kernel
theorem dX12_worthOf_8 : decode cX12_worthOf 8 = .ok (.bipush 6, 2) := by decide +kernel
theorem dX12_worthOf_10 : decode cX12_worthOf 10 = .ok (.aload_n 0, 1) := by decide +kernel
theorem dX12_worthOf_11 : decode cX12_worthOf 11 = .ok (.getfield 280, 3) := by decide +kernel
theorem dX12_worthOf_14 : decode cX12_worthOf 14 = .ok (.imul, 1) := by decide +kernel
theorem dX12_worthOf_15 : decode cX12_worthOf 15 = .ok (.iload_n 1, 1) := by decide +kernel
theorem dX12_worthOf_16 : decode cX12_worthOf 16 = .ok (.iadd, 1) := by decide +kernel
theorem dX12_worthOf_17 : decode cX12_worthOf 17 = .ok (.iaload, 1) := by decide +kernel
theorem dX12_worthOf_18 : decode cX12_worthOf 18 = .ok (.goto 17, 3) := by decide +kernel
theorem dX12_worthOf_21 : decode cX12_worthOf 21 = .ok (.aload_n 0, 1) := by decide +kernel
theorem dX12_worthOf_22 : decode cX12_worthOf 22 = .ok (.getfield 57, 3) := by decide +kernel
theorem dX12_worthOf_25 : decode cX12_worthOf 25 = .ok (.bipush 6, 2) := by decide +kernel
theorem dX12_worthOf_27 : decode cX12_worthOf 27 = .ok (.aload_n 0, 1) := by decide +kernel
theorem dX12_worthOf_28 : decode cX12_worthOf 28 = .ok (.getfield 280, 3) := by decide +kernel
theorem dX12_worthOf_31 : decode cX12_worthOf 31 = .ok (.imul, 1) := by decide +kernel
theorem dX12_worthOf_32 : decode cX12_worthOf 32 = .ok (.iload_n 1, 1) := by decide +kernel
theorem dX12_worthOf_33 : decode cX12_worthOf 33 = .ok (.iadd, 1) := by decide +kernel
theorem dX12_worthOf_34 : decode cX12_worthOf 34 = .ok (.iaload, 1) := by decide +kernel
theorem dX12_worthOf_35 : decode cX12_worthOf 35 = .ok (.ireturn, 1) := by decide +kernel
theorem dX12_regret_0 : decode cX12_regret 0 = .ok (.iconst 0, 1) := by decide +kernel
theorem dX12_regret_1 : decode cX12_regret 1 = .ok (.istore_n 1, 1) := by decide +kernel
theorem dX12_regret_2 : decode cX12_regret 2 = .ok (.iconst 0, 1) := by decide +kernel
theorem dX12_regret_3 : decode cX12_regret 3 = .ok (.istore_n 2, 1) := by decide +kernel
theorem dX12_regret_4 : decode cX12_regret 4 = .ok (.iload_n 2, 1) := by decide +kernel
theorem dX12_regret_5 : decode cX12_regret 5 = .ok (.aload_n 0, 1) := by decide +kernel
theorem dX12_regret_6 : decode cX12_regret 6 = .ok (.invokevirtual 388, 3) := by decide +kernel
theorem dX12_regret_9 : decode cX12_regret 9 = .ok (.if_icmp .ge 48, 3) := by decide +kernel
theorem dX12_regret_12 : decode cX12_regret 12 = .ok (.aload_n 0, 1) := by decide +kernel
theorem dX12_regret_13 : decode cX12_regret 13 = .ok (.iload_n 2, 1) := by decide +kernel
theorem dX12_regret_14 : decode cX12_regret 14 = .ok (.aload_n 0, 1) := by decide +kernel
theorem dX12_regret_15 : decode cX12_regret 15 = .ok (.getfield 95, 3) := by decide +kernel
theorem dX12_regret_18 : decode cX12_regret 18 = .ok (.bipush 12, 2) := by decide +kernel
theorem dX12_regret_20 : decode cX12_regret 20 = .ok (.iload_n 2, 1) := by decide +kernel
theorem dX12_regret_21 : decode cX12_regret 21 = .ok (.iadd, 1) := by decide +kernel
theorem dX12_regret_22 : decode cX12_regret 22 = .ok (.iaload, 1) := by decide +kernel
theorem dX12_regret_23 : decode cX12_regret 23 = .ok (.invokevirtual 487, 3) := by decide +kernel
theorem dX12_regret_26 : decode cX12_regret 26 = .ok (.aload_n 0, 1) := by decide +kernel
theorem dX12_regret_27 : decode cX12_regret 27 = .ok (.iload_n 2, 1) := by decide +kernel
theorem dX12_regret_28 : decode cX12_regret 28 = .ok (.iconst 1, 1) := by decide +kernel
theorem dX12_regret_29 : decode cX12_regret 29 = .ok (.aload_n 0, 1) := by decide +kernel
theorem dX12_regret_30 : decode cX12_regret 30 = .ok (.getfield 95, 3) := by decide +kernel
theorem dX12_regret_33 : decode cX12_regret 33 = .ok (.bipush 12, 2) := by decide +kernel
theorem dX12_regret_35 : decode cX12_regret 35 = .ok (.iload_n 2, 1) := by decide +kernel
theorem dX12_regret_36 : decode cX12_regret 36 = .ok (.iadd, 1) := by decide +kernel
theorem dX12_regret_37 : decode cX12_regret 37 = .ok (.iaload, 1) := by decide +kernel
theorem dX12_regret_38 : decode cX12_regret 38 = .ok (.isub, 1) := by decide +kernel
theorem dX12_regret_39 : decode cX12_regret 39 = .ok (.invokevirtual 487, 3) := by decide +kernel
theorem dX12_regret_42 : decode cX12_regret 42 = .ok (.if_icmp .le 9, 3) := by decide +kernel
theorem dX12_regret_45 : decode cX12_regret 45 = .ok (.iload_n 1, 1) := by decide +kernel
theorem dX12_regret_46 : decode cX12_regret 46 = .ok (.iconst 1, 1) := by decide +kernel
theorem dX12_regret_47 : decode cX12_regret 47 = .ok (.iload_n 2, 1) := by decide +kernel
theorem dX12_regret_48 : decode cX12_regret 48 = .ok (.ishl, 1) := by decide +kernel
theorem dX12_regret_49 : decode cX12_regret 49 = .ok (.ior, 1) := by decide +kernel
theorem dX12_regret_50 : decode cX12_regret 50 = .ok (.istore_n 1, 1) := by decide +kernel
theorem dX12_regret_51 : decode cX12_regret 51 = .ok (.iinc 2 1, 3) := by decide +kernel
theorem dX12_regret_54 : decode cX12_regret 54 = .ok (.goto (-50), 3) := by decide +kernel
theorem dX12_regret_57 : decode cX12_regret 57 = .ok (.iload_n 1, 1) := by decide +kernel
theorem dX12_regret_58 : decode cX12_regret 58 = .ok (.ireturn, 1) := by decide +kernel
theorem dX12_gainOf_0 : decode cX12_gainOf 0 = .ok (.aload_n 0, 1) := by decide +kernel
theorem dX12_gainOf_1 : decode cX12_gainOf 1 = .ok (.getfield 95, 3) := by decide +kernel
theorem dX12_gainOf_4 : decode cX12_gainOf 4 = .ok (.bipush 12, 2) := by decide +kernel
theorem dX12_gainOf_6 : decode cX12_gainOf 6 = .ok (.iload_n 1, 1) := by decide +kernel
theorem dX12_gainOf_7 : decode cX12_gainOf 7 = .ok (.iadd, 1) := by decide +kernel
theorem dX12_gainOf_8 : decode cX12_gainOf 8 = .ok (.iaload, 1) := by decide +kernel
theorem dX12_gainOf_9 : decode cX12_gainOf 9 = .ok (.iconst 1, 1) := by decide +kernel
theorem dX12_gainOf_10 : decode cX12_gainOf 10 = .ok (.if_icmp .ne 15, 3) := by decide +kernel
theorem dX12_gainOf_13 : decode cX12_gainOf 13 = .ok (.aload_n 0, 1) := by decide +kernel
theorem dX12_gainOf_14 : decode cX12_gainOf 14 = .ok (.getfield 95, 3) := by decide +kernel
theorem dX12_gainOf_17 : decode cX12_gainOf 17 = .ok (.bipush 12, 2) := by decide +kernel
theorem dX12_gainOf_19 : decode cX12_gainOf 19 = .ok (.iload_n 2, 1) := by decide +kernel
theorem dX12_gainOf_20 : decode cX12_gainOf 20 = .ok (.iadd, 1) := by decide +kernel
theorem dX12_gainOf_21 : decode cX12_gainOf 21 = .ok (.iaload, 1) := by decide +kernel
theorem dX12_gainOf_22 : decode cX12_gainOf 22 = .ok (.ifCond .eq 5, 3) := by decide +kernel
theorem dX12_gainOf_25 : decode cX12_gainOf 25 = .ok (.iconst (-1), 1) := by decide +kernel
theorem dX12_gainOf_26 : decode cX12_gainOf 26 = .ok (.ireturn, 1) := by decide +kernel
theorem dX12_gainOf_27 : decode cX12_gainOf 27 = .ok (.aload_n 0, 1) := by decide +kernel
theorem dX12_gainOf_28 : decode cX12_gainOf 28 = .ok (.iload_n 2, 1) := by decide +kernel
theorem dX12_gainOf_29 : decode cX12_gainOf 29 = .ok (.iconst 0, 1) := by decide +kernel
theorem dX12_gainOf_30 : decode cX12_gainOf 30 = .ok (.invokevirtual 487, 3) := by decide +kernel
theorem dX12_gainOf_33 : decode cX12_gainOf 33 = .ok (.aload_n 0, 1) := by decide +kernel
theorem dX12_gainOf_34 : decode cX12_gainOf 34 = .ok (.iload_n 1, 1) := by decide +kernel
theorem dX12_gainOf_35 : decode cX12_gainOf 35 = .ok (.iconst 0, 1) := by decide +kernel
theorem dX12_gainOf_36 : decode cX12_gainOf 36 = .ok (.invokevirtual 487, 3) := by decide +kernel
theorem dX12_gainOf_39 : decode cX12_gainOf 39 = .ok (.isub, 1) := by decide +kernel
theorem dX12_gainOf_40 : decode cX12_gainOf 40 = .ok (.istore_n 3, 1) := by decide +kernel
theorem dX12_gainOf_41 : decode cX12_gainOf 41 = .ok (.aload_n 0, 1) := by decide +kernel
theorem dX12_gainOf_42 : decode cX12_gainOf 42 = .ok (.iload_n 1, 1) := by decide +kernel
theorem dX12_gainOf_43 : decode cX12_gainOf 43 = .ok (.iconst 1, 1) := by decide +kernel
theorem dX12_gainOf_44 : decode cX12_gainOf 44 = .ok (.invokevirtual 487, 3) := by decide +kernel
theorem dX12_gainOf_47 : decode cX12_gainOf 47 = .ok (.aload_n 0, 1) := by decide +kernel
theorem dX12_gainOf_48 : decode cX12_gainOf 48 = .ok (.iload_n 2, 1) := by decide +kernel
theorem dX12_gainOf_49 : decode cX12_gainOf 49 = .ok (.iconst 1, 1) := by decide +kernel
theorem dX12_gainOf_50 : decode cX12_gainOf 50 = .ok (.invokevirtual 487, 3) := by decide +kernel
theorem dX12_gainOf_53 : decode cX12_gainOf 53 = .ok (.isub, 1) := by decide +kernel
theorem dX12_gainOf_54 : decode cX12_gainOf 54 = .ok (.istore 4, 2) := by decide +kernel
theorem dX12_gainOf_56 : decode cX12_gainOf 56 = .ok (.iload_n 3, 1) := by decide +kernel
theorem dX12_gainOf_57 : decode cX12_gainOf 57 = .ok (.ifCond .lt 8, 3) := by decide +kernel
theorem dX12_gainOf_60 : decode cX12_gainOf 60 = .ok (.iload 4, 2) := by decide +kernel
theorem dX12_gainOf_62 : decode cX12_gainOf 62 = .ok (.ifCond .ge 7, 3) := by decide +kernel
theorem dX12_gainOf_65 : decode cX12_gainOf 65 = .ok (.iconst (-1), 1) := by decide +kernel
theorem dX12_gainOf_66 : decode cX12_gainOf 66 = .ok (.goto 7, 3) := by decide +kernel
theorem dX12_gainOf_69 : decode cX12_gainOf 69 = .ok (.iload_n 3, 1) := by decide +kernel
theorem dX12_gainOf_70 : decode cX12_gainOf 70 = .ok (.iload 4, 2) := by decide +kernel
theorem dX12_gainOf_72 : decode cX12_gainOf 72 = .ok (.iadd, 1) := by decide +kernel
theorem dX12_gainOf_73 : decode cX12_gainOf 73 = .ok (.ireturn, 1) := by decide +kernel
theorem dX12_trade_0 : decode cX12_trade 0 = .ok (.iload_n 1, 1) := by decide +kernel
theorem dX12_trade_1 : decode cX12_trade 1 = .ok (.iconst 0, 1) := by decide +kernel
theorem dX12_trade_2 : decode cX12_trade 2 = .ok (.iconst 2, 1) := by decide +kernel
theorem dX12_trade_3 : decode cX12_trade 3 = .ok (.invokestatic 381, 3) := by decide +kernel
theorem dX12_trade_6 : decode cX12_trade 6 = .ok (.ifCond .ne 5, 3) := by decide +kernel
theorem dX12_trade_9 : decode cX12_trade 9 = .ok (.iconst (-1), 1) := by decide +kernel
theorem dX12_trade_10 : decode cX12_trade 10 = .ok (.ireturn, 1) := by decide +kernel
theorem dX12_trade_11 : decode cX12_trade 11 = .ok (.iconst (-1), 1) := by decide +kernel
theorem dX12_trade_12 : decode cX12_trade 12 = .ok (.istore_n 2, 1) := by decide +kernel
theorem dX12_trade_13 : decode cX12_trade 13 = .ok (.iconst (-1), 1) := by decide +kernel
theorem dX12_trade_14 : decode cX12_trade 14 = .ok (.istore_n 3, 1) := by decide +kernel
theorem dX12_trade_15 : decode cX12_trade 15 = .ok (.iconst 0, 1) := by decide +kernel
theorem dX12_trade_16 : decode cX12_trade 16 = .ok (.istore 4, 2) := by decide +kernel
theorem dX12_trade_18 : decode cX12_trade 18 = .ok (.iload 4, 2) := by decide +kernel
theorem dX12_trade_20 : decode cX12_trade 20 = .ok (.bipush 36, 2) := by decide +kernel
theorem dX12_trade_22 : decode cX12_trade 22 = .ok (.if_icmp .ge 72, 3) := by decide +kernel
theorem dX12_trade_25 : decode cX12_trade 25 = .ok (.iload 4, 2) := by decide +kernel
theorem dX12_trade_27 : decode cX12_trade 27 = .ok (.bipush 6, 2) := by decide +kernel
theorem dX12_trade_29 : decode cX12_trade 29 = .ok (.idiv, 1) := by decide +kernel
theorem dX12_trade_30 : decode cX12_trade 30 = .ok (.aload_n 0, 1) := by decide +kernel
theorem dX12_trade_31 : decode cX12_trade 31 = .ok (.invokevirtual 388, 3) := by decide +kernel
theorem dX12_trade_34 : decode cX12_trade 34 = .ok (.if_icmp .ge 54, 3) := by decide +kernel
theorem dX12_trade_37 : decode cX12_trade 37 = .ok (.iload 4, 2) := by decide +kernel
theorem dX12_trade_39 : decode cX12_trade 39 = .ok (.bipush 6, 2) := by decide +kernel
theorem dX12_trade_41 : decode cX12_trade 41 = .ok (.irem, 1) := by decide +kernel
theorem dX12_trade_42 : decode cX12_trade 42 = .ok (.aload_n 0, 1) := by decide +kernel
theorem dX12_trade_43 : decode cX12_trade 43 = .ok (.invokevirtual 388, 3) := by decide +kernel
theorem dX12_trade_46 : decode cX12_trade 46 = .ok (.if_icmp .ge 42, 3) := by decide +kernel
theorem dX12_trade_49 : decode cX12_trade 49 = .ok (.aload_n 0, 1) := by decide +kernel
theorem dX12_trade_50 : decode cX12_trade 50 = .ok (.iload 4, 2) := by decide +kernel
theorem dX12_trade_52 : decode cX12_trade 52 = .ok (.bipush 6, 2) := by decide +kernel
theorem dX12_trade_54 : decode cX12_trade 54 = .ok (.idiv, 1) := by decide +kernel
theorem dX12_trade_55 : decode cX12_trade 55 = .ok (.iload 4, 2) := by decide +kernel
theorem dX12_trade_57 : decode cX12_trade 57 = .ok (.bipush 6, 2) := by decide +kernel
theorem dX12_trade_59 : decode cX12_trade 59 = .ok (.irem, 1) := by decide +kernel
theorem dX12_trade_60 : decode cX12_trade 60 = .ok (.invokevirtual 490, 3) := by decide +kernel
theorem dX12_trade_63 : decode cX12_trade 63 = .ok (.iload_n 3, 1) := by decide +kernel
theorem dX12_trade_64 : decode cX12_trade 64 = .ok (.if_icmp .gt 6, 3) := by decide +kernel
theorem dX12_trade_67 : decode cX12_trade 67 = .ok (.goto 21, 3) := by decide +kernel
theorem dX12_trade_70 : decode cX12_trade 70 = .ok (.iload 4, 2) := by decide +kernel
theorem dX12_trade_72 : decode cX12_trade 72 = .ok (.istore_n 2, 1) := by decide +kernel
theorem dX12_trade_73 : decode cX12_trade 73 = .ok (.aload_n 0, 1) := by decide +kernel
theorem dX12_trade_74 : decode cX12_trade 74 = .ok (.iload 4, 2) := by decide +kernel
theorem dX12_trade_76 : decode cX12_trade 76 = .ok (.bipush 6, 2) := by decide +kernel
theorem dX12_trade_78 : decode cX12_trade 78 = .ok (.idiv, 1) := by decide +kernel
theorem dX12_trade_79 : decode cX12_trade 79 = .ok (.iload 4, 2) := by decide +kernel
theorem dX12_trade_81 : decode cX12_trade 81 = .ok (.bipush 6, 2) := by decide +kernel
theorem dX12_trade_83 : decode cX12_trade 83 = .ok (.irem, 1) := by decide +kernel
theorem dX12_trade_84 : decode cX12_trade 84 = .ok (.invokevirtual 490, 3) := by decide +kernel
theorem dX12_trade_87 : decode cX12_trade 87 = .ok (.istore_n 3, 1) := by decide +kernel
theorem dX12_trade_88 : decode cX12_trade 88 = .ok (.iinc 4 1, 3) := by decide +kernel
theorem dX12_trade_91 : decode cX12_trade 91 = .ok (.goto (-73), 3) := by decide +kernel
theorem dX12_trade_94 : decode cX12_trade 94 = .ok (.iload_n 2, 1) := by decide +kernel
theorem dX12_trade_95 : decode cX12_trade 95 = .ok (.ifCond .ge 7, 3) := by decide +kernel
theorem dX12_trade_98 : decode cX12_trade 98 = .ok (.iconst (-1), 1) := by decide +kernel
theorem dX12_trade_99 : decode cX12_trade 99 = .ok (.goto 27, 3) := by decide +kernel
theorem dX12_trade_102 : decode cX12_trade 102 = .ok (.iload_n 1, 1) := by decide +kernel
theorem dX12_trade_103 : decode cX12_trade 103 = .ok (.ifCond .ne 7, 3) := by decide +kernel
theorem dX12_trade_106 : decode cX12_trade 106 = .ok (.iload_n 3, 1) := by decide +kernel
theorem dX12_trade_107 : decode cX12_trade 107 = .ok (.goto 19, 3) := by decide +kernel
theorem dX12_trade_110 : decode cX12_trade 110 = .ok (.iload_n 1, 1) := by decide +kernel
theorem dX12_trade_111 : decode cX12_trade 111 = .ok (.iconst 1, 1) := by decide +kernel
theorem dX12_trade_112 : decode cX12_trade 112 = .ok (.if_icmp .ne 10, 3) := by decide +kernel
theorem dX12_trade_115 : decode cX12_trade 115 = .ok (.iload_n 2, 1) := by decide +kernel
theorem dX12_trade_116 : decode cX12_trade 116 = .ok (.bipush 6, 2) := by decide +kernel
theorem dX12_trade_118 : decode cX12_trade 118 = .ok (.idiv, 1) := by decide +kernel
theorem dX12_trade_119 : decode cX12_trade 119 = .ok (.goto 7, 3) := by decide +kernel
theorem dX12_trade_122 : decode cX12_trade 122 = .ok (.iload_n 2, 1) := by decide +kernel
theorem dX12_trade_123 : decode cX12_trade 123 = .ok (.bipush 6, 2) := by decide +kernel
theorem dX12_trade_125 : decode cX12_trade 125 = .ok (.irem, 1) := by decide +kernel
theorem dX12_trade_126 : decode cX12_trade 126 = .ok (.ireturn, 1) := by decide +kernel
set_option maxRecDepth 20000 in
theorem ggX12_ways_X12_areRooms : GoodIn wsX12_ways wsX12_areRooms := goodIn_r _ [6, 7, 8, 9, 5, 10, 11, 12, 13, 14, 15, 16, 17, 18, 19, 43, 44, 45, 46, 47, 48, 49, 50, 51, 52, 53, 54, 55, 56, 57, 58, 59, 60, 61, 62, 63, 64, 65, 66, 67, 68, 69, 70, 71, 72, 73, 74, 75, 76, 77, 78, 79, 80, 81, 82, 83, 84, 85, 86, 87, 88, 89, 90, 91, 92, 93, 94, 95, 96, 97, 98, 99, 100, 101, 102, 103, 104, 105, 106, 107, 108, 109, 110, 111, 112, 113] (by decide +kernel) (by decide +kernel)
set_option maxRecDepth 20000 in
theorem gX12_ways_X12_areRooms : GoodIn wsX12_ways (wsV RX12 445 RX12 yX12_areRooms wsX12_areRooms) := goodIn_app (goodIn_of _ (by decide +kernel)) ggX12_ways_X12_areRooms
set_option maxRecDepth 20000 in
theorem ggX12_ways_X12_behind : GoodIn wsX12_ways wsX12_behind := goodIn_r _ [28, 29, 16, 30, 31, 32, 5, 33, 34, 35, 36, 37, 38, 39, 43, 44, 45, 46, 47, 48, 49, 50, 51, 52, 53, 54, 55, 56, 57, 58, 59, 60, 61, 62, 63, 64, 65, 66, 67, 68, 69, 70, 71, 72, 73, 74, 75, 76, 77, 78, 79, 80, 81, 82, 83, 84, 85, 86, 87, 88, 89, 90, 91, 92, 93, 94, 95, 96, 97, 98, 99, 100, 101, 102, 103, 104, 105, 106, 107, 108, 109, 110, 111, 112, 113] (by decide +kernel) (by decide +kernel)
set_option maxRecDepth 20000 in
theorem gX12_ways_X12_behind : GoodIn wsX12_ways (wsV RX12 400 RX12 yX12_behind wsX12_behind) := goodIn_app (goodIn_of _ (by decide +kernel)) ggX12_ways_X12_behind
set_option maxRecDepth 20000 in
theorem ggX12_ways_X12_farOf : GoodIn wsX12_ways wsX12_farOf := goodIn_r _ [23, 24, 43, 44, 45, 46, 47, 48, 49, 50, 51, 52, 53, 54, 55, 56, 57, 58, 59, 60, 61, 62, 63, 64, 65, 66, 67, 68, 69, 70, 71, 72, 73, 74, 75, 76, 77, 78, 79, 80, 81, 82, 83, 84, 85, 86, 87, 88, 89, 90, 91, 92, 93, 94, 95, 96, 97, 98, 99, 100, 101, 102, 103, 104, 105, 106, 107, 108, 109, 110, 111, 112, 113] (by decide +kernel) (by decide +kernel)
set_option maxRecDepth 20000 in
theorem gX12_ways_X12_farOf : GoodIn wsX12_ways (wsV RX12 421 RX12 yX12_farOf wsX12_farOf) := goodIn_app (goodIn_of _ (by decide +kernel)) ggX12_ways_X12_farOf
set_option maxRecDepth 20000 in
theorem ggX12_ways_X12_has : GoodIn wsX12_ways wsX12_has := goodIn_r _ [42] (by decide +kernel) (by decide +kernel)
set_option maxRecDepth 20000 in
theorem gX12_ways_X12_has : GoodIn wsX12_ways (va_wsS RX12 397 yX12_has wsX12_has) := goodIn_app (goodIn_of _ (by decide +kernel)) ggX12_ways_X12_has
set_option maxRecDepth 20000 in
theorem ggX12_ways_X12_places : GoodIn wsX12_ways wsX12_places := goodIn_r _ [14, 15, 16, 43, 44, 45, 46, 47, 48, 49, 50, 51, 52, 53, 54, 55, 56, 57, 58, 59, 60, 61, 62, 63, 64, 65, 66, 67, 68, 69, 70, 71, 72, 73, 74, 75, 76, 77, 78, 79, 80, 81, 82, 83, 84, 85, 86, 87, 88, 89, 90, 91, 92, 93, 94, 95, 96, 97, 98, 99, 100, 101, 102, 103, 104, 105, 106, 107, 108, 109, 110, 111, 112, 113] (by decide +kernel) (by decide +kernel)
set_option maxRecDepth 20000 in
theorem gX12_ways_X12_places : GoodIn wsX12_ways (wsV RX12 378 RX12 yX12_places wsX12_places) := goodIn_app (goodIn_of _ (by decide +kernel)) ggX12_ways_X12_places
set_option maxRecDepth 20000 in
theorem ggX12_pieces_X12_has : GoodIn wsX12_pieces wsX12_has := goodIn_r _ [10] (by decide +kernel) (by decide +kernel)
set_option maxRecDepth 20000 in
theorem gX12_pieces_X12_has : GoodIn wsX12_pieces (va_wsS RX12 397 yX12_has wsX12_has) := goodIn_app (goodIn_of _ (by decide +kernel)) ggX12_pieces_X12_has
set_option maxRecDepth 20000 in
theorem ggX12_pieces_X12_joined : GoodIn wsX12_pieces wsX12_joined := goodIn_r _ [14, 1, 2, 3, 4, 5, 6, 7, 8, 9, 10, 15, 16, 17, 18, 19, 20, 21, 22, 23, 24, 25, 26, 27, 28, 29, 30, 31, 32, 33, 34, 35, 36, 37, 38, 39, 40, 41, 42, 43, 44, 45, 46, 47, 48, 49, 50, 51, 52, 53, 54, 55, 56, 57, 58, 59, 60, 61, 62, 63, 64, 65, 66, 67, 68, 69, 70, 71, 72, 73, 74, 75, 76, 77, 78, 79, 80, 81, 82, 83, 84, 85, 86, 87, 88, 89, 90, 91, 92, 93, 94, 95, 96, 97, 98, 99, 100] (by decide +kernel) (by decide +kernel)
set_option maxRecDepth 20000 in
theorem gX12_pieces_X12_joined : GoodIn wsX12_pieces (wsV RX12 403 RX12 yX12_joined wsX12_joined) := goodIn_app (goodIn_of _ (by decide +kernel)) ggX12_pieces_X12_joined
set_option maxRecDepth 20000 in
theorem ggX12_pieces_X12_places : GoodIn wsX12_pieces wsX12_places := goodIn_r _ [5, 6, 7, 30, 31, 32, 33, 34, 35, 36, 37, 38, 39, 40, 41, 42, 43, 44, 45, 46, 47, 48, 49, 50, 51, 52, 53, 54, 55, 56, 57, 58, 59, 60, 61, 62, 63, 64, 65, 66, 67, 68, 69, 70, 71, 72, 73, 74, 75, 76, 77, 78, 79, 80, 81, 82, 83, 84, 85, 86, 87, 88, 89, 90, 91, 92, 93, 94, 95, 96, 97, 98, 99, 100] (by decide +kernel) (by decide +kernel)
set_option maxRecDepth 20000 in
theorem gX12_pieces_X12_places : GoodIn wsX12_pieces (wsV RX12 378 RX12 yX12_places wsX12_places) := goodIn_app (goodIn_of _ (by decide +kernel)) ggX12_pieces_X12_places
set_option maxRecDepth 20000 in
theorem ggX12_parts_X12_doesPart : GoodIn wsX12_parts wsX12_doesPart := goodIn_r _ [7, 8, 9, 10, 11, 6, 12, 13, 2, 14, 15, 16, 17, 18, 19, 20, 21, 22, 23, 24, 25, 26, 27, 28, 29, 30, 31, 32, 33, 34, 35, 36, 37, 38, 39, 40, 41, 42, 43, 44, 45, 46, 47, 48, 49, 50, 51, 52, 53, 54, 55, 56, 57, 58, 59, 60, 61, 62, 63, 64, 65, 66, 67, 68, 69, 70, 71, 72, 73, 74, 75, 76, 77, 78, 79, 80, 81, 82, 83, 84, 85, 86, 87] (by decide +kernel) (by decide +kernel)
set_option maxRecDepth 20000 in
theorem gX12_parts_X12_doesPart : GoodIn wsX12_parts (wsV RX12 442 RX12 yX12_doesPart wsX12_doesPart) := goodIn_app (goodIn_of _ (by decide +kernel)) ggX12_parts_X12_doesPart
set_option maxRecDepth 20000 in
theorem ggX12_layHunts_X12_bitsOf : GoodIn wsX12_layHunts wsX12_bitsOf := goodIn_r _ [14] (by decide +kernel) (by decide +kernel)
set_option maxRecDepth 20000 in
theorem gX12_layHunts_X12_bitsOf : GoodIn wsX12_layHunts (va_wsS RX12 469 yX12_bitsOf wsX12_bitsOf) := goodIn_app (goodIn_of _ (by decide +kernel)) ggX12_layHunts_X12_bitsOf
set_option maxRecDepth 20000 in
theorem ggX12_layHunts_X12_doesPart : GoodIn wsX12_layHunts wsX12_doesPart := goodIn_r _ [18, 5, 19, 20, 21, 9, 22, 23, 4, 24, 25, 26, 27, 28, 29, 30, 31, 32, 33, 34, 35, 36, 37, 38, 39, 40, 41, 42, 43, 44, 45, 46, 47, 48, 49, 50, 51, 52, 53, 54, 55, 56, 57, 58, 59, 60, 61, 62, 63, 64, 65, 66, 67, 68, 69, 70, 71, 72, 73, 74, 75, 76, 77, 78, 79, 80, 81, 82, 83, 84, 85, 86, 87, 88, 89, 90, 91, 92, 93, 94, 95, 96, 97] (by decide +kernel) (by decide +kernel)
set_option maxRecDepth 20000 in
theorem gX12_layHunts_X12_doesPart : GoodIn wsX12_layHunts (wsV RX12 442 RX12 yX12_doesPart wsX12_doesPart) := goodIn_app (goodIn_of _ (by decide +kernel)) ggX12_layHunts_X12_doesPart
set_option maxRecDepth 20000 in
theorem ggX12_layHunts_X12_places : GoodIn wsX12_layHunts wsX12_places := goodIn_r _ [10, 11, 4, 27, 28, 29, 30, 31, 32, 33, 34, 35, 36, 37, 38, 39, 40, 41, 42, 43, 44, 45, 46, 47, 48, 49, 50, 51, 52, 53, 54, 55, 56, 57, 58, 59, 60, 61, 62, 63, 64, 65, 66, 67, 68, 69, 70, 71, 72, 73, 74, 75, 76, 77, 78, 79, 80, 81, 82, 83, 84, 85, 86, 87, 88, 89, 90, 91, 92, 93, 94, 95, 96, 97] (by decide +kernel) (by decide +kernel)
set_option maxRecDepth 20000 in
theorem gX12_layHunts_X12_places : GoodIn wsX12_layHunts (wsV RX12 378 RX12 yX12_places wsX12_places) := goodIn_app (goodIn_of _ (by decide +kernel)) ggX12_layHunts_X12_places
set_option maxRecDepth 20000 in
theorem ggX12_hunt_X12_isSet : GoodIn wsX12_hunt wsX12_isSet := goodIn_r _ [6, 7, 8, 9, 5, 10, 11, 12, 13, 14, 15, 38, 39, 40, 41, 42, 43, 44, 45, 46, 47, 48, 49, 50, 51, 52, 53, 54, 55, 56, 57, 58, 59, 60, 61, 62, 63, 64, 65, 66, 67, 68, 69, 70, 71, 72, 73, 74, 75, 76, 77, 78, 79, 80, 81, 82, 83, 84, 85, 86, 87, 88, 89, 90, 91, 92, 93, 94, 95, 96, 97, 98, 99, 100, 101, 102, 103, 104, 105, 106, 107, 108] (by decide +kernel) (by decide +kernel)
set_option maxRecDepth 20000 in
theorem gX12_hunt_X12_isSet : GoodIn wsX12_hunt (wsV RX12 472 RX12 yX12_isSet wsX12_isSet) := goodIn_app (goodIn_of _ (by decide +kernel)) ggX12_hunt_X12_isSet
set_option maxRecDepth 20000 in
theorem ggX12_hunt_X12_layHunts : GoodIn wsX12_hunt wsX12_layHunts := goodIn_r _ [19, 1, 20, 21, 12, 22, 7, 8, 9, 5, 10, 11, 23, 24, 25, 26, 27, 28, 29, 30, 31, 32, 33, 34, 35, 36, 37, 38, 39, 40, 41, 42, 43, 44, 45, 46, 47, 48, 49, 50, 51, 52, 53, 54, 55, 56, 57, 58, 59, 60, 61, 62, 63, 64, 65, 66, 67, 68, 69, 70, 71, 72, 73, 74, 75, 76, 77, 78, 79, 80, 81, 82, 83, 84, 85, 86, 87, 88, 89, 90, 91, 92, 93, 94, 95, 96, 97, 98, 99, 100, 101, 102, 103, 104, 105, 106, 107, 108] (by decide +kernel) (by decide +kernel)
set_option maxRecDepth 20000 in
theorem gX12_hunt_X12_layHunts : GoodIn wsX12_hunt (wsV RX12 475 RX12 yX12_layHunts wsX12_layHunts) := goodIn_app (goodIn_of _ (by decide +kernel)) ggX12_hunt_X12_layHunts
set_option maxRecDepth 20000 in
theorem ggX12_first_X12_isSet : GoodIn wsX12_first wsX12_isSet := goodIn_r _ [7, 8, 9, 10, 6, 11, 12, 13, 14, 15, 16, 38, 39, 40, 41, 42, 43, 44, 45, 46, 47, 48, 49, 50, 51, 52, 53, 54, 55, 56, 57, 58, 59, 60, 61, 62, 63, 64, 65, 66, 67, 68, 69, 70, 71, 72, 73, 74, 75, 76, 77, 78, 79, 80, 81, 82, 83, 84, 85, 86, 87, 88, 89, 90, 91, 92, 93, 94, 95, 96, 97, 98, 99, 100, 101, 102, 103, 104, 105, 106, 107, 108] (by decide +kernel) (by decide +kernel)
set_option maxRecDepth 20000 in
theorem gX12_first_X12_isSet : GoodIn wsX12_first (wsV RX12 472 RX12 yX12_isSet wsX12_isSet) := goodIn_app (goodIn_of _ (by decide +kernel)) ggX12_first_X12_isSet
set_option maxRecDepth 20000 in
theorem ggX12_first_X12_layHunts : GoodIn wsX12_first wsX12_layHunts := goodIn_r _ [20, 1, 2, 21, 13, 22, 8, 9, 10, 6, 11, 12, 23, 24, 25, 26, 27, 28, 29, 30, 31, 32, 33, 34, 35, 36, 37, 38, 39, 40, 41, 42, 43, 44, 45, 46, 47, 48, 49, 50, 51, 52, 53, 54, 55, 56, 57, 58, 59, 60, 61, 62, 63, 64, 65, 66, 67, 68, 69, 70, 71, 72, 73, 74, 75, 76, 77, 78, 79, 80, 81, 82, 83, 84, 85, 86, 87, 88, 89, 90, 91, 92, 93, 94, 95, 96, 97, 98, 99, 100, 101, 102, 103, 104, 105, 106, 107, 108] (by decide +kernel) (by decide +kernel)
set_option maxRecDepth 20000 in
theorem gX12_first_X12_layHunts : GoodIn wsX12_first (wsV RX12 475 RX12 yX12_layHunts wsX12_layHunts) := goodIn_app (goodIn_of _ (by decide +kernel)) ggX12_first_X12_layHunts
set_option maxRecDepth 20000 in
theorem ggX12_meet_X12_areRooms : GoodIn wsX12_meet wsX12_areRooms := goodIn_r _ [5, 6, 7, 8, 4, 9, 10, 11, 12, 13, 14, 15, 16, 17, 18, 24, 25, 26, 27, 28, 29, 30, 31, 32, 33, 34, 35, 36, 37, 38, 39, 40, 41, 42, 43, 44, 45, 46, 47, 48, 49, 50, 51, 52, 53, 54, 55, 56, 57, 58, 59, 60, 61, 62, 63, 64, 65, 66, 67, 68, 69, 70, 71, 72, 73, 74, 75, 76, 77, 78, 79, 80, 81, 82, 83, 84, 85, 86, 87, 88, 89, 90, 91, 92, 93, 94] (by decide +kernel) (by decide +kernel)
set_option maxRecDepth 20000 in
theorem gX12_meet_X12_areRooms : GoodIn wsX12_meet (wsV RX12 445 RX12 yX12_areRooms wsX12_areRooms) := goodIn_app (goodIn_of _ (by decide +kernel)) ggX12_meet_X12_areRooms
set_option maxRecDepth 20000 in
theorem ggX12_meet_X12_farOf : GoodIn wsX12_meet wsX12_farOf := goodIn_r _ [22, 23, 24, 25, 26, 27, 28, 29, 30, 31, 32, 33, 34, 35, 36, 37, 38, 39, 40, 41, 42, 43, 44, 45, 46, 47, 48, 49, 50, 51, 52, 53, 54, 55, 56, 57, 58, 59, 60, 61, 62, 63, 64, 65, 66, 67, 68, 69, 70, 71, 72, 73, 74, 75, 76, 77, 78, 79, 80, 81, 82, 83, 84, 85, 86, 87, 88, 89, 90, 91, 92, 93, 94] (by decide +kernel) (by decide +kernel)
set_option maxRecDepth 20000 in
theorem gX12_meet_X12_farOf : GoodIn wsX12_meet (wsV RX12 421 RX12 yX12_farOf wsX12_farOf) := goodIn_app (goodIn_of _ (by decide +kernel)) ggX12_meet_X12_farOf
set_option maxRecDepth 20000 in
theorem ggX12_meet_X12_isIn : GoodIn wsX12_meet wsX12_isIn := goodIn_r _ [18] (by decide +kernel) (by decide +kernel)
set_option maxRecDepth 20000 in
theorem gX12_meet_X12_isIn : GoodIn wsX12_meet (va_wsS RX12 381 yX12_isIn wsX12_isIn) := goodIn_app (goodIn_of _ (by decide +kernel)) ggX12_meet_X12_isIn
set_option maxRecDepth 20000 in
theorem ggX12_meet_X12_places : GoodIn wsX12_meet wsX12_places := goodIn_r _ [13, 14, 15, 24, 25, 26, 27, 28, 29, 30, 31, 32, 33, 34, 35, 36, 37, 38, 39, 40, 41, 42, 43, 44, 45, 46, 47, 48, 49, 50, 51, 52, 53, 54, 55, 56, 57, 58, 59, 60, 61, 62, 63, 64, 65, 66, 67, 68, 69, 70, 71, 72, 73, 74, 75, 76, 77, 78, 79, 80, 81, 82, 83, 84, 85, 86, 87, 88, 89, 90, 91, 92, 93, 94] (by decide +kernel) (by decide +kernel)
set_option maxRecDepth 20000 in
theorem gX12_meet_X12_places : GoodIn wsX12_meet (wsV RX12 378 RX12 yX12_places wsX12_places) := goodIn_app (goodIn_of _ (by decide +kernel)) ggX12_meet_X12_places
set_option maxRecDepth 20000 in
theorem ggX12_farthest_X12_farOf : GoodIn wsX12_farthest wsX12_farOf := goodIn_r _ [11, 12, 13, 14, 15, 16, 17, 18, 19, 20, 21, 22, 23, 24, 25, 26, 27, 28, 29, 30, 31, 32, 33, 34, 35, 36, 37, 38, 39, 40, 41, 42, 43, 44, 45, 46, 47, 48, 49, 50, 51, 52, 53, 54, 55, 56, 57, 58, 59, 60, 61, 62, 63, 64, 65, 66, 67, 68, 69, 70, 71, 72, 73, 74, 75, 76, 77, 78, 79, 80, 81, 82, 83] (by decide +kernel) (by decide +kernel)
set_option maxRecDepth 20000 in
theorem gX12_farthest_X12_farOf : GoodIn wsX12_farthest (wsV RX12 421 RX12 yX12_farOf wsX12_farOf) := goodIn_app (goodIn_of _ (by decide +kernel)) ggX12_farthest_X12_farOf
set_option maxRecDepth 20000 in
theorem ggX12_farthest_X12_places : GoodIn wsX12_farthest wsX12_places := goodIn_r _ [5, 6, 7, 13, 14, 15, 16, 17, 18, 19, 20, 21, 22, 23, 24, 25, 26, 27, 28, 29, 30, 31, 32, 33, 34, 35, 36, 37, 38, 39, 40, 41, 42, 43, 44, 45, 46, 47, 48, 49, 50, 51, 52, 53, 54, 55, 56, 57, 58, 59, 60, 61, 62, 63, 64, 65, 66, 67, 68, 69, 70, 71, 72, 73, 74, 75, 76, 77, 78, 79, 80, 81, 82, 83] (by decide +kernel) (by decide +kernel)
set_option maxRecDepth 20000 in
theorem gX12_farthest_X12_places : GoodIn wsX12_farthest (wsV RX12 378 RX12 yX12_places wsX12_places) := goodIn_app (goodIn_of _ (by decide +kernel)) ggX12_farthest_X12_places
set_option maxRecDepth 20000 in
theorem ggX12_centre_X12_farthest : GoodIn wsX12_centre wsX12_farthest := goodIn_r _ [11, 1, 2, 3, 4, 5, 6, 7, 12, 13, 14, 15, 16, 17, 18, 19, 20, 21, 22, 23, 24, 25, 26, 27, 28, 29, 30, 31, 32, 33, 34, 35, 36, 37, 38, 39, 40, 41, 42, 43, 44, 45, 46, 47, 48, 49, 50, 51, 52, 53, 54, 55, 56, 57, 58, 59, 60, 61, 62, 63, 64, 65, 66, 67, 68, 69, 70, 71, 72, 73, 74, 75, 76, 77, 78, 79, 80, 81, 82, 83, 84, 85, 86, 87] (by decide +kernel) (by decide +kernel)
set_option maxRecDepth 20000 in
theorem gX12_centre_X12_farthest : GoodIn wsX12_centre (wsV RX12 484 RX12 yX12_farthest wsX12_farthest) := goodIn_app (goodIn_of _ (by decide +kernel)) ggX12_centre_X12_farthest
set_option maxRecDepth 20000 in
theorem ggX12_centre_X12_places : GoodIn wsX12_centre wsX12_places := goodIn_r _ [5, 6, 7, 17, 18, 19, 20, 21, 22, 23, 24, 25, 26, 27, 28, 29, 30, 31, 32, 33, 34, 35, 36, 37, 38, 39, 40, 41, 42, 43, 44, 45, 46, 47, 48, 49, 50, 51, 52, 53, 54, 55, 56, 57, 58, 59, 60, 61, 62, 63, 64, 65, 66, 67, 68, 69, 70, 71, 72, 73, 74, 75, 76, 77, 78, 79, 80, 81, 82, 83, 84, 85, 86, 87] (by decide +kernel) (by decide +kernel)
set_option maxRecDepth 20000 in
theorem gX12_centre_X12_places : GoodIn wsX12_centre (wsV RX12 378 RX12 yX12_places wsX12_places) := goodIn_app (goodIn_of _ (by decide +kernel)) ggX12_centre_X12_places
set_option maxRecDepth 20000 in
theorem ggX12_nooks_X12_behind : GoodIn wsX12_nooks wsX12_behind := goodIn_r _ [11, 12, 7, 13, 14, 15, 4, 16, 17, 18, 19, 20, 21, 22, 26, 27, 28, 29, 30, 31, 32, 33, 34, 35, 36, 37, 38, 39, 40, 41, 42, 43, 44, 45, 46, 47, 48, 49, 50, 51, 52, 53, 54, 55, 56, 57, 58, 59, 60, 61, 62, 63, 64, 65, 66, 67, 68, 69, 70, 71, 72, 73, 74, 75, 76, 77, 78, 79, 80, 81, 82, 83, 84, 85, 86, 87, 88, 89, 90, 91, 92, 93, 94, 95, 96] (by decide +kernel) (by decide +kernel)
set_option maxRecDepth 20000 in
theorem gX12_nooks_X12_behind : GoodIn wsX12_nooks (wsV RX12 400 RX12 yX12_behind wsX12_behind) := goodIn_app (goodIn_of _ (by decide +kernel)) ggX12_nooks_X12_behind
set_option maxRecDepth 20000 in
theorem ggX12_nooks_X12_bitsOf : GoodIn wsX12_nooks wsX12_bitsOf := goodIn_r _ [25] (by decide +kernel) (by decide +kernel)
set_option maxRecDepth 20000 in
theorem gX12_nooks_X12_bitsOf : GoodIn wsX12_nooks (va_wsS RX12 469 yX12_bitsOf wsX12_bitsOf) := goodIn_app (goodIn_of _ (by decide +kernel)) ggX12_nooks_X12_bitsOf
set_option maxRecDepth 20000 in
theorem ggX12_nooks_X12_places : GoodIn wsX12_nooks wsX12_places := goodIn_r _ [5, 6, 7, 26, 27, 28, 29, 30, 31, 32, 33, 34, 35, 36, 37, 38, 39, 40, 41, 42, 43, 44, 45, 46, 47, 48, 49, 50, 51, 52, 53, 54, 55, 56, 57, 58, 59, 60, 61, 62, 63, 64, 65, 66, 67, 68, 69, 70, 71, 72, 73, 74, 75, 76, 77, 78, 79, 80, 81, 82, 83, 84, 85, 86, 87, 88, 89, 90, 91, 92, 93, 94, 95, 96] (by decide +kernel) (by decide +kernel)
set_option maxRecDepth 20000 in
theorem gX12_nooks_X12_places : GoodIn wsX12_nooks (wsV RX12 378 RX12 yX12_places wsX12_places) := goodIn_app (goodIn_of _ (by decide +kernel)) ggX12_nooks_X12_places
set_option maxRecDepth 20000 in
theorem ggX12_echo_X12_creakOf : GoodIn wsX12_echo wsX12_creakOf := goodIn_r _ [23, 24, 11, 25, 26, 27, 28, 29, 30, 31, 32, 33, 34, 35, 36, 37, 38, 39, 40, 41, 42, 43, 44, 45, 46, 47, 48, 49, 50, 51, 52, 53, 54, 55, 56, 57, 58, 59, 60, 61, 62, 63, 64, 65, 66, 67, 68, 69, 70, 71, 72, 73, 74, 75, 76, 77, 78, 79, 80, 81, 82, 83, 84, 85, 86, 87, 88, 89, 90, 91, 92, 93, 94, 95] (by decide +kernel) (by decide +kernel)
set_option maxRecDepth 20000 in
theorem gX12_echo_X12_creakOf : GoodIn wsX12_echo (wsV RX12 430 RX12 yX12_creakOf wsX12_creakOf) := goodIn_app (goodIn_of _ (by decide +kernel)) ggX12_echo_X12_creakOf
set_option maxRecDepth 20000 in
theorem ggX12_echo_X12_farOf : GoodIn wsX12_echo wsX12_farOf := goodIn_r _ [18, 19, 25, 26, 27, 28, 29, 30, 31, 32, 33, 34, 35, 36, 37, 38, 39, 40, 41, 42, 43, 44, 45, 46, 47, 48, 49, 50, 51, 52, 53, 54, 55, 56, 57, 58, 59, 60, 61, 62, 63, 64, 65, 66, 67, 68, 69, 70, 71, 72, 73, 74, 75, 76, 77, 78, 79, 80, 81, 82, 83, 84, 85, 86, 87, 88, 89, 90, 91, 92, 93, 94, 95] (by decide +kernel) (by decide +kernel)
set_option maxRecDepth 20000 in
theorem gX12_echo_X12_farOf : GoodIn wsX12_echo (wsV RX12 421 RX12 yX12_farOf wsX12_farOf) := goodIn_app (goodIn_of _ (by decide +kernel)) ggX12_echo_X12_farOf
set_option maxRecDepth 20000 in
theorem ggX12_echo_X12_isIn : GoodIn wsX12_echo wsX12_isIn := goodIn_r _ [14] (by decide +kernel) (by decide +kernel)
set_option maxRecDepth 20000 in
theorem gX12_echo_X12_isIn : GoodIn wsX12_echo (va_wsS RX12 381 yX12_isIn wsX12_isIn) := goodIn_app (goodIn_of _ (by decide +kernel)) ggX12_echo_X12_isIn
set_option maxRecDepth 20000 in
theorem ggX12_echo_X12_isRoom : GoodIn wsX12_echo wsX12_isRoom := goodIn_r _ [5, 6, 7, 8, 4, 9, 10, 11, 12, 13, 14, 25, 26, 27, 28, 29, 30, 31, 32, 33, 34, 35, 36, 37, 38, 39, 40, 41, 42, 43, 44, 45, 46, 47, 48, 49, 50, 51, 52, 53, 54, 55, 56, 57, 58, 59, 60, 61, 62, 63, 64, 65, 66, 67, 68, 69, 70, 71, 72, 73, 74, 75, 76, 77, 78, 79, 80, 81, 82, 83, 84, 85, 86, 87, 88, 89, 90, 91, 92, 93, 94, 95] (by decide +kernel) (by decide +kernel)
set_option maxRecDepth 20000 in
theorem gX12_echo_X12_isRoom : GoodIn wsX12_echo (wsV RX12 385 RX12 yX12_isRoom wsX12_isRoom) := goodIn_app (goodIn_of _ (by decide +kernel)) ggX12_echo_X12_isRoom
set_option maxRecDepth 20000 in
theorem ggX12_echo_X12_places : GoodIn wsX12_echo wsX12_places := goodIn_r _ [9, 10, 11, 25, 26, 27, 28, 29, 30, 31, 32, 33, 34, 35, 36, 37, 38, 39, 40, 41, 42, 43, 44, 45, 46, 47, 48, 49, 50, 51, 52, 53, 54, 55, 56, 57, 58, 59, 60, 61, 62, 63, 64, 65, 66, 67, 68, 69, 70, 71, 72, 73, 74, 75, 76, 77, 78, 79, 80, 81, 82, 83, 84, 85, 86, 87, 88, 89, 90, 91, 92, 93, 94, 95] (by decide +kernel) (by decide +kernel)
set_option maxRecDepth 20000 in
theorem gX12_echo_X12_places : GoodIn wsX12_echo (wsV RX12 378 RX12 yX12_places wsX12_places) := goodIn_app (goodIn_of _ (by decide +kernel)) ggX12_echo_X12_places
set_option maxRecDepth 20000 in
theorem ggX12_mend_X12_farOf : GoodIn wsX12_mend wsX12_farOf := goodIn_r _ [15, 16, 17, 18, 19, 20, 21, 22, 23, 24, 25, 26, 27, 28, 29, 30, 31, 32, 33, 34, 35, 36, 37, 38, 39, 40, 41, 42, 43, 44, 45, 46, 47, 48, 49, 50, 51, 52, 53, 54, 55, 56, 57, 58, 59, 60, 61, 62, 63, 64, 65, 66, 67, 68, 69, 70, 71, 72, 73, 74, 75, 76, 77, 78, 79, 80, 81, 82, 83, 84, 85, 86, 87] (by decide +kernel) (by decide +kernel)
set_option maxRecDepth 20000 in
theorem gX12_mend_X12_farOf : GoodIn wsX12_mend (wsV RX12 421 RX12 yX12_farOf wsX12_farOf) := goodIn_app (goodIn_of _ (by decide +kernel)) ggX12_mend_X12_farOf
set_option maxRecDepth 20000 in
theorem ggX12_mend_X12_isIn : GoodIn wsX12_mend wsX12_isIn := goodIn_r _ [5] (by decide +kernel) (by decide +kernel)
set_option maxRecDepth 20000 in
theorem gX12_mend_X12_isIn : GoodIn wsX12_mend (va_wsS RX12 381 yX12_isIn wsX12_isIn) := goodIn_app (goodIn_of _ (by decide +kernel)) ggX12_mend_X12_isIn
set_option maxRecDepth 20000 in
theorem ggX12_mend_X12_many : GoodIn wsX12_mend wsX12_many := goodIn_r _ [9, 10, 11, 17, 18, 19, 20, 21, 22, 23, 24, 25, 26, 27, 28, 29, 30, 31, 32, 33, 34, 35, 36, 37, 38, 39, 40, 41, 42, 43, 44, 45, 46, 47, 48, 49, 50, 51, 52, 53, 54, 55, 56, 57, 58, 59, 60, 61, 62, 63, 64, 65, 66, 67, 68, 69, 70, 71, 72, 73, 74, 75, 76, 77, 78, 79, 80, 81, 82, 83, 84, 85, 86, 87] (by decide +kernel) (by decide +kernel)
set_option maxRecDepth 20000 in
theorem gX12_mend_X12_many : GoodIn wsX12_mend (wsV RX12 388 RX12 yX12_many wsX12_many) := goodIn_app (goodIn_of _ (by decide +kernel)) ggX12_mend_X12_many
set_option maxRecDepth 20000 in
theorem ggX12_regret_X12_many : GoodIn wsX12_regret wsX12_many := goodIn_r _ [6, 7, 8, 15, 16, 17, 18, 19, 20, 21, 22, 23, 24, 25, 26, 27, 28, 29, 30, 31, 32, 33, 34, 35, 36, 37, 38, 39, 40, 41, 42, 43, 44, 45, 46, 47, 48, 49, 50, 51, 52, 53, 54, 55, 56, 57, 58, 59, 60, 61, 62, 63, 64, 65, 66, 67, 68, 69, 70, 71, 72, 73, 74, 75, 76, 77, 78, 79, 80, 81, 82, 83, 84, 85] (by decide +kernel) (by decide +kernel)
set_option maxRecDepth 20000 in
theorem gX12_regret_X12_many : GoodIn wsX12_regret (wsV RX12 388 RX12 yX12_many wsX12_many) := goodIn_app (goodIn_of _ (by decide +kernel)) ggX12_regret_X12_many
set_option maxRecDepth 20000 in
theorem ggX12_regret_X12_worthOf : GoodIn wsX12_regret wsX12_worthOf := goodIn_r _ [12, 13, 8, 14, 15, 16, 17, 18, 19, 20, 21, 22, 23, 24, 25, 26, 27, 28, 29, 30, 31, 32, 33, 34, 35, 36, 37, 38, 39, 40, 41, 42, 43, 44, 45, 46, 47, 48, 49, 50, 51, 52, 53, 54, 55, 56, 57, 58, 59, 60, 61, 62, 63, 64, 65, 66, 67, 68, 69, 70, 71, 72, 73, 74, 75, 76, 77, 78, 79, 80, 81, 82, 83, 84, 85] (by decide +kernel) (by decide +kernel)
set_option maxRecDepth 20000 in
theorem gX12_regret_X12_worthOf : GoodIn wsX12_regret (wsV RX12 487 RX12 yX12_worthOf wsX12_worthOf) := goodIn_app (goodIn_of _ (by decide +kernel)) ggX12_regret_X12_worthOf
set_option maxRecDepth 20000 in
theorem ggX12_gainOf_X12_worthOf : GoodIn wsX12_gainOf wsX12_worthOf := goodIn_r _ [6, 7, 8, 9, 10, 11, 12, 13, 14, 15, 16, 17, 18, 19, 20, 21, 22, 23, 24, 25, 26, 27, 28, 29, 30, 31, 32, 33, 34, 35, 36, 37, 38, 39, 40, 41, 42, 43, 44, 45, 46, 47, 48, 49, 50, 51, 52, 53, 54, 55, 56, 57, 58, 59, 60, 61, 62, 63, 64, 65, 66, 67, 68, 69, 70, 71, 72, 73, 74, 75, 76, 77, 78, 79, 80] (by decide +kernel) (by decide +kernel)
set_option maxRecDepth 20000 in
theorem gX12_gainOf_X12_worthOf : GoodIn wsX12_gainOf (wsV RX12 487 RX12 yX12_worthOf wsX12_worthOf) := goodIn_app (goodIn_of _ (by decide +kernel)) ggX12_gainOf_X12_worthOf
set_option maxRecDepth 20000 in
theorem ggX12_trade_X12_gainOf : GoodIn wsX12_trade wsX12_gainOf := goodIn_r _ [14, 15, 16, 17, 18, 3, 19, 20, 10, 21, 22, 23, 24, 25, 26, 27, 28, 29, 30, 31, 32, 33, 34, 35, 36, 37, 38, 39, 40, 41, 42, 43, 44, 45, 46, 47, 48, 49, 50, 51, 52, 53, 54, 55, 56, 57, 58, 59, 60, 61, 62, 63, 64, 65, 66, 67, 68, 69, 70, 71, 72, 73, 74, 75, 76, 77, 78, 79, 80, 81, 82, 83, 84, 85, 86, 87, 88, 89, 90, 91, 92] (by decide +kernel) (by decide +kernel)
set_option maxRecDepth 20000 in
theorem gX12_trade_X12_gainOf : GoodIn wsX12_trade (wsV RX12 490 RX12 yX12_gainOf wsX12_gainOf) := goodIn_app (goodIn_of _ (by decide +kernel)) ggX12_trade_X12_gainOf
set_option maxRecDepth 20000 in
theorem ggX12_trade_X12_isIn : GoodIn wsX12_trade wsX12_isIn := goodIn_r _ [4] (by decide +kernel) (by decide +kernel)
set_option maxRecDepth 20000 in
theorem gX12_trade_X12_isIn : GoodIn wsX12_trade (va_wsS RX12 381 yX12_isIn wsX12_isIn) := goodIn_app (goodIn_of _ (by decide +kernel)) ggX12_trade_X12_isIn
set_option maxRecDepth 20000 in
theorem ggX12_trade_X12_many : GoodIn wsX12_trade wsX12_many := goodIn_r _ [8, 9, 10, 22, 23, 24, 25, 26, 27, 28, 29, 30, 31, 32, 33, 34, 35, 36, 37, 38, 39, 40, 41, 42, 43, 44, 45, 46, 47, 48, 49, 50, 51, 52, 53, 54, 55, 56, 57, 58, 59, 60, 61, 62, 63, 64, 65, 66, 67, 68, 69, 70, 71, 72, 73, 74, 75, 76, 77, 78, 79, 80, 81, 82, 83, 84, 85, 86, 87, 88, 89, 90, 91, 92] (by decide +kernel) (by decide +kernel)
set_option maxRecDepth 20000 in
theorem gX12_trade_X12_many : GoodIn wsX12_trade (wsV RX12 388 RX12 yX12_many wsX12_many) := goodIn_app (goodIn_of _ (by decide +kernel)) ggX12_trade_X12_many
theorem iw_X12_ways_X12 : ∀ w ∈ wsX120, w ∈ wsX12_ways := fun _ h => List.mem_cons_of_mem _ (List.mem_append_right _ h)
theorem iw_X12_parts_X12 : ∀ w ∈ wsX120, w ∈ wsX12_parts := fun _ h => List.mem_cons_of_mem _ (List.mem_append_right _ h)
theorem iw_X12_layHunts_X12 : ∀ w ∈ wsX120, w ∈ wsX12_layHunts := fun _ h => List.mem_cons_of_mem _ (List.mem_append_right _ h)
theorem iw_X12_hunt_X12 : ∀ w ∈ wsX120, w ∈ wsX12_hunt := fun _ h => List.mem_cons_of_mem _ (List.mem_append_right _ h)
theorem iw_X12_first_X12 : ∀ w ∈ wsX120, w ∈ wsX12_first := fun _ h => List.mem_cons_of_mem _ (List.mem_append_right _ h)
theorem iw_X12_mend_X12 : ∀ w ∈ wsX120, w ∈ wsX12_mend := fun _ h => List.mem_cons_of_mem _ (List.mem_append_right _ h)
theorem iw_X12_worthOf_X12 : ∀ w ∈ wsX120, w ∈ wsX12_worthOf := fun _ h => List.mem_cons_of_mem _ (List.mem_append_right _ h)
theorem iw_X12_regret_X12 : ∀ w ∈ wsX120, w ∈ wsX12_regret := fun _ h => List.mem_cons_of_mem _ (List.mem_append_right _ h)
theorem iw_X12_gainOf_X12 : ∀ w ∈ wsX120, w ∈ wsX12_gainOf := fun _ h => List.mem_cons_of_mem _ (List.mem_append_right _ h)
