def wsX12_layGoal : List Cond := .code yX12_layGoal cX12_layGoal 7 none :: ([.fieldLink RX12 107 "SoldHouseModel" "toGoal" "[I", .fieldLink RX12 24 "SoldHouseModel" "doors" "[I", .fieldLink RX12 280 "SoldHouseModel" "bank" "I", .fieldLink RX12 110 "SoldHouseModel" "weight" "[I", .methodLink RX12 391 yX12_oneOf, .instanceMethod yX12_oneOf, .selects RX12 yX12_oneOf yX12_oneOf, .initialized RX12, .code yX12_oneOf cX12_oneOf 2 (some .int), .fieldLink RX12 39 "SoldHouseModel" "one" "[I", .methodLink RX12 394 yX12_otherOf, .instanceMethod yX12_otherOf, .selects RX12 yX12_otherOf yX12_otherOf, .code yX12_otherOf cX12_otherOf 2 (some .int), .fieldLink RX12 42 "SoldHouseModel" "other" "[I", .methodLink RX12 397 yX12_has, .static yX12_has, .code yX12_has cX12_has 2 (some .boolean)] ++ wsX120)
def wsX12_weighAlike : List Cond := .code yX12_weighAlike cX12_weighAlike 2 none :: ([.fieldLink RX12 110 "SoldHouseModel" "weight" "[I"] ++ wsX120)
def wsX12_showWay_r1 : List Cond := [Cond.fieldLink RX12 418 "SoldHouseModel" "laid" "I", Cond.fieldLink RX12 107 "SoldHouseModel" "toGoal" "[I", Cond.fieldLink RX12 113 "SoldHouseModel" "laidRow" "[I", Cond.fieldLink RX12 110 "SoldHouseModel" "weight" "[I", Cond.methodLink RX12 460 yX12_layGoal, Cond.instanceMethod yX12_layGoal, Cond.selects RX12 yX12_layGoal yX12_layGoal, Cond.initialized RX12, Cond.code yX12_layGoal cX12_layGoal 7 none, Cond.fieldLink RX12 24 "SoldHouseModel" "doors" "[I", Cond.fieldLink RX12 280 "SoldHouseModel" "bank" "I", Cond.methodLink RX12 391 yX12_oneOf, Cond.instanceMethod yX12_oneOf, Cond.selects RX12 yX12_oneOf yX12_oneOf, Cond.code yX12_oneOf cX12_oneOf 2 (some .int), Cond.fieldLink RX12 39 "SoldHouseModel" "one" "[I", Cond.methodLink RX12 394 yX12_otherOf, Cond.instanceMethod yX12_otherOf, Cond.selects RX12 yX12_otherOf yX12_otherOf, Cond.code yX12_otherOf cX12_otherOf 2 (some .int), Cond.fieldLink RX12 42 "SoldHouseModel" "other" "[I", Cond.methodLink RX12 397 yX12_has, Cond.static yX12_has, Cond.code yX12_has cX12_has 2 (some .boolean)]
def wsX12_showWay_r2 : List Cond := [Cond.methodLink RX12 400 yX12_behind, Cond.instanceMethod yX12_behind, Cond.selects RX12 yX12_behind yX12_behind, Cond.code yX12_behind cX12_behind 5 (some .int)]
def wsX12_showWay : List Cond := .code yX12_showWay cX12_showWay 5 (some .int) :: ((wsX12_showWay_r1 ++ wsX12_showWay_r2) ++ wsX120)
def wsX12_way_r1 : List Cond := [Cond.fieldLink RX12 418 "SoldHouseModel" "laid" "I", Cond.methodLink RX12 445 yX12_areRooms, Cond.instanceMethod yX12_areRooms, Cond.selects RX12 yX12_areRooms yX12_areRooms, Cond.initialized RX12, Cond.code yX12_areRooms cX12_areRooms 3 (some .boolean), Cond.methodLink RX12 385 yX12_isRoom, Cond.instanceMethod yX12_isRoom, Cond.selects RX12 yX12_isRoom yX12_isRoom, Cond.code yX12_isRoom cX12_isRoom 2 (some .boolean), Cond.methodLink RX12 378 yX12_places, Cond.instanceMethod yX12_places, Cond.selects RX12 yX12_places yX12_places, Cond.code yX12_places cX12_places 1 (some .int), Cond.fieldLink RX12 20 "SoldHouseModel" "rooms" "[I", Cond.fieldLink RX12 280 "SoldHouseModel" "bank" "I", Cond.methodLink RX12 381 yX12_isIn, Cond.static yX12_isIn, Cond.code yX12_isIn cX12_isIn 3 (some .boolean), Cond.methodLink RX12 463 yX12_weighAlike, Cond.instanceMethod yX12_weighAlike, Cond.selects RX12 yX12_weighAlike yX12_weighAlike, Cond.code yX12_weighAlike cX12_weighAlike 2 none, Cond.fieldLink RX12 110 "SoldHouseModel" "weight" "[I"]
def wsX12_way_r2 : List Cond := [Cond.methodLink RX12 466 yX12_showWay, Cond.instanceMethod yX12_showWay, Cond.selects RX12 yX12_showWay yX12_showWay, Cond.code yX12_showWay cX12_showWay 5 (some .int), Cond.fieldLink RX12 107 "SoldHouseModel" "toGoal" "[I", Cond.fieldLink RX12 113 "SoldHouseModel" "laidRow" "[I", Cond.methodLink RX12 460 yX12_layGoal, Cond.instanceMethod yX12_layGoal, Cond.selects RX12 yX12_layGoal yX12_layGoal, Cond.code yX12_layGoal cX12_layGoal 7 none, Cond.fieldLink RX12 24 "SoldHouseModel" "doors" "[I", Cond.methodLink RX12 391 yX12_oneOf, Cond.instanceMethod yX12_oneOf, Cond.selects RX12 yX12_oneOf yX12_oneOf, Cond.code yX12_oneOf cX12_oneOf 2 (some .int), Cond.fieldLink RX12 39 "SoldHouseModel" "one" "[I", Cond.methodLink RX12 394 yX12_otherOf, Cond.instanceMethod yX12_otherOf, Cond.selects RX12 yX12_otherOf yX12_otherOf, Cond.code yX12_otherOf cX12_otherOf 2 (some .int), Cond.fieldLink RX12 42 "SoldHouseModel" "other" "[I", Cond.methodLink RX12 397 yX12_has, Cond.static yX12_has, Cond.code yX12_has cX12_has 2 (some .boolean)]
def wsX12_way_r3 : List Cond := [Cond.methodLink RX12 400 yX12_behind, Cond.instanceMethod yX12_behind, Cond.selects RX12 yX12_behind yX12_behind, Cond.code yX12_behind cX12_behind 5 (some .int)]
def wsX12_way : List Cond := .code yX12_way cX12_way 3 (some .int) :: ((wsX12_way_r1 ++ (wsX12_way_r2 ++ wsX12_way_r3)) ++ wsX120)
def wsX12_quiet_r1 : List Cond := [Cond.fieldLink RX12 418 "SoldHouseModel" "laid" "I", Cond.fieldLink RX12 110 "SoldHouseModel" "weight" "[I", Cond.methodLink RX12 445 yX12_areRooms, Cond.instanceMethod yX12_areRooms, Cond.selects RX12 yX12_areRooms yX12_areRooms, Cond.initialized RX12, Cond.code yX12_areRooms cX12_areRooms 3 (some .boolean), Cond.methodLink RX12 385 yX12_isRoom, Cond.instanceMethod yX12_isRoom, Cond.selects RX12 yX12_isRoom yX12_isRoom, Cond.code yX12_isRoom cX12_isRoom 2 (some .boolean), Cond.methodLink RX12 378 yX12_places, Cond.instanceMethod yX12_places, Cond.selects RX12 yX12_places yX12_places, Cond.code yX12_places cX12_places 1 (some .int), Cond.fieldLink RX12 20 "SoldHouseModel" "rooms" "[I", Cond.fieldLink RX12 280 "SoldHouseModel" "bank" "I", Cond.methodLink RX12 381 yX12_isIn, Cond.static yX12_isIn, Cond.code yX12_isIn cX12_isIn 3 (some .boolean), Cond.methodLink RX12 430 yX12_creakOf, Cond.instanceMethod yX12_creakOf, Cond.selects RX12 yX12_creakOf yX12_creakOf, Cond.code yX12_creakOf cX12_creakOf 2 (some .int)]
def wsX12_quiet_r2 : List Cond := [Cond.fieldLink RX12 36 "SoldHouseModel" "creaks" "[I", Cond.methodLink RX12 466 yX12_showWay, Cond.instanceMethod yX12_showWay, Cond.selects RX12 yX12_showWay yX12_showWay, Cond.code yX12_showWay cX12_showWay 5 (some .int), Cond.fieldLink RX12 107 "SoldHouseModel" "toGoal" "[I", Cond.fieldLink RX12 113 "SoldHouseModel" "laidRow" "[I", Cond.methodLink RX12 460 yX12_layGoal, Cond.instanceMethod yX12_layGoal, Cond.selects RX12 yX12_layGoal yX12_layGoal, Cond.code yX12_layGoal cX12_layGoal 7 none, Cond.fieldLink RX12 24 "SoldHouseModel" "doors" "[I", Cond.methodLink RX12 391 yX12_oneOf, Cond.instanceMethod yX12_oneOf, Cond.selects RX12 yX12_oneOf yX12_oneOf, Cond.code yX12_oneOf cX12_oneOf 2 (some .int), Cond.fieldLink RX12 39 "SoldHouseModel" "one" "[I", Cond.methodLink RX12 394 yX12_otherOf, Cond.instanceMethod yX12_otherOf, Cond.selects RX12 yX12_otherOf yX12_otherOf, Cond.code yX12_otherOf cX12_otherOf 2 (some .int), Cond.fieldLink RX12 42 "SoldHouseModel" "other" "[I", Cond.methodLink RX12 397 yX12_has, Cond.static yX12_has]
def wsX12_quiet_r3 : List Cond := [Cond.code yX12_has cX12_has 2 (some .boolean), Cond.methodLink RX12 400 yX12_behind, Cond.instanceMethod yX12_behind, Cond.selects RX12 yX12_behind yX12_behind, Cond.code yX12_behind cX12_behind 5 (some .int)]
def wsX12_quiet : List Cond := .code yX12_quiet cX12_quiet 4 (some .int) :: ((wsX12_quiet_r1 ++ (wsX12_quiet_r2 ++ wsX12_quiet_r3)) ++ wsX120)
def wsX12_ways_r1 : List Cond := [Cond.fieldLink RX12 116 "SoldHouseModel" "waysTo" "[I", Cond.methodLink RX12 445 yX12_areRooms, Cond.instanceMethod yX12_areRooms, Cond.selects RX12 yX12_areRooms yX12_areRooms, Cond.initialized RX12, Cond.code yX12_areRooms cX12_areRooms 3 (some .boolean), Cond.methodLink RX12 385 yX12_isRoom, Cond.instanceMethod yX12_isRoom, Cond.selects RX12 yX12_isRoom yX12_isRoom, Cond.code yX12_isRoom cX12_isRoom 2 (some .boolean), Cond.methodLink RX12 378 yX12_places, Cond.instanceMethod yX12_places, Cond.selects RX12 yX12_places yX12_places, Cond.code yX12_places cX12_places 1 (some .int), Cond.fieldLink RX12 20 "SoldHouseModel" "rooms" "[I", Cond.fieldLink RX12 280 "SoldHouseModel" "bank" "I", Cond.methodLink RX12 381 yX12_isIn, Cond.static yX12_isIn, Cond.code yX12_isIn cX12_isIn 3 (some .boolean), Cond.methodLink RX12 421 yX12_farOf, Cond.instanceMethod yX12_farOf, Cond.selects RX12 yX12_farOf yX12_farOf, Cond.code yX12_farOf cX12_farOf 3 (some .int), Cond.fieldLink RX12 98 "SoldHouseModel" "table" "[I"]
def wsX12_ways_r2 : List Cond := [Cond.methodLink RX12 400 yX12_behind, Cond.instanceMethod yX12_behind, Cond.selects RX12 yX12_behind yX12_behind, Cond.code yX12_behind cX12_behind 5 (some .int), Cond.fieldLink RX12 24 "SoldHouseModel" "doors" "[I", Cond.methodLink RX12 391 yX12_oneOf, Cond.instanceMethod yX12_oneOf, Cond.selects RX12 yX12_oneOf yX12_oneOf, Cond.code yX12_oneOf cX12_oneOf 2 (some .int), Cond.fieldLink RX12 39 "SoldHouseModel" "one" "[I", Cond.methodLink RX12 394 yX12_otherOf, Cond.instanceMethod yX12_otherOf, Cond.selects RX12 yX12_otherOf yX12_otherOf, Cond.code yX12_otherOf cX12_otherOf 2 (some .int), Cond.fieldLink RX12 42 "SoldHouseModel" "other" "[I", Cond.methodLink RX12 397 yX12_has, Cond.static yX12_has, Cond.code yX12_has cX12_has 2 (some .boolean)]
def wsX12_ways : List Cond := .code yX12_ways cX12_ways 6 (some .int) :: ((wsX12_ways_r1 ++ wsX12_ways_r2) ++ wsX120)
def wsX12_pieces_r1 : List Cond := [Cond.methodLink RX12 378 yX12_places, Cond.instanceMethod yX12_places, Cond.selects RX12 yX12_places yX12_places, Cond.initialized RX12, Cond.code yX12_places cX12_places 1 (some .int), Cond.fieldLink RX12 20 "SoldHouseModel" "rooms" "[I", Cond.fieldLink RX12 280 "SoldHouseModel" "bank" "I", Cond.methodLink RX12 397 yX12_has, Cond.static yX12_has, Cond.code yX12_has cX12_has 2 (some .boolean), Cond.methodLink RX12 403 yX12_joined, Cond.instanceMethod yX12_joined, Cond.selects RX12 yX12_joined yX12_joined, Cond.code yX12_joined cX12_joined 7 (some .int), Cond.methodLink RX12 400 yX12_behind, Cond.instanceMethod yX12_behind, Cond.selects RX12 yX12_behind yX12_behind, Cond.code yX12_behind cX12_behind 5 (some .int), Cond.fieldLink RX12 24 "SoldHouseModel" "doors" "[I", Cond.methodLink RX12 391 yX12_oneOf, Cond.instanceMethod yX12_oneOf, Cond.selects RX12 yX12_oneOf yX12_oneOf, Cond.code yX12_oneOf cX12_oneOf 2 (some .int), Cond.fieldLink RX12 39 "SoldHouseModel" "one" "[I"]
def wsX12_pieces_r2 : List Cond := [Cond.methodLink RX12 394 yX12_otherOf, Cond.instanceMethod yX12_otherOf, Cond.selects RX12 yX12_otherOf yX12_otherOf, Cond.code yX12_otherOf cX12_otherOf 2 (some .int), Cond.fieldLink RX12 42 "SoldHouseModel" "other" "[I"]
def wsX12_pieces : List Cond := .code yX12_pieces cX12_pieces 4 (some .int) :: ((wsX12_pieces_r1 ++ wsX12_pieces_r2) ++ wsX120)
def wsX12_parts : List Cond := .code yX12_parts cX12_parts 3 (some .int) :: ([.fieldLink RX12 24 "SoldHouseModel" "doors" "[I", .fieldLink RX12 280 "SoldHouseModel" "bank" "I", .methodLink RX12 442 yX12_doesPart, .instanceMethod yX12_doesPart, .selects RX12 yX12_doesPart yX12_doesPart, .initialized RX12, .code yX12_doesPart cX12_doesPart 2 (some .boolean), .fieldLink RX12 101 "SoldHouseModel" "nearSide" "[I", .methodLink RX12 394 yX12_otherOf, .instanceMethod yX12_otherOf, .selects RX12 yX12_otherOf yX12_otherOf, .code yX12_otherOf cX12_otherOf 2 (some .int), .fieldLink RX12 42 "SoldHouseModel" "other" "[I", .methodLink RX12 397 yX12_has, .static yX12_has, .code yX12_has cX12_has 2 (some .boolean)] ++ wsX120)
def wsX12_layHunts_r1 : List Cond := [Cond.fieldLink RX12 122 "SoldHouseModel" "hunts" "[I", Cond.fieldLink RX12 125 "SoldHouseModel" "firsts" "[I", Cond.fieldLink RX12 24 "SoldHouseModel" "doors" "[I", Cond.fieldLink RX12 280 "SoldHouseModel" "bank" "I", Cond.fieldLink RX12 101 "SoldHouseModel" "nearSide" "[I", Cond.methodLink RX12 378 yX12_places, Cond.instanceMethod yX12_places, Cond.selects RX12 yX12_places yX12_places, Cond.initialized RX12, Cond.code yX12_places cX12_places 1 (some .int), Cond.fieldLink RX12 20 "SoldHouseModel" "rooms" "[I", Cond.methodLink RX12 469 yX12_bitsOf, Cond.static yX12_bitsOf, Cond.code yX12_bitsOf cX12_bitsOf 3 (some .int), Cond.methodLink RX12 442 yX12_doesPart, Cond.instanceMethod yX12_doesPart, Cond.selects RX12 yX12_doesPart yX12_doesPart, Cond.code yX12_doesPart cX12_doesPart 2 (some .boolean), Cond.methodLink RX12 394 yX12_otherOf, Cond.instanceMethod yX12_otherOf, Cond.selects RX12 yX12_otherOf yX12_otherOf, Cond.code yX12_otherOf cX12_otherOf 2 (some .int), Cond.fieldLink RX12 42 "SoldHouseModel" "other" "[I", Cond.methodLink RX12 397 yX12_has]
def wsX12_layHunts_r2 : List Cond := [Cond.static yX12_has, Cond.code yX12_has cX12_has 2 (some .boolean)]
def wsX12_layHunts : List Cond := .code yX12_layHunts cX12_layHunts 5 none :: ((wsX12_layHunts_r1 ++ wsX12_layHunts_r2) ++ wsX120)
def wsX12_hunt_r1 : List Cond := [Cond.fieldLink RX12 122 "SoldHouseModel" "hunts" "[I", Cond.methodLink RX12 472 yX12_isSet, Cond.instanceMethod yX12_isSet, Cond.selects RX12 yX12_isSet yX12_isSet, Cond.initialized RX12, Cond.code yX12_isSet cX12_isSet 2 (some .boolean), Cond.methodLink RX12 378 yX12_places, Cond.instanceMethod yX12_places, Cond.selects RX12 yX12_places yX12_places, Cond.code yX12_places cX12_places 1 (some .int), Cond.fieldLink RX12 20 "SoldHouseModel" "rooms" "[I", Cond.fieldLink RX12 280 "SoldHouseModel" "bank" "I", Cond.methodLink RX12 381 yX12_isIn, Cond.static yX12_isIn, Cond.code yX12_isIn cX12_isIn 3 (some .boolean), Cond.methodLink RX12 475 yX12_layHunts, Cond.instanceMethod yX12_layHunts, Cond.selects RX12 yX12_layHunts yX12_layHunts, Cond.code yX12_layHunts cX12_layHunts 5 none, Cond.fieldLink RX12 125 "SoldHouseModel" "firsts" "[I", Cond.fieldLink RX12 24 "SoldHouseModel" "doors" "[I", Cond.fieldLink RX12 101 "SoldHouseModel" "nearSide" "[I", Cond.methodLink RX12 469 yX12_bitsOf, Cond.static yX12_bitsOf]
def wsX12_hunt_r2 : List Cond := [Cond.code yX12_bitsOf cX12_bitsOf 3 (some .int), Cond.methodLink RX12 442 yX12_doesPart, Cond.instanceMethod yX12_doesPart, Cond.selects RX12 yX12_doesPart yX12_doesPart, Cond.code yX12_doesPart cX12_doesPart 2 (some .boolean), Cond.methodLink RX12 394 yX12_otherOf, Cond.instanceMethod yX12_otherOf, Cond.selects RX12 yX12_otherOf yX12_otherOf, Cond.code yX12_otherOf cX12_otherOf 2 (some .int), Cond.fieldLink RX12 42 "SoldHouseModel" "other" "[I", Cond.methodLink RX12 397 yX12_has, Cond.static yX12_has, Cond.code yX12_has cX12_has 2 (some .boolean)]
def wsX12_hunt : List Cond := .code yX12_hunt cX12_hunt 2 (some .int) :: ((wsX12_hunt_r1 ++ wsX12_hunt_r2) ++ wsX120)
def wsX12_first_r1 : List Cond := [Cond.fieldLink RX12 122 "SoldHouseModel" "hunts" "[I", Cond.fieldLink RX12 125 "SoldHouseModel" "firsts" "[I", Cond.methodLink RX12 472 yX12_isSet, Cond.instanceMethod yX12_isSet, Cond.selects RX12 yX12_isSet yX12_isSet, Cond.initialized RX12, Cond.code yX12_isSet cX12_isSet 2 (some .boolean), Cond.methodLink RX12 378 yX12_places, Cond.instanceMethod yX12_places, Cond.selects RX12 yX12_places yX12_places, Cond.code yX12_places cX12_places 1 (some .int), Cond.fieldLink RX12 20 "SoldHouseModel" "rooms" "[I", Cond.fieldLink RX12 280 "SoldHouseModel" "bank" "I", Cond.methodLink RX12 381 yX12_isIn, Cond.static yX12_isIn, Cond.code yX12_isIn cX12_isIn 3 (some .boolean), Cond.methodLink RX12 475 yX12_layHunts, Cond.instanceMethod yX12_layHunts, Cond.selects RX12 yX12_layHunts yX12_layHunts, Cond.code yX12_layHunts cX12_layHunts 5 none, Cond.fieldLink RX12 24 "SoldHouseModel" "doors" "[I", Cond.fieldLink RX12 101 "SoldHouseModel" "nearSide" "[I", Cond.methodLink RX12 469 yX12_bitsOf, Cond.static yX12_bitsOf]
def wsX12_first_r2 : List Cond := [Cond.code yX12_bitsOf cX12_bitsOf 3 (some .int), Cond.methodLink RX12 442 yX12_doesPart, Cond.instanceMethod yX12_doesPart, Cond.selects RX12 yX12_doesPart yX12_doesPart, Cond.code yX12_doesPart cX12_doesPart 2 (some .boolean), Cond.methodLink RX12 394 yX12_otherOf, Cond.instanceMethod yX12_otherOf, Cond.selects RX12 yX12_otherOf yX12_otherOf, Cond.code yX12_otherOf cX12_otherOf 2 (some .int), Cond.fieldLink RX12 42 "SoldHouseModel" "other" "[I", Cond.methodLink RX12 397 yX12_has, Cond.static yX12_has, Cond.code yX12_has cX12_has 2 (some .boolean)]
def wsX12_first : List Cond := .code yX12_first cX12_first 2 (some .int) :: ((wsX12_first_r1 ++ wsX12_first_r2) ++ wsX120)
def wsX12_meet : List Cond := .code yX12_meet cX12_meet 8 (some .int) :: ([.methodLink RX12 445 yX12_areRooms, .instanceMethod yX12_areRooms, .selects RX12 yX12_areRooms yX12_areRooms, .initialized RX12, .code yX12_areRooms cX12_areRooms 3 (some .boolean), .methodLink RX12 385 yX12_isRoom, .instanceMethod yX12_isRoom, .selects RX12 yX12_isRoom yX12_isRoom, .code yX12_isRoom cX12_isRoom 2 (some .boolean), .methodLink RX12 378 yX12_places, .instanceMethod yX12_places, .selects RX12 yX12_places yX12_places, .code yX12_places cX12_places 1 (some .int), .fieldLink RX12 20 "SoldHouseModel" "rooms" "[I", .fieldLink RX12 280 "SoldHouseModel" "bank" "I", .methodLink RX12 381 yX12_isIn, .static yX12_isIn, .code yX12_isIn cX12_isIn 3 (some .boolean), .methodLink RX12 421 yX12_farOf, .instanceMethod yX12_farOf, .selects RX12 yX12_farOf yX12_farOf, .code yX12_farOf cX12_farOf 3 (some .int), .fieldLink RX12 98 "SoldHouseModel" "table" "[I"] ++ wsX120)
def wsX12_barOf_r1 : List Cond := [Cond.fieldLink RX12 107 "SoldHouseModel" "toGoal" "[I", Cond.methodLink RX12 463 yX12_weighAlike, Cond.instanceMethod yX12_weighAlike, Cond.selects RX12 yX12_weighAlike yX12_weighAlike, Cond.initialized RX12, Cond.code yX12_weighAlike cX12_weighAlike 2 none, Cond.fieldLink RX12 110 "SoldHouseModel" "weight" "[I", Cond.methodLink RX12 378 yX12_places, Cond.instanceMethod yX12_places, Cond.selects RX12 yX12_places yX12_places, Cond.code yX12_places cX12_places 1 (some .int), Cond.fieldLink RX12 20 "SoldHouseModel" "rooms" "[I", Cond.fieldLink RX12 280 "SoldHouseModel" "bank" "I", Cond.methodLink RX12 469 yX12_bitsOf, Cond.static yX12_bitsOf, Cond.code yX12_bitsOf cX12_bitsOf 3 (some .int), Cond.methodLink RX12 460 yX12_layGoal, Cond.instanceMethod yX12_layGoal, Cond.selects RX12 yX12_layGoal yX12_layGoal, Cond.code yX12_layGoal cX12_layGoal 7 none, Cond.fieldLink RX12 24 "SoldHouseModel" "doors" "[I", Cond.methodLink RX12 391 yX12_oneOf, Cond.instanceMethod yX12_oneOf, Cond.selects RX12 yX12_oneOf yX12_oneOf]
def wsX12_barOf_r2 : List Cond := [Cond.code yX12_oneOf cX12_oneOf 2 (some .int), Cond.fieldLink RX12 39 "SoldHouseModel" "one" "[I", Cond.methodLink RX12 394 yX12_otherOf, Cond.instanceMethod yX12_otherOf, Cond.selects RX12 yX12_otherOf yX12_otherOf, Cond.code yX12_otherOf cX12_otherOf 2 (some .int), Cond.fieldLink RX12 42 "SoldHouseModel" "other" "[I", Cond.methodLink RX12 397 yX12_has, Cond.static yX12_has, Cond.code yX12_has cX12_has 2 (some .boolean)]
def wsX12_barOf : List Cond := .code yX12_barOf cX12_barOf 6 (some .int) :: ((wsX12_barOf_r1 ++ wsX12_barOf_r2) ++ wsX120)
def wsX12_bar_r1 : List Cond := [Cond.methodLink RX12 445 yX12_areRooms, Cond.instanceMethod yX12_areRooms, Cond.selects RX12 yX12_areRooms yX12_areRooms, Cond.initialized RX12, Cond.code yX12_areRooms cX12_areRooms 3 (some .boolean), Cond.methodLink RX12 385 yX12_isRoom, Cond.instanceMethod yX12_isRoom, Cond.selects RX12 yX12_isRoom yX12_isRoom, Cond.code yX12_isRoom cX12_isRoom 2 (some .boolean), Cond.methodLink RX12 378 yX12_places, Cond.instanceMethod yX12_places, Cond.selects RX12 yX12_places yX12_places, Cond.code yX12_places cX12_places 1 (some .int), Cond.fieldLink RX12 20 "SoldHouseModel" "rooms" "[I", Cond.fieldLink RX12 280 "SoldHouseModel" "bank" "I", Cond.methodLink RX12 381 yX12_isIn, Cond.static yX12_isIn, Cond.code yX12_isIn cX12_isIn 3 (some .boolean), Cond.methodLink RX12 478 yX12_barOf, Cond.instanceMethod yX12_barOf, Cond.selects RX12 yX12_barOf yX12_barOf, Cond.code yX12_barOf cX12_barOf 6 (some .int), Cond.fieldLink RX12 107 "SoldHouseModel" "toGoal" "[I", Cond.methodLink RX12 463 yX12_weighAlike]
def wsX12_bar_r2 : List Cond := [Cond.instanceMethod yX12_weighAlike, Cond.selects RX12 yX12_weighAlike yX12_weighAlike, Cond.code yX12_weighAlike cX12_weighAlike 2 none, Cond.fieldLink RX12 110 "SoldHouseModel" "weight" "[I", Cond.methodLink RX12 469 yX12_bitsOf, Cond.static yX12_bitsOf, Cond.code yX12_bitsOf cX12_bitsOf 3 (some .int), Cond.methodLink RX12 460 yX12_layGoal, Cond.instanceMethod yX12_layGoal, Cond.selects RX12 yX12_layGoal yX12_layGoal, Cond.code yX12_layGoal cX12_layGoal 7 none, Cond.fieldLink RX12 24 "SoldHouseModel" "doors" "[I", Cond.methodLink RX12 391 yX12_oneOf, Cond.instanceMethod yX12_oneOf, Cond.selects RX12 yX12_oneOf yX12_oneOf, Cond.code yX12_oneOf cX12_oneOf 2 (some .int), Cond.fieldLink RX12 39 "SoldHouseModel" "one" "[I", Cond.methodLink RX12 394 yX12_otherOf, Cond.instanceMethod yX12_otherOf, Cond.selects RX12 yX12_otherOf yX12_otherOf, Cond.code yX12_otherOf cX12_otherOf 2 (some .int), Cond.fieldLink RX12 42 "SoldHouseModel" "other" "[I", Cond.methodLink RX12 397 yX12_has, Cond.static yX12_has]
def wsX12_bar_r3 : List Cond := [Cond.code yX12_has cX12_has 2 (some .boolean)]
def wsX12_bar : List Cond := .code yX12_bar cX12_bar 5 (some .int) :: ((wsX12_bar_r1 ++ (wsX12_bar_r2 ++ wsX12_bar_r3)) ++ wsX120)
def wsX12_farthest : List Cond := .code yX12_farthest cX12_farthest 4 (some .int) :: ([.methodLink RX12 378 yX12_places, .instanceMethod yX12_places, .selects RX12 yX12_places yX12_places, .initialized RX12, .code yX12_places cX12_places 1 (some .int), .fieldLink RX12 20 "SoldHouseModel" "rooms" "[I", .fieldLink RX12 280 "SoldHouseModel" "bank" "I", .methodLink RX12 421 yX12_farOf, .instanceMethod yX12_farOf, .selects RX12 yX12_farOf yX12_farOf, .code yX12_farOf cX12_farOf 3 (some .int), .fieldLink RX12 98 "SoldHouseModel" "table" "[I"] ++ wsX120)
def wsX12_centre : List Cond := .code yX12_centre cX12_centre 3 (some .int) :: ([.methodLink RX12 378 yX12_places, .instanceMethod yX12_places, .selects RX12 yX12_places yX12_places, .initialized RX12, .code yX12_places cX12_places 1 (some .int), .fieldLink RX12 20 "SoldHouseModel" "rooms" "[I", .fieldLink RX12 280 "SoldHouseModel" "bank" "I", .methodLink RX12 484 yX12_farthest, .instanceMethod yX12_farthest, .selects RX12 yX12_farthest yX12_farthest, .code yX12_farthest cX12_farthest 4 (some .int), .methodLink RX12 421 yX12_farOf, .instanceMethod yX12_farOf, .selects RX12 yX12_farOf yX12_farOf, .code yX12_farOf cX12_farOf 3 (some .int), .fieldLink RX12 98 "SoldHouseModel" "table" "[I"] ++ wsX120)
theorem dX12_layGoal_0 : decode cX12_layGoal 0 = .ok (.iconst 0, 1) := by decide +kernel
theorem dX12_layGoal_1 : decode cX12_layGoal 1 = .ok (.istore_n 3, 1) := by decide +kernel
theorem dX12_layGoal_2 : decode cX12_layGoal 2 = .ok (.iload_n 3, 1) := by decide +kernel
theorem dX12_layGoal_3 : decode cX12_layGoal 3 = .ok (.bipush 8, 2) := by decide +kernel
theorem dX12_layGoal_5 : decode cX12_layGoal 5 = .ok (.if_icmp .ge 27, 3) := by decide +kernel
theorem dX12_layGoal_8 : decode cX12_layGoal 8 = .ok (.aload_n 0, 1) := by decide +kernel
theorem dX12_layGoal_9 : decode cX12_layGoal 9 = .ok (.getfield 107, 3) := by decide +kernel
theorem dX12_layGoal_12 : decode cX12_layGoal 12 = .ok (.iload_n 3, 1) := by decide +kernel
theorem dX12_layGoal_13 : decode cX12_layGoal 13 = .ok (.iload_n 3, 1) := by decide +kernel
theorem dX12_layGoal_14 : decode cX12_layGoal 14 = .ok (.iload_n 1, 1) := by decide +kernel
theorem dX12_layGoal_15 : decode cX12_layGoal 15 = .ok (.if_icmp .ne 7, 3) := by decide +kernel
theorem dX12_layGoal_18 : decode cX12_layGoal 18 = .ok (.iconst 0, 1) := by decide +kernel
theorem dX12_layGoal_19 : decode cX12_layGoal 19 = .ok (.goto 6, 3) := by decide +kernel
theorem dX12_layGoal_22 : decode cX12_layGoal 22 = .ok (.sipush 10000, 3) := by decide +kernel
theorem dX12_layGoal_25 : decode cX12_layGoal 25 = .ok (.iastore, 1) := by decide +kernel
theorem dX12_layGoal_26 : decode cX12_layGoal 26 = .ok (.iinc 3 1, 3) := by decide +kernel
theorem dX12_layGoal_29 : decode cX12_layGoal 29 = .ok (.goto (-27), 3) := by decide +kernel
theorem dX12_layGoal_32 : decode cX12_layGoal 32 = .ok (.iconst 1, 1) := by decide +kernel
theorem dX12_layGoal_33 : decode cX12_layGoal 33 = .ok (.istore_n 3, 1) := by decide +kernel
theorem dX12_layGoal_34 : decode cX12_layGoal 34 = .ok (.iload_n 3, 1) := by decide +kernel
theorem dX12_layGoal_35 : decode cX12_layGoal 35 = .ok (.ifCond .eq 159, 3) := by decide +kernel
theorem dX12_layGoal_38 : decode cX12_layGoal 38 = .ok (.iconst 0, 1) := by decide +kernel
theorem dX12_layGoal_39 : decode cX12_layGoal 39 = .ok (.istore_n 3, 1) := by decide +kernel
theorem dX12_layGoal_40 : decode cX12_layGoal 40 = .ok (.iconst 0, 1) := by decide +kernel
theorem dX12_layGoal_41 : decode cX12_layGoal 41 = .ok (.istore 4, 2) := by decide +kernel
theorem dX12_layGoal_43 : decode cX12_layGoal 43 = .ok (.iload 4, 2) := by decide +kernel
theorem dX12_layGoal_45 : decode cX12_layGoal 45 = .ok (.iconst 2, 1) := by decide +kernel
theorem dX12_layGoal_46 : decode cX12_layGoal 46 = .ok (.aload_n 0, 1) := by decide +kernel
theorem dX12_layGoal_47 : decode cX12_layGoal 47 = .ok (.getfield 24, 3) := by decide +kernel
theorem dX12_layGoal_50 : decode cX12_layGoal 50 = .ok (.aload_n 0, 1) := by decide +kernel
theorem dX12_layGoal_51 : decode cX12_layGoal 51 = .ok (.getfield 280, 3) := by decide +kernel
theorem dX12_layGoal_54 : decode cX12_layGoal 54 = .ok (.iaload, 1) := by decide +kernel
theorem dX12_layGoal_55 : decode cX12_layGoal 55 = .ok (.imul, 1) := by decide +kernel
theorem dX12_layGoal_56 : decode cX12_layGoal 56 = .ok (.if_icmp .ge 135, 3) := by decide +kernel
theorem dX12_layGoal_59 : decode cX12_layGoal 59 = .ok (.iload 4, 2) := by decide +kernel
theorem dX12_layGoal_61 : decode cX12_layGoal 61 = .ok (.iconst 2, 1) := by decide +kernel
theorem dX12_layGoal_62 : decode cX12_layGoal 62 = .ok (.irem, 1) := by decide +kernel
theorem dX12_layGoal_63 : decode cX12_layGoal 63 = .ok (.ifCond .ne 14, 3) := by decide +kernel
theorem dX12_layGoal_66 : decode cX12_layGoal 66 = .ok (.aload_n 0, 1) := by decide +kernel
theorem dX12_layGoal_67 : decode cX12_layGoal 67 = .ok (.iload 4, 2) := by decide +kernel
theorem dX12_layGoal_69 : decode cX12_layGoal 69 = .ok (.iconst 2, 1) := by decide +kernel
theorem dX12_layGoal_70 : decode cX12_layGoal 70 = .ok (.idiv, 1) := by decide +kernel
theorem dX12_layGoal_71 : decode cX12_layGoal 71 = .ok (.invokevirtual 391, 3) := by decide +kernel
theorem dX12_layGoal_74 : decode cX12_layGoal 74 = .ok (.goto 11, 3) := by decide +kernel
theorem dX12_layGoal_77 : decode cX12_layGoal 77 = .ok (.aload_n 0, 1) := by decide +kernel
theorem dX12_layGoal_78 : decode cX12_layGoal 78 = .ok (.iload 4, 2) := by decide +kernel
theorem dX12_layGoal_80 : decode cX12_layGoal 80 = .ok (.iconst 2, 1) := by decide +kernel
theorem dX12_layGoal_81 : decode cX12_layGoal 81 = .ok (.idiv, 1) := by decide +kernel
theorem dX12_layGoal_82 : decode cX12_layGoal 82 = .ok (.invokevirtual 394, 3) := by decide +kernel
theorem dX12_layGoal_85 : decode cX12_layGoal 85 = .ok (.istore 5, 2) := by decide +kernel
theorem dX12_layGoal_87 : decode cX12_layGoal 87 = .ok (.iload 4, 2) := by decide +kernel
theorem dX12_layGoal_89 : decode cX12_layGoal 89 = .ok (.iconst 2, 1) := by decide +kernel
theorem dX12_layGoal_90 : decode cX12_layGoal 90 = .ok (.irem, 1) := by decide +kernel
theorem dX12_layGoal_91 : decode cX12_layGoal 91 = .ok (.ifCond .ne 14, 3) := by decide +kernel
theorem dX12_layGoal_94 : decode cX12_layGoal 94 = .ok (.aload_n 0, 1) := by decide +kernel
theorem dX12_layGoal_95 : decode cX12_layGoal 95 = .ok (.iload 4, 2) := by decide +kernel
theorem dX12_layGoal_97 : decode cX12_layGoal 97 = .ok (.iconst 2, 1) := by decide +kernel
theorem dX12_layGoal_98 : decode cX12_layGoal 98 = .ok (.idiv, 1) := by decide +kernel
theorem dX12_layGoal_99 : decode cX12_layGoal 99 = .ok (.invokevirtual 394, 3) := by decide +kernel
theorem dX12_layGoal_102 : decode cX12_layGoal 102 = .ok (.goto 11, 3) := by decide +kernel
theorem dX12_layGoal_105 : decode cX12_layGoal 105 = .ok (.aload_n 0, 1) := by decide +kernel
theorem dX12_layGoal_106 : decode cX12_layGoal 106 = .ok (.iload 4, 2) := by decide +kernel
theorem dX12_layGoal_108 : decode cX12_layGoal 108 = .ok (.iconst 2, 1) := by decide +kernel
theorem dX12_layGoal_109 : decode cX12_layGoal 109 = .ok (.idiv, 1) := by decide +kernel
theorem dX12_layGoal_110 : decode cX12_layGoal 110 = .ok (.invokevirtual 391, 3) := by decide +kernel
theorem dX12_layGoal_113 : decode cX12_layGoal 113 = .ok (.istore 6, 2) := by decide +kernel
theorem dX12_layGoal_115 : decode cX12_layGoal 115 = .ok (.iload_n 2, 1) := by decide +kernel
theorem dX12_layGoal_116 : decode cX12_layGoal 116 = .ok (.iload 5, 2) := by decide +kernel
theorem dX12_layGoal_118 : decode cX12_layGoal 118 = .ok (.invokestatic 397, 3) := by decide +kernel
theorem dX12_layGoal_121 : decode cX12_layGoal 121 = .ok (.ifCond .ne 64, 3) := by decide +kernel
theorem dX12_layGoal_124 : decode cX12_layGoal 124 = .ok (.iload_n 2, 1) := by decide +kernel
theorem dX12_layGoal_125 : decode cX12_layGoal 125 = .ok (.iload 6, 2) := by decide +kernel
theorem dX12_layGoal_127 : decode cX12_layGoal 127 = .ok (.invokestatic 397, 3) := by decide +kernel
theorem dX12_layGoal_130 : decode cX12_layGoal 130 = .ok (.ifCond .ne 55, 3) := by decide +kernel
theorem dX12_layGoal_133 : decode cX12_layGoal 133 = .ok (.aload_n 0, 1) := by decide +kernel
theorem dX12_layGoal_134 : decode cX12_layGoal 134 = .ok (.getfield 107, 3) := by decide +kernel
theorem dX12_layGoal_137 : decode cX12_layGoal 137 = .ok (.iload 6, 2) := by decide +kernel
theorem dX12_layGoal_139 : decode cX12_layGoal 139 = .ok (.iaload, 1) := by decide +kernel
theorem dX12_layGoal_140 : decode cX12_layGoal 140 = .ok (.aload_n 0, 1) := by decide +kernel
theorem dX12_layGoal_141 : decode cX12_layGoal 141 = .ok (.getfield 110, 3) := by decide +kernel
theorem dX12_layGoal_144 : decode cX12_layGoal 144 = .ok (.iload 6, 2) := by decide +kernel
theorem dX12_layGoal_146 : decode cX12_layGoal 146 = .ok (.iaload, 1) := by decide +kernel
theorem dX12_layGoal_147 : decode cX12_layGoal 147 = .ok (.iadd, 1) := by decide +kernel
theorem dX12_layGoal_148 : decode cX12_layGoal 148 = .ok (.aload_n 0, 1) := by decide +kernel
theorem dX12_layGoal_149 : decode cX12_layGoal 149 = .ok (.getfield 107, 3) := by decide +kernel
theorem dX12_layGoal_152 : decode cX12_layGoal 152 = .ok (.iload 5, 2) := by decide +kernel
theorem dX12_layGoal_154 : decode cX12_layGoal 154 = .ok (.iaload, 1) := by decide +kernel
theorem dX12_layGoal_155 : decode cX12_layGoal 155 = .ok (.if_icmp .lt 6, 3) := by decide +kernel
theorem dX12_layGoal_158 : decode cX12_layGoal 158 = .ok (.goto 27, 3) := by decide +kernel
theorem dX12_layGoal_161 : decode cX12_layGoal 161 = .ok (.aload_n 0, 1) := by decide +kernel
theorem dX12_layGoal_162 : decode cX12_layGoal 162 = .ok (.getfield 107, 3) := by decide +kernel
theorem dX12_layGoal_165 : decode cX12_layGoal 165 = .ok (.iload 5, 2) := by decide +kernel
theorem dX12_layGoal_167 : decode cX12_layGoal 167 = .ok (.aload_n 0, 1) := by decide +kernel
theorem dX12_layGoal_168 : decode cX12_layGoal 168 = .ok (.getfield 107, 3) := by decide +kernel
theorem dX12_layGoal_171 : decode cX12_layGoal 171 = .ok (.iload 6, 2) := by decide +kernel
theorem dX12_layGoal_173 : decode cX12_layGoal 173 = .ok (.iaload, 1) := by decide +kernel
theorem dX12_layGoal_174 : decode cX12_layGoal 174 = .ok (.aload_n 0, 1) := by decide +kernel
theorem dX12_layGoal_175 : decode cX12_layGoal 175 = .ok (.getfield 110, 3) := by decide +kernel
theorem dX12_layGoal_178 : decode cX12_layGoal 178 = .ok (.iload 6, 2) := by decide +kernel
theorem dX12_layGoal_180 : decode cX12_layGoal 180 = .ok (.iaload, 1) := by decide +kernel
theorem dX12_layGoal_181 : decode cX12_layGoal 181 = .ok (.iadd, 1) := by decide +kernel
theorem dX12_layGoal_182 : decode cX12_layGoal 182 = .ok (.iastore, 1) := by decide +kernel
theorem dX12_layGoal_183 : decode cX12_layGoal 183 = .ok (.iconst 1, 1) := by decide +kernel
theorem dX12_layGoal_184 : decode cX12_layGoal 184 = .ok (.istore_n 3, 1) := by decide +kernel
theorem dX12_layGoal_185 : decode cX12_layGoal 185 = .ok (.iinc 4 1, 3) := by decide +kernel
theorem dX12_layGoal_188 : decode cX12_layGoal 188 = .ok (.goto (-145), 3) := by decide +kernel
theorem dX12_layGoal_191 : decode cX12_layGoal 191 = .ok (.goto (-157), 3) := by decide +kernel
theorem dX12_layGoal_194 : decode cX12_layGoal 194 = .ok (.return_, 1) := by decide +kernel
theorem dX12_weighAlike_0 : decode cX12_weighAlike 0 = .ok (.iconst 0, 1) := by decide +kernel
theorem dX12_weighAlike_1 : decode cX12_weighAlike 1 = .ok (.istore_n 1, 1) := by decide +kernel
theorem dX12_weighAlike_2 : decode cX12_weighAlike 2 = .ok (.iload_n 1, 1) := by decide +kernel
theorem dX12_weighAlike_3 : decode cX12_weighAlike 3 = .ok (.bipush 8, 2) := by decide +kernel
theorem dX12_weighAlike_5 : decode cX12_weighAlike 5 = .ok (.if_icmp .ge 16, 3) := by decide +kernel
theorem dX12_weighAlike_8 : decode cX12_weighAlike 8 = .ok (.aload_n 0, 1) := by decide +kernel
theorem dX12_weighAlike_9 : decode cX12_weighAlike 9 = .ok (.getfield 110, 3) := by decide +kernel
theorem dX12_weighAlike_12 : decode cX12_weighAlike 12 = .ok (.iload_n 1, 1) := by decide +kernel
theorem dX12_weighAlike_13 : decode cX12_weighAlike 13 = .ok (.iconst 1, 1) := by decide +kernel
theorem dX12_weighAlike_14 : decode cX12_weighAlike 14 = .ok (.iastore, 1) := by decide +kernel
theorem dX12_weighAlike_15 : decode cX12_weighAlike 15 = .ok (.iinc 1 1, 3) := by decide +kernel
theorem dX12_weighAlike_18 : decode cX12_weighAlike 18 = .ok (.goto (-16), 3) := by decide +kernel
theorem dX12_weighAlike_21 : decode cX12_weighAlike 21 = .ok (.return_, 1) := by decide +kernel
theorem dX12_showWay_0 : decode cX12_showWay 0 = .ok (.aload_n 0, 1) := by decide +kernel
theorem dX12_showWay_1 : decode cX12_showWay 1 = .ok (.iconst 0, 1) := by decide +kernel
theorem dX12_showWay_2 : decode cX12_showWay 2 = .ok (.putfield 418, 3) := by decide +kernel
theorem dX12_showWay_5 : decode cX12_showWay 5 = .ok (.aload_n 0, 1) := by decide +kernel
theorem dX12_showWay_6 : decode cX12_showWay 6 = .ok (.iload_n 2, 1) := by decide +kernel
theorem dX12_showWay_7 : decode cX12_showWay 7 = .ok (.iconst 0, 1) := by decide +kernel
theorem dX12_showWay_8 : decode cX12_showWay 8 = .ok (.invokevirtual 460, 3) := by decide +kernel
theorem dX12_showWay_11 : decode cX12_showWay 11 = .ok (.aload_n 0, 1) := by decide +kernel
theorem dX12_showWay_12 : decode cX12_showWay 12 = .ok (.getfield 107, 3) := by decide +kernel
theorem dX12_showWay_15 : decode cX12_showWay 15 = .ok (.iload_n 1, 1) := by decide +kernel
theorem dX12_showWay_16 : decode cX12_showWay 16 = .ok (.iaload, 1) := by decide +kernel
theorem dX12_showWay_17 : decode cX12_showWay 17 = .ok (.sipush 10000, 3) := by decide +kernel
theorem dX12_showWay_20 : decode cX12_showWay 20 = .ok (.if_icmp .lt 5, 3) := by decide +kernel
theorem dX12_showWay_23 : decode cX12_showWay 23 = .ok (.iconst (-1), 1) := by decide +kernel
theorem dX12_showWay_24 : decode cX12_showWay 24 = .ok (.ireturn, 1) := by decide +kernel
theorem dX12_showWay_25 : decode cX12_showWay 25 = .ok (.iload_n 1, 1) := by decide +kernel
theorem dX12_showWay_26 : decode cX12_showWay 26 = .ok (.istore_n 3, 1) := by decide +kernel
theorem dX12_showWay_27 : decode cX12_showWay 27 = .ok (.aload_n 0, 1) := by decide +kernel
theorem dX12_showWay_28 : decode cX12_showWay 28 = .ok (.getfield 113, 3) := by decide +kernel
theorem dX12_showWay_31 : decode cX12_showWay 31 = .ok (.iconst 0, 1) := by decide +kernel
theorem dX12_showWay_32 : decode cX12_showWay 32 = .ok (.iload_n 1, 1) := by decide +kernel
theorem dX12_showWay_33 : decode cX12_showWay 33 = .ok (.iastore, 1) := by decide +kernel
theorem dX12_showWay_34 : decode cX12_showWay 34 = .ok (.aload_n 0, 1) := by decide +kernel
theorem dX12_showWay_35 : decode cX12_showWay 35 = .ok (.iconst 1, 1) := by decide +kernel
theorem dX12_showWay_36 : decode cX12_showWay 36 = .ok (.putfield 418, 3) := by decide +kernel
theorem dX12_showWay_39 : decode cX12_showWay 39 = .ok (.iload_n 3, 1) := by decide +kernel
theorem dX12_showWay_40 : decode cX12_showWay 40 = .ok (.iload_n 2, 1) := by decide +kernel
theorem dX12_showWay_41 : decode cX12_showWay 41 = .ok (.if_icmp .eq 76, 3) := by decide +kernel
theorem dX12_showWay_44 : decode cX12_showWay 44 = .ok (.iconst 0, 1) := by decide +kernel
theorem dX12_showWay_45 : decode cX12_showWay 45 = .ok (.istore 4, 2) := by decide +kernel
theorem dX12_showWay_47 : decode cX12_showWay 47 = .ok (.aload_n 0, 1) := by decide +kernel
theorem dX12_showWay_48 : decode cX12_showWay 48 = .ok (.iload_n 3, 1) := by decide +kernel
theorem dX12_showWay_49 : decode cX12_showWay 49 = .ok (.iconst (-1), 1) := by decide +kernel
theorem dX12_showWay_50 : decode cX12_showWay 50 = .ok (.invokevirtual 400, 3) := by decide +kernel
theorem dX12_showWay_53 : decode cX12_showWay 53 = .ok (.iload 4, 2) := by decide +kernel
theorem dX12_showWay_55 : decode cX12_showWay 55 = .ok (.invokestatic 397, 3) := by decide +kernel
theorem dX12_showWay_58 : decode cX12_showWay 58 = .ok (.ifCond .eq 27, 3) := by decide +kernel
theorem dX12_showWay_61 : decode cX12_showWay 61 = .ok (.aload_n 0, 1) := by decide +kernel
theorem dX12_showWay_62 : decode cX12_showWay 62 = .ok (.getfield 107, 3) := by decide +kernel
theorem dX12_showWay_65 : decode cX12_showWay 65 = .ok (.iload 4, 2) := by decide +kernel
theorem dX12_showWay_67 : decode cX12_showWay 67 = .ok (.iaload, 1) := by decide +kernel
theorem dX12_showWay_68 : decode cX12_showWay 68 = .ok (.aload_n 0, 1) := by decide +kernel
theorem dX12_showWay_69 : decode cX12_showWay 69 = .ok (.getfield 110, 3) := by decide +kernel
theorem dX12_showWay_72 : decode cX12_showWay 72 = .ok (.iload 4, 2) := by decide +kernel
theorem dX12_showWay_74 : decode cX12_showWay 74 = .ok (.iaload, 1) := by decide +kernel
theorem dX12_showWay_75 : decode cX12_showWay 75 = .ok (.iadd, 1) := by decide +kernel
theorem dX12_showWay_76 : decode cX12_showWay 76 = .ok (.aload_n 0, 1) := by decide +kernel
theorem dX12_showWay_77 : decode cX12_showWay 77 = .ok (.getfield 107, 3) := by decide +kernel
theorem dX12_showWay_80 : decode cX12_showWay 80 = .ok (.iload_n 3, 1) := by decide +kernel
theorem dX12_showWay_81 : decode cX12_showWay 81 = .ok (.iaload, 1) := by decide +kernel
theorem dX12_showWay_82 : decode cX12_showWay 82 = .ok (.if_icmp .eq 9, 3) := by decide +kernel
theorem dX12_showWay_85 : decode cX12_showWay 85 = .ok (.iinc 4 1, 3) := by decide +kernel
theorem dX12_showWay_88 : decode cX12_showWay 88 = .ok (.goto (-41), 3) := by decide +kernel
theorem dX12_showWay_91 : decode cX12_showWay 91 = .ok (.iload 4, 2) := by decide +kernel
theorem dX12_showWay_93 : decode cX12_showWay 93 = .ok (.istore_n 3, 1) := by decide +kernel
theorem dX12_showWay_94 : decode cX12_showWay 94 = .ok (.aload_n 0, 1) := by decide +kernel
theorem dX12_showWay_95 : decode cX12_showWay 95 = .ok (.getfield 113, 3) := by decide +kernel
theorem dX12_showWay_98 : decode cX12_showWay 98 = .ok (.aload_n 0, 1) := by decide +kernel
theorem dX12_showWay_99 : decode cX12_showWay 99 = .ok (.getfield 418, 3) := by decide +kernel
theorem dX12_showWay_102 : decode cX12_showWay 102 = .ok (.iload_n 3, 1) := by decide +kernel
theorem dX12_showWay_103 : decode cX12_showWay 103 = .ok (.iastore, 1) := by decide +kernel
theorem dX12_showWay_104 : decode cX12_showWay 104 = .ok (.aload_n 0, 1) := by decide +kernel
theorem dX12_showWay_105 : decode cX12_showWay 105 = .ok (.dup, 1) := by decide +kernel
theorem dX12_showWay_106 : decode cX12_showWay 106 = .ok (.getfield 418, 3) := by decide +kernel
theorem dX12_showWay_109 : decode cX12_showWay 109 = .ok (.iconst 1, 1) := by decide +kernel
theorem dX12_showWay_110 : decode cX12_showWay 110 = .ok (.iadd, 1) := by decide +kernel
theorem dX12_showWay_111 : decode cX12_showWay 111 = .ok (.putfield 418, 3) := by decide +kernel
theorem dX12_showWay_114 : decode cX12_showWay 114 = .ok (.goto (-75), 3) := by decide +kernel
theorem dX12_showWay_117 : decode cX12_showWay 117 = .ok (.aload_n 0, 1) := by decide +kernel
theorem dX12_showWay_118 : decode cX12_showWay 118 = .ok (.getfield 107, 3) := by decide +kernel
theorem dX12_showWay_121 : decode cX12_showWay 121 = .ok (.iload_n 1, 1) := by decide +kernel
theorem dX12_showWay_122 : decode cX12_showWay 122 = .ok (.iaload, 1) := by decide +kernel
theorem dX12_showWay_123 : decode cX12_showWay 123 = .ok (.ireturn, 1) := by decide +kernel
theorem dX12_way_0 : decode cX12_way 0 = .ok (.aload_n 0, 1) := by decide +kernel
theorem dX12_way_1 : decode cX12_way 1 = .ok (.iconst 0, 1) := by decide +kernel
theorem dX12_way_2 : decode cX12_way 2 = .ok (.putfield 418, 3) := by decide +kernel
theorem dX12_way_5 : decode cX12_way 5 = .ok (.aload_n 0, 1) := by decide +kernel
theorem dX12_way_6 : decode cX12_way 6 = .ok (.iload_n 1, 1) := by decide +kernel
theorem dX12_way_7 : decode cX12_way 7 = .ok (.iload_n 2, 1) := by decide +kernel
theorem dX12_way_8 : decode cX12_way 8 = .ok (.invokevirtual 445, 3) := by decide +kernel
theorem dX12_way_11 : decode cX12_way 11 = .ok (.ifCond .ne 5, 3) := by decide +kernel
theorem dX12_way_14 : decode cX12_way 14 = .ok (.iconst (-1), 1) := by decide +kernel
theorem dX12_way_15 : decode cX12_way 15 = .ok (.ireturn, 1) := by decide +kernel
theorem dX12_way_16 : decode cX12_way 16 = .ok (.aload_n 0, 1) := by decide +kernel
theorem dX12_way_17 : decode cX12_way 17 = .ok (.invokevirtual 463, 3) := by decide +kernel
theorem dX12_way_20 : decode cX12_way 20 = .ok (.aload_n 0, 1) := by decide +kernel
theorem dX12_way_21 : decode cX12_way 21 = .ok (.iload_n 1, 1) := by decide +kernel
theorem dX12_way_22 : decode cX12_way 22 = .ok (.iload_n 2, 1) := by decide +kernel
theorem dX12_way_23 : decode cX12_way 23 = .ok (.invokevirtual 466, 3) := by decide +kernel
theorem dX12_way_26 : decode cX12_way 26 = .ok (.ireturn, 1) := by decide +kernel
theorem dX12_quiet_0 : decode cX12_quiet 0 = .ok (.aload_n 0, 1) := by decide +kernel
theorem dX12_quiet_1 : decode cX12_quiet 1 = .ok (.iconst 0, 1) := by decide +kernel
theorem dX12_quiet_2 : decode cX12_quiet 2 = .ok (.putfield 418, 3) := by decide +kernel
theorem dX12_quiet_5 : decode cX12_quiet 5 = .ok (.aload_n 0, 1) := by decide +kernel
theorem dX12_quiet_6 : decode cX12_quiet 6 = .ok (.iload_n 1, 1) := by decide +kernel
theorem dX12_quiet_7 : decode cX12_quiet 7 = .ok (.iload_n 2, 1) := by decide +kernel
theorem dX12_quiet_8 : decode cX12_quiet 8 = .ok (.invokevirtual 445, 3) := by decide +kernel
theorem dX12_quiet_11 : decode cX12_quiet 11 = .ok (.ifCond .ne 5, 3) := by decide +kernel
theorem dX12_quiet_14 : decode cX12_quiet 14 = .ok (.iconst (-1), 1) := by decide +kernel
theorem dX12_quiet_15 : decode cX12_quiet 15 = .ok (.ireturn, 1) := by decide +kernel
theorem dX12_quiet_16 : decode cX12_quiet 16 = .ok (.iconst 0, 1) := by decide +kernel
theorem dX12_quiet_17 : decode cX12_quiet 17 = .ok (.istore_n 3, 1) := by decide +kernel
theorem dX12_quiet_18 : decode cX12_quiet 18 = .ok (.iload_n 3, 1) := by decide +kernel
theorem dX12_quiet_19 : decode cX12_quiet 19 = .ok (.aload_n 0, 1) := by decide +kernel
theorem dX12_quiet_20 : decode cX12_quiet 20 = .ok (.invokevirtual 378, 3) := by decide +kernel
theorem dX12_quiet_23 : decode cX12_quiet 23 = .ok (.if_icmp .ge 25, 3) := by decide +kernel
theorem dX12_quiet_26 : decode cX12_quiet 26 = .ok (.aload_n 0, 1) := by decide +kernel
theorem dX12_quiet_27 : decode cX12_quiet 27 = .ok (.getfield 110, 3) := by decide +kernel
theorem dX12_quiet_30 : decode cX12_quiet 30 = .ok (.iload_n 3, 1) := by decide +kernel
theorem dX12_quiet_31 : decode cX12_quiet 31 = .ok (.bipush 100, 2) := by decide +kernel
theorem dX12_quiet_33 : decode cX12_quiet 33 = .ok (.aload_n 0, 1) := by decide +kernel
theorem dX12_quiet_34 : decode cX12_quiet 34 = .ok (.iload_n 3, 1) := by decide +kernel
theorem dX12_quiet_35 : decode cX12_quiet 35 = .ok (.invokevirtual 430, 3) := by decide +kernel
theorem dX12_quiet_38 : decode cX12_quiet 38 = .ok (.imul, 1) := by decide +kernel
theorem dX12_quiet_39 : decode cX12_quiet 39 = .ok (.iconst 1, 1) := by decide +kernel
theorem dX12_quiet_40 : decode cX12_quiet 40 = .ok (.iadd, 1) := by decide +kernel
theorem dX12_quiet_41 : decode cX12_quiet 41 = .ok (.iastore, 1) := by decide +kernel
theorem dX12_quiet_42 : decode cX12_quiet 42 = .ok (.iinc 3 1, 3) := by decide +kernel
theorem dX12_quiet_45 : decode cX12_quiet 45 = .ok (.goto (-27), 3) := by decide +kernel
theorem dX12_quiet_48 : decode cX12_quiet 48 = .ok (.aload_n 0, 1) := by decide +kernel
theorem dX12_quiet_49 : decode cX12_quiet 49 = .ok (.iload_n 1, 1) := by decide +kernel
theorem dX12_quiet_50 : decode cX12_quiet 50 = .ok (.iload_n 2, 1) := by decide +kernel
theorem dX12_quiet_51 : decode cX12_quiet 51 = .ok (.invokevirtual 466, 3) := by decide +kernel
theorem dX12_quiet_54 : decode cX12_quiet 54 = .ok (.istore_n 3, 1) := by decide +kernel
theorem dX12_quiet_55 : decode cX12_quiet 55 = .ok (.iload_n 3, 1) := by decide +kernel
theorem dX12_quiet_56 : decode cX12_quiet 56 = .ok (.ifCond .ge 7, 3) := by decide +kernel
theorem dX12_quiet_59 : decode cX12_quiet 59 = .ok (.iconst (-1), 1) := by decide +kernel
theorem dX12_quiet_60 : decode cX12_quiet 60 = .ok (.goto 7, 3) := by decide +kernel
theorem dX12_quiet_63 : decode cX12_quiet 63 = .ok (.iload_n 3, 1) := by decide +kernel
theorem dX12_quiet_64 : decode cX12_quiet 64 = .ok (.bipush 100, 2) := by decide +kernel
theorem dX12_quiet_66 : decode cX12_quiet 66 = .ok (.idiv, 1) := by decide +kernel
theorem dX12_quiet_67 : decode cX12_quiet 67 = .ok (.ireturn, 1) := by decide +kernel
theorem dX12_ways_0 : decode cX12_ways 0 = .ok (.aload_n 0, 1) := by decide +kernel
theorem dX12_ways_1 : decode cX12_ways 1 = .ok (.iload_n 1, 1) := by decide +kernel
theorem dX12_ways_2 : decode cX12_ways 2 = .ok (.iload_n 2, 1) := by decide +kernel
theorem dX12_ways_3 : decode cX12_ways 3 = .ok (.invokevirtual 445, 3) := by decide +kernel
theorem dX12_ways_6 : decode cX12_ways 6 = .ok (.ifCond .eq 15, 3) := by decide +kernel
theorem dX12_ways_9 : decode cX12_ways 9 = .ok (.aload_n 0, 1) := by decide +kernel
theorem dX12_ways_10 : decode cX12_ways 10 = .ok (.iload_n 1, 1) := by decide +kernel
theorem dX12_ways_11 : decode cX12_ways 11 = .ok (.iload_n 2, 1) := by decide +kernel
theorem dX12_ways_12 : decode cX12_ways 12 = .ok (.invokevirtual 421, 3) := by decide +kernel
theorem dX12_ways_15 : decode cX12_ways 15 = .ok (.sipush 10000, 3) := by decide +kernel
theorem dX12_ways_18 : decode cX12_ways 18 = .ok (.if_icmp .ne 5, 3) := by decide +kernel
theorem dX12_ways_21 : decode cX12_ways 21 = .ok (.iconst (-1), 1) := by decide +kernel
theorem dX12_ways_22 : decode cX12_ways 22 = .ok (.ireturn, 1) := by decide +kernel
theorem dX12_ways_23 : decode cX12_ways 23 = .ok (.iconst 0, 1) := by decide +kernel
theorem dX12_ways_24 : decode cX12_ways 24 = .ok (.istore_n 3, 1) := by decide +kernel
theorem dX12_ways_25 : decode cX12_ways 25 = .ok (.iload_n 3, 1) := by decide +kernel
theorem dX12_ways_26 : decode cX12_ways 26 = .ok (.bipush 8, 2) := by decide +kernel
theorem dX12_ways_28 : decode cX12_ways 28 = .ok (.if_icmp .ge 25, 3) := by decide +kernel
theorem dX12_ways_31 : decode cX12_ways 31 = .ok (.aload_n 0, 1) := by decide +kernel
theorem dX12_ways_32 : decode cX12_ways 32 = .ok (.getfield 116, 3) := by decide +kernel
theorem dX12_ways_35 : decode cX12_ways 35 = .ok (.iload_n 3, 1) := by decide +kernel
theorem dX12_ways_36 : decode cX12_ways 36 = .ok (.iload_n 3, 1) := by decide +kernel
theorem dX12_ways_37 : decode cX12_ways 37 = .ok (.iload_n 1, 1) := by decide +kernel
theorem dX12_ways_38 : decode cX12_ways 38 = .ok (.if_icmp .ne 7, 3) := by decide +kernel
theorem dX12_ways_41 : decode cX12_ways 41 = .ok (.iconst 1, 1) := by decide +kernel
theorem dX12_ways_42 : decode cX12_ways 42 = .ok (.goto 4, 3) := by decide +kernel
theorem dX12_ways_45 : decode cX12_ways 45 = .ok (.iconst 0, 1) := by decide +kernel
theorem dX12_ways_46 : decode cX12_ways 46 = .ok (.iastore, 1) := by decide +kernel
theorem dX12_ways_47 : decode cX12_ways 47 = .ok (.iinc 3 1, 3) := by decide +kernel
theorem dX12_ways_50 : decode cX12_ways 50 = .ok (.goto (-25), 3) := by decide +kernel
theorem dX12_ways_53 : decode cX12_ways 53 = .ok (.iconst 1, 1) := by decide +kernel
theorem dX12_ways_54 : decode cX12_ways 54 = .ok (.istore_n 3, 1) := by decide +kernel
theorem dX12_ways_55 : decode cX12_ways 55 = .ok (.iload_n 3, 1) := by decide +kernel
theorem dX12_ways_56 : decode cX12_ways 56 = .ok (.aload_n 0, 1) := by decide +kernel
theorem dX12_ways_57 : decode cX12_ways 57 = .ok (.iload_n 1, 1) := by decide +kernel
theorem dX12_ways_58 : decode cX12_ways 58 = .ok (.iload_n 2, 1) := by decide +kernel
theorem dX12_ways_59 : decode cX12_ways 59 = .ok (.invokevirtual 421, 3) := by decide +kernel
theorem dX12_ways_62 : decode cX12_ways 62 = .ok (.if_icmp .gt 104, 3) := by decide +kernel
theorem dX12_ways_65 : decode cX12_ways 65 = .ok (.iconst 0, 1) := by decide +kernel
theorem dX12_ways_66 : decode cX12_ways 66 = .ok (.istore 4, 2) := by decide +kernel
theorem dX12_ways_68 : decode cX12_ways 68 = .ok (.iload 4, 2) := by decide +kernel
theorem dX12_ways_70 : decode cX12_ways 70 = .ok (.aload_n 0, 1) := by decide +kernel
theorem dX12_ways_71 : decode cX12_ways 71 = .ok (.invokevirtual 378, 3) := by decide +kernel
theorem dX12_ways_74 : decode cX12_ways 74 = .ok (.if_icmp .ge 86, 3) := by decide +kernel
theorem dX12_ways_77 : decode cX12_ways 77 = .ok (.aload_n 0, 1) := by decide +kernel
theorem dX12_ways_78 : decode cX12_ways 78 = .ok (.iload_n 1, 1) := by decide +kernel
theorem dX12_ways_79 : decode cX12_ways 79 = .ok (.iload 4, 2) := by decide +kernel
theorem dX12_ways_81 : decode cX12_ways 81 = .ok (.invokevirtual 421, 3) := by decide +kernel
theorem dX12_ways_84 : decode cX12_ways 84 = .ok (.iload_n 3, 1) := by decide +kernel
theorem dX12_ways_85 : decode cX12_ways 85 = .ok (.if_icmp .eq 6, 3) := by decide +kernel
theorem dX12_ways_88 : decode cX12_ways 88 = .ok (.goto 66, 3) := by decide +kernel
theorem dX12_ways_91 : decode cX12_ways 91 = .ok (.iconst 0, 1) := by decide +kernel
theorem dX12_ways_92 : decode cX12_ways 92 = .ok (.istore 5, 2) := by decide +kernel
theorem dX12_ways_94 : decode cX12_ways 94 = .ok (.iload 5, 2) := by decide +kernel
theorem dX12_ways_96 : decode cX12_ways 96 = .ok (.aload_n 0, 1) := by decide +kernel
theorem dX12_ways_97 : decode cX12_ways 97 = .ok (.invokevirtual 378, 3) := by decide +kernel
theorem dX12_ways_100 : decode cX12_ways 100 = .ok (.if_icmp .ge 54, 3) := by decide +kernel
theorem dX12_ways_103 : decode cX12_ways 103 = .ok (.aload_n 0, 1) := by decide +kernel
theorem dX12_ways_104 : decode cX12_ways 104 = .ok (.iload 4, 2) := by decide +kernel
theorem dX12_ways_106 : decode cX12_ways 106 = .ok (.iconst (-1), 1) := by decide +kernel
theorem dX12_ways_107 : decode cX12_ways 107 = .ok (.invokevirtual 400, 3) := by decide +kernel
theorem dX12_ways_110 : decode cX12_ways 110 = .ok (.iload 5, 2) := by decide +kernel
theorem dX12_ways_112 : decode cX12_ways 112 = .ok (.invokestatic 397, 3) := by decide +kernel
theorem dX12_ways_115 : decode cX12_ways 115 = .ok (.ifCond .eq 33, 3) := by decide +kernel
theorem dX12_ways_118 : decode cX12_ways 118 = .ok (.aload_n 0, 1) := by decide +kernel
theorem dX12_ways_119 : decode cX12_ways 119 = .ok (.iload_n 1, 1) := by decide +kernel
theorem dX12_ways_120 : decode cX12_ways 120 = .ok (.iload 5, 2) := by decide +kernel
theorem dX12_ways_122 : decode cX12_ways 122 = .ok (.invokevirtual 421, 3) := by decide +kernel
theorem dX12_ways_125 : decode cX12_ways 125 = .ok (.iload_n 3, 1) := by decide +kernel
theorem dX12_ways_126 : decode cX12_ways 126 = .ok (.iconst 1, 1) := by decide +kernel
theorem dX12_ways_127 : decode cX12_ways 127 = .ok (.isub, 1) := by decide +kernel
theorem dX12_ways_128 : decode cX12_ways 128 = .ok (.if_icmp .ne 20, 3) := by decide +kernel
theorem dX12_ways_131 : decode cX12_ways 131 = .ok (.aload_n 0, 1) := by decide +kernel
theorem dX12_ways_132 : decode cX12_ways 132 = .ok (.getfield 116, 3) := by decide +kernel
theorem dX12_ways_135 : decode cX12_ways 135 = .ok (.iload 4, 2) := by decide +kernel
theorem dX12_ways_137 : decode cX12_ways 137 = .ok (.dup2, 1) := by decide +kernel
theorem dX12_ways_138 : decode cX12_ways 138 = .ok (.iaload, 1) := by decide +kernel
theorem dX12_ways_139 : decode cX12_ways 139 = .ok (.aload_n 0, 1) := by decide +kernel
theorem dX12_ways_140 : decode cX12_ways 140 = .ok (.getfield 116, 3) := by decide +kernel
theorem dX12_ways_143 : decode cX12_ways 143 = .ok (.iload 5, 2) := by decide +kernel
theorem dX12_ways_145 : decode cX12_ways 145 = .ok (.iaload, 1) := by decide +kernel
theorem dX12_ways_146 : decode cX12_ways 146 = .ok (.iadd, 1) := by decide +kernel
theorem dX12_ways_147 : decode cX12_ways 147 = .ok (.iastore, 1) := by decide +kernel
theorem dX12_ways_148 : decode cX12_ways 148 = .ok (.iinc 5 1, 3) := by decide +kernel
theorem dX12_ways_151 : decode cX12_ways 151 = .ok (.goto (-57), 3) := by decide +kernel
theorem dX12_ways_154 : decode cX12_ways 154 = .ok (.iinc 4 1, 3) := by decide +kernel
theorem dX12_ways_157 : decode cX12_ways 157 = .ok (.goto (-89), 3) := by decide +kernel
theorem dX12_ways_160 : decode cX12_ways 160 = .ok (.iinc 3 1, 3) := by decide +kernel
theorem dX12_ways_163 : decode cX12_ways 163 = .ok (.goto (-108), 3) := by decide +kernel
theorem dX12_ways_166 : decode cX12_ways 166 = .ok (.aload_n 0, 1) := by decide +kernel
theorem dX12_ways_167 : decode cX12_ways 167 = .ok (.getfield 116, 3) := by decide +kernel
theorem dX12_ways_170 : decode cX12_ways 170 = .ok (.iload_n 2, 1) := by decide +kernel
theorem dX12_ways_171 : decode cX12_ways 171 = .ok (.iaload, 1) := by decide +kernel
theorem dX12_ways_172 : decode cX12_ways 172 = .ok (.ireturn, 1) := by decide +kernel
theorem dX12_pieces_0 : decode cX12_pieces 0 = .ok (.iconst 1, 1) := by decide +kernel
theorem dX12_pieces_1 : decode cX12_pieces 1 = .ok (.aload_n 0, 1) := by decide +kernel
theorem dX12_pieces_2 : decode cX12_pieces 2 = .ok (.invokevirtual 378, 3) := by decide +kernel
theorem dX12_pieces_5 : decode cX12_pieces 5 = .ok (.ishl, 1) := by decide +kernel
theorem dX12_pieces_6 : decode cX12_pieces 6 = .ok (.iconst 1, 1) := by decide +kernel
theorem dX12_pieces_7 : decode cX12_pieces 7 = .ok (.isub, 1) := by decide +kernel
theorem dX12_pieces_8 : decode cX12_pieces 8 = .ok (.istore_n 1, 1) := by decide +kernel
theorem dX12_pieces_9 : decode cX12_pieces 9 = .ok (.iconst 0, 1) := by decide +kernel
theorem dX12_pieces_10 : decode cX12_pieces 10 = .ok (.istore_n 2, 1) := by decide +kernel
theorem dX12_pieces_11 : decode cX12_pieces 11 = .ok (.iconst 0, 1) := by decide +kernel
theorem dX12_pieces_12 : decode cX12_pieces 12 = .ok (.istore_n 3, 1) := by decide +kernel
theorem dX12_pieces_13 : decode cX12_pieces 13 = .ok (.iload_n 3, 1) := by decide +kernel
theorem dX12_pieces_14 : decode cX12_pieces 14 = .ok (.aload_n 0, 1) := by decide +kernel
theorem dX12_pieces_15 : decode cX12_pieces 15 = .ok (.invokevirtual 378, 3) := by decide +kernel
theorem dX12_pieces_18 : decode cX12_pieces 18 = .ok (.if_icmp .ge 34, 3) := by decide +kernel
theorem dX12_pieces_21 : decode cX12_pieces 21 = .ok (.iload_n 1, 1) := by decide +kernel
theorem dX12_pieces_22 : decode cX12_pieces 22 = .ok (.iload_n 3, 1) := by decide +kernel
theorem dX12_pieces_23 : decode cX12_pieces 23 = .ok (.invokestatic 397, 3) := by decide +kernel
theorem dX12_pieces_26 : decode cX12_pieces 26 = .ok (.ifCond .ne 6, 3) := by decide +kernel
theorem dX12_pieces_29 : decode cX12_pieces 29 = .ok (.goto 17, 3) := by decide +kernel
theorem dX12_pieces_32 : decode cX12_pieces 32 = .ok (.iload_n 1, 1) := by decide +kernel
theorem dX12_pieces_33 : decode cX12_pieces 33 = .ok (.aload_n 0, 1) := by decide +kernel
theorem dX12_pieces_34 : decode cX12_pieces 34 = .ok (.iload_n 3, 1) := by decide +kernel
theorem dX12_pieces_35 : decode cX12_pieces 35 = .ok (.iconst (-1), 1) := by decide +kernel
theorem dX12_pieces_36 : decode cX12_pieces 36 = .ok (.invokevirtual 403, 3) := by decide +kernel
theorem dX12_pieces_39 : decode cX12_pieces 39 = .ok (.iconst (-1), 1) := by decide +kernel
theorem dX12_pieces_40 : decode cX12_pieces 40 = .ok (.ixor, 1) := by decide +kernel
theorem dX12_pieces_41 : decode cX12_pieces 41 = .ok (.iand, 1) := by decide +kernel
theorem dX12_pieces_42 : decode cX12_pieces 42 = .ok (.istore_n 1, 1) := by decide +kernel
theorem dX12_pieces_43 : decode cX12_pieces 43 = .ok (.iinc 2 1, 3) := by decide +kernel
theorem dX12_pieces_46 : decode cX12_pieces 46 = .ok (.iinc 3 1, 3) := by decide +kernel
theorem dX12_pieces_49 : decode cX12_pieces 49 = .ok (.goto (-36), 3) := by decide +kernel
theorem dX12_pieces_52 : decode cX12_pieces 52 = .ok (.iload_n 2, 1) := by decide +kernel
theorem dX12_pieces_53 : decode cX12_pieces 53 = .ok (.ireturn, 1) := by decide +kernel
theorem dX12_parts_0 : decode cX12_parts 0 = .ok (.iconst 0, 1) := by decide +kernel
theorem dX12_parts_1 : decode cX12_parts 1 = .ok (.istore_n 1, 1) := by decide +kernel
theorem dX12_parts_2 : decode cX12_parts 2 = .ok (.iconst 0, 1) := by decide +kernel
theorem dX12_parts_3 : decode cX12_parts 3 = .ok (.istore_n 2, 1) := by decide +kernel
theorem dX12_parts_4 : decode cX12_parts 4 = .ok (.iload_n 2, 1) := by decide +kernel
theorem dX12_parts_5 : decode cX12_parts 5 = .ok (.aload_n 0, 1) := by decide +kernel
theorem dX12_parts_6 : decode cX12_parts 6 = .ok (.getfield 24, 3) := by decide +kernel
theorem dX12_parts_9 : decode cX12_parts 9 = .ok (.aload_n 0, 1) := by decide +kernel
theorem dX12_parts_10 : decode cX12_parts 10 = .ok (.getfield 280, 3) := by decide +kernel
theorem dX12_parts_13 : decode cX12_parts 13 = .ok (.iaload, 1) := by decide +kernel
theorem dX12_parts_14 : decode cX12_parts 14 = .ok (.if_icmp .ge 23, 3) := by decide +kernel
theorem dX12_parts_17 : decode cX12_parts 17 = .ok (.aload_n 0, 1) := by decide +kernel
theorem dX12_parts_18 : decode cX12_parts 18 = .ok (.iload_n 2, 1) := by decide +kernel
theorem dX12_parts_19 : decode cX12_parts 19 = .ok (.invokevirtual 442, 3) := by decide +kernel
theorem dX12_parts_22 : decode cX12_parts 22 = .ok (.ifCond .eq 9, 3) := by decide +kernel
theorem dX12_parts_25 : decode cX12_parts 25 = .ok (.iload_n 1, 1) := by decide +kernel
theorem dX12_parts_26 : decode cX12_parts 26 = .ok (.iconst 1, 1) := by decide +kernel
theorem dX12_parts_27 : decode cX12_parts 27 = .ok (.iload_n 2, 1) := by decide +kernel
theorem dX12_parts_28 : decode cX12_parts 28 = .ok (.ishl, 1) := by decide +kernel
theorem dX12_parts_29 : decode cX12_parts 29 = .ok (.ior, 1) := by decide +kernel
theorem dX12_parts_30 : decode cX12_parts 30 = .ok (.istore_n 1, 1) := by decide +kernel
theorem dX12_parts_31 : decode cX12_parts 31 = .ok (.iinc 2 1, 3) := by decide +kernel
theorem dX12_parts_34 : decode cX12_parts 34 = .ok (.goto (-30), 3) := by decide +kernel
theorem dX12_parts_37 : decode cX12_parts 37 = .ok (.iload_n 1, 1) := by decide +kernel
theorem dX12_parts_38 : decode cX12_parts 38 = .ok (.ireturn, 1) := by decide +kernel
theorem dX12_layHunts_0 : decode cX12_layHunts 0 = .ok (.iconst 1, 1) := by decide +kernel
theorem dX12_layHunts_1 : decode cX12_layHunts 1 = .ok (.istore_n 1, 1) := by decide +kernel
theorem dX12_layHunts_2 : decode cX12_layHunts 2 = .ok (.iload_n 1, 1) := by decide +kernel
theorem dX12_layHunts_3 : decode cX12_layHunts 3 = .ok (.iconst 1, 1) := by decide +kernel
theorem dX12_layHunts_4 : decode cX12_layHunts 4 = .ok (.aload_n 0, 1) := by decide +kernel
theorem dX12_layHunts_5 : decode cX12_layHunts 5 = .ok (.invokevirtual 378, 3) := by decide +kernel
theorem dX12_layHunts_8 : decode cX12_layHunts 8 = .ok (.ishl, 1) := by decide +kernel
theorem dX12_layHunts_9 : decode cX12_layHunts 9 = .ok (.if_icmp .ge 168, 3) := by decide +kernel
theorem dX12_layHunts_12 : decode cX12_layHunts 12 = .ok (.aload_n 0, 1) := by decide +kernel
theorem dX12_layHunts_13 : decode cX12_layHunts 13 = .ok (.getfield 122, 3) := by decide +kernel
theorem dX12_layHunts_16 : decode cX12_layHunts 16 = .ok (.iload_n 1, 1) := by decide +kernel
theorem dX12_layHunts_17 : decode cX12_layHunts 17 = .ok (.iload_n 1, 1) := by decide +kernel
theorem dX12_layHunts_18 : decode cX12_layHunts 18 = .ok (.invokestatic 469, 3) := by decide +kernel
theorem dX12_layHunts_21 : decode cX12_layHunts 21 = .ok (.iconst 1, 1) := by decide +kernel
theorem dX12_layHunts_22 : decode cX12_layHunts 22 = .ok (.if_icmp .ne 7, 3) := by decide +kernel
theorem dX12_layHunts_25 : decode cX12_layHunts 25 = .ok (.iconst 0, 1) := by decide +kernel
theorem dX12_layHunts_26 : decode cX12_layHunts 26 = .ok (.goto 6, 3) := by decide +kernel
theorem dX12_layHunts_29 : decode cX12_layHunts 29 = .ok (.sipush 10000, 3) := by decide +kernel
theorem dX12_layHunts_32 : decode cX12_layHunts 32 = .ok (.iastore, 1) := by decide +kernel
theorem dX12_layHunts_33 : decode cX12_layHunts 33 = .ok (.aload_n 0, 1) := by decide +kernel
theorem dX12_layHunts_34 : decode cX12_layHunts 34 = .ok (.getfield 125, 3) := by decide +kernel
theorem dX12_layHunts_37 : decode cX12_layHunts 37 = .ok (.iload_n 1, 1) := by decide +kernel
theorem dX12_layHunts_38 : decode cX12_layHunts 38 = .ok (.iconst (-1), 1) := by decide +kernel
theorem dX12_layHunts_39 : decode cX12_layHunts 39 = .ok (.iastore, 1) := by decide +kernel
theorem dX12_layHunts_40 : decode cX12_layHunts 40 = .ok (.iconst 0, 1) := by decide +kernel
theorem dX12_layHunts_41 : decode cX12_layHunts 41 = .ok (.istore_n 2, 1) := by decide +kernel
theorem dX12_layHunts_42 : decode cX12_layHunts 42 = .ok (.iload_n 2, 1) := by decide +kernel
theorem dX12_layHunts_43 : decode cX12_layHunts 43 = .ok (.aload_n 0, 1) := by decide +kernel
theorem dX12_layHunts_44 : decode cX12_layHunts 44 = .ok (.getfield 24, 3) := by decide +kernel
theorem dX12_layHunts_47 : decode cX12_layHunts 47 = .ok (.aload_n 0, 1) := by decide +kernel
theorem dX12_layHunts_48 : decode cX12_layHunts 48 = .ok (.getfield 280, 3) := by decide +kernel
theorem dX12_layHunts_51 : decode cX12_layHunts 51 = .ok (.iaload, 1) := by decide +kernel
theorem dX12_layHunts_52 : decode cX12_layHunts 52 = .ok (.if_icmp .ge 119, 3) := by decide +kernel
theorem dX12_layHunts_55 : decode cX12_layHunts 55 = .ok (.iload_n 1, 1) := by decide +kernel
theorem dX12_layHunts_56 : decode cX12_layHunts 56 = .ok (.invokestatic 469, 3) := by decide +kernel
theorem dX12_layHunts_59 : decode cX12_layHunts 59 = .ok (.iconst 1, 1) := by decide +kernel
theorem dX12_layHunts_60 : decode cX12_layHunts 60 = .ok (.if_icmp .le 111, 3) := by decide +kernel
theorem dX12_layHunts_63 : decode cX12_layHunts 63 = .ok (.iload_n 1, 1) := by decide +kernel
theorem dX12_layHunts_64 : decode cX12_layHunts 64 = .ok (.aload_n 0, 1) := by decide +kernel
theorem dX12_layHunts_65 : decode cX12_layHunts 65 = .ok (.getfield 101, 3) := by decide +kernel
theorem dX12_layHunts_68 : decode cX12_layHunts 68 = .ok (.iload_n 2, 1) := by decide +kernel
theorem dX12_layHunts_69 : decode cX12_layHunts 69 = .ok (.iaload, 1) := by decide +kernel
theorem dX12_layHunts_70 : decode cX12_layHunts 70 = .ok (.iand, 1) := by decide +kernel
theorem dX12_layHunts_71 : decode cX12_layHunts 71 = .ok (.istore_n 3, 1) := by decide +kernel
theorem dX12_layHunts_72 : decode cX12_layHunts 72 = .ok (.aload_n 0, 1) := by decide +kernel
theorem dX12_layHunts_73 : decode cX12_layHunts 73 = .ok (.iload_n 2, 1) := by decide +kernel
theorem dX12_layHunts_74 : decode cX12_layHunts 74 = .ok (.invokevirtual 442, 3) := by decide +kernel
theorem dX12_layHunts_77 : decode cX12_layHunts 77 = .ok (.ifCond .eq 88, 3) := by decide +kernel
theorem dX12_layHunts_80 : decode cX12_layHunts 80 = .ok (.iload_n 3, 1) := by decide +kernel
theorem dX12_layHunts_81 : decode cX12_layHunts 81 = .ok (.ifCond .eq 84, 3) := by decide +kernel
theorem dX12_layHunts_84 : decode cX12_layHunts 84 = .ok (.iload_n 3, 1) := by decide +kernel
theorem dX12_layHunts_85 : decode cX12_layHunts 85 = .ok (.iload_n 1, 1) := by decide +kernel
theorem dX12_layHunts_86 : decode cX12_layHunts 86 = .ok (.if_icmp .ne 6, 3) := by decide +kernel
theorem dX12_layHunts_89 : decode cX12_layHunts 89 = .ok (.goto 76, 3) := by decide +kernel
theorem dX12_layHunts_92 : decode cX12_layHunts 92 = .ok (.aload_n 0, 1) := by decide +kernel
theorem dX12_layHunts_93 : decode cX12_layHunts 93 = .ok (.getfield 122, 3) := by decide +kernel
theorem dX12_layHunts_96 : decode cX12_layHunts 96 = .ok (.iload_n 3, 1) := by decide +kernel
theorem dX12_layHunts_97 : decode cX12_layHunts 97 = .ok (.iaload, 1) := by decide +kernel
theorem dX12_layHunts_98 : decode cX12_layHunts 98 = .ok (.aload_n 0, 1) := by decide +kernel
theorem dX12_layHunts_99 : decode cX12_layHunts 99 = .ok (.getfield 122, 3) := by decide +kernel
theorem dX12_layHunts_102 : decode cX12_layHunts 102 = .ok (.iload_n 1, 1) := by decide +kernel
theorem dX12_layHunts_103 : decode cX12_layHunts 103 = .ok (.iload_n 3, 1) := by decide +kernel
theorem dX12_layHunts_104 : decode cX12_layHunts 104 = .ok (.iconst (-1), 1) := by decide +kernel
theorem dX12_layHunts_105 : decode cX12_layHunts 105 = .ok (.ixor, 1) := by decide +kernel
theorem dX12_layHunts_106 : decode cX12_layHunts 106 = .ok (.iand, 1) := by decide +kernel
theorem dX12_layHunts_107 : decode cX12_layHunts 107 = .ok (.iaload, 1) := by decide +kernel
theorem dX12_layHunts_108 : decode cX12_layHunts 108 = .ok (.if_icmp .le 12, 3) := by decide +kernel
theorem dX12_layHunts_111 : decode cX12_layHunts 111 = .ok (.aload_n 0, 1) := by decide +kernel
theorem dX12_layHunts_112 : decode cX12_layHunts 112 = .ok (.getfield 122, 3) := by decide +kernel
theorem dX12_layHunts_115 : decode cX12_layHunts 115 = .ok (.iload_n 3, 1) := by decide +kernel
theorem dX12_layHunts_116 : decode cX12_layHunts 116 = .ok (.iaload, 1) := by decide +kernel
theorem dX12_layHunts_117 : decode cX12_layHunts 117 = .ok (.goto 13, 3) := by decide +kernel
theorem dX12_layHunts_120 : decode cX12_layHunts 120 = .ok (.aload_n 0, 1) := by decide +kernel
theorem dX12_layHunts_121 : decode cX12_layHunts 121 = .ok (.getfield 122, 3) := by decide +kernel
theorem dX12_layHunts_124 : decode cX12_layHunts 124 = .ok (.iload_n 1, 1) := by decide +kernel
theorem dX12_layHunts_125 : decode cX12_layHunts 125 = .ok (.iload_n 3, 1) := by decide +kernel
theorem dX12_layHunts_126 : decode cX12_layHunts 126 = .ok (.iconst (-1), 1) := by decide +kernel
theorem dX12_layHunts_127 : decode cX12_layHunts 127 = .ok (.ixor, 1) := by decide +kernel
theorem dX12_layHunts_128 : decode cX12_layHunts 128 = .ok (.iand, 1) := by decide +kernel
theorem dX12_layHunts_129 : decode cX12_layHunts 129 = .ok (.iaload, 1) := by decide +kernel
theorem dX12_layHunts_130 : decode cX12_layHunts 130 = .ok (.istore 4, 2) := by decide +kernel
theorem dX12_layHunts_132 : decode cX12_layHunts 132 = .ok (.iload 4, 2) := by decide +kernel
theorem dX12_layHunts_134 : decode cX12_layHunts 134 = .ok (.iconst 1, 1) := by decide +kernel
theorem dX12_layHunts_135 : decode cX12_layHunts 135 = .ok (.iadd, 1) := by decide +kernel
theorem dX12_layHunts_136 : decode cX12_layHunts 136 = .ok (.aload_n 0, 1) := by decide +kernel
theorem dX12_layHunts_137 : decode cX12_layHunts 137 = .ok (.getfield 122, 3) := by decide +kernel
theorem dX12_layHunts_140 : decode cX12_layHunts 140 = .ok (.iload_n 1, 1) := by decide +kernel
theorem dX12_layHunts_141 : decode cX12_layHunts 141 = .ok (.iaload, 1) := by decide +kernel
theorem dX12_layHunts_142 : decode cX12_layHunts 142 = .ok (.if_icmp .lt 6, 3) := by decide +kernel
theorem dX12_layHunts_145 : decode cX12_layHunts 145 = .ok (.goto 20, 3) := by decide +kernel
theorem dX12_layHunts_148 : decode cX12_layHunts 148 = .ok (.aload_n 0, 1) := by decide +kernel
theorem dX12_layHunts_149 : decode cX12_layHunts 149 = .ok (.getfield 122, 3) := by decide +kernel
theorem dX12_layHunts_152 : decode cX12_layHunts 152 = .ok (.iload_n 1, 1) := by decide +kernel
theorem dX12_layHunts_153 : decode cX12_layHunts 153 = .ok (.iload 4, 2) := by decide +kernel
theorem dX12_layHunts_155 : decode cX12_layHunts 155 = .ok (.iconst 1, 1) := by decide +kernel
theorem dX12_layHunts_156 : decode cX12_layHunts 156 = .ok (.iadd, 1) := by decide +kernel
theorem dX12_layHunts_157 : decode cX12_layHunts 157 = .ok (.iastore, 1) := by decide +kernel
theorem dX12_layHunts_158 : decode cX12_layHunts 158 = .ok (.aload_n 0, 1) := by decide +kernel
theorem dX12_layHunts_159 : decode cX12_layHunts 159 = .ok (.getfield 125, 3) := by decide +kernel
theorem dX12_layHunts_162 : decode cX12_layHunts 162 = .ok (.iload_n 1, 1) := by decide +kernel
theorem dX12_layHunts_163 : decode cX12_layHunts 163 = .ok (.iload_n 2, 1) := by decide +kernel
theorem dX12_layHunts_164 : decode cX12_layHunts 164 = .ok (.iastore, 1) := by decide +kernel
theorem dX12_layHunts_165 : decode cX12_layHunts 165 = .ok (.iinc 2 1, 3) := by decide +kernel
theorem dX12_layHunts_168 : decode cX12_layHunts 168 = .ok (.goto (-126), 3) := by decide +kernel
theorem dX12_layHunts_171 : decode cX12_layHunts 171 = .ok (.iinc 1 1, 3) := by decide +kernel
theorem dX12_layHunts_174 : decode cX12_layHunts 174 = .ok (.goto (-172), 3) := by decide +kernel
theorem dX12_layHunts_177 : decode cX12_layHunts 177 = .ok (.return_, 1) := by decide +kernel
theorem dX12_hunt_0 : decode cX12_hunt 0 = .ok (.aload_n 0, 1) := by decide +kernel
theorem dX12_hunt_1 : decode cX12_hunt 1 = .ok (.iload_n 1, 1) := by decide +kernel
theorem dX12_hunt_2 : decode cX12_hunt 2 = .ok (.invokevirtual 472, 3) := by decide +kernel
theorem dX12_hunt_5 : decode cX12_hunt 5 = .ok (.ifCond .eq 7, 3) := by decide +kernel
theorem dX12_hunt_8 : decode cX12_hunt 8 = .ok (.iload_n 1, 1) := by decide +kernel
theorem dX12_hunt_9 : decode cX12_hunt 9 = .ok (.ifCond .ne 5, 3) := by decide +kernel
theorem dX12_hunt_12 : decode cX12_hunt 12 = .ok (.iconst (-1), 1) := by decide +kernel
theorem dX12_hunt_13 : decode cX12_hunt 13 = .ok (.ireturn, 1) := by decide +kernel
theorem dX12_hunt_14 : decode cX12_hunt 14 = .ok (.aload_n 0, 1) := by decide +kernel
theorem dX12_hunt_15 : decode cX12_hunt 15 = .ok (.invokevirtual 475, 3) := by decide +kernel
theorem dX12_hunt_18 : decode cX12_hunt 18 = .ok (.aload_n 0, 1) := by decide +kernel
theorem dX12_hunt_19 : decode cX12_hunt 19 = .ok (.getfield 122, 3) := by decide +kernel
theorem dX12_hunt_22 : decode cX12_hunt 22 = .ok (.iload_n 1, 1) := by decide +kernel
theorem dX12_hunt_23 : decode cX12_hunt 23 = .ok (.iaload, 1) := by decide +kernel
theorem dX12_hunt_24 : decode cX12_hunt 24 = .ok (.sipush 10000, 3) := by decide +kernel
theorem dX12_hunt_27 : decode cX12_hunt 27 = .ok (.if_icmp .lt 7, 3) := by decide +kernel
theorem dX12_hunt_30 : decode cX12_hunt 30 = .ok (.iconst (-1), 1) := by decide +kernel
theorem dX12_hunt_31 : decode cX12_hunt 31 = .ok (.goto 9, 3) := by decide +kernel
theorem dX12_hunt_34 : decode cX12_hunt 34 = .ok (.aload_n 0, 1) := by decide +kernel
theorem dX12_hunt_35 : decode cX12_hunt 35 = .ok (.getfield 122, 3) := by decide +kernel
theorem dX12_hunt_38 : decode cX12_hunt 38 = .ok (.iload_n 1, 1) := by decide +kernel
theorem dX12_hunt_39 : decode cX12_hunt 39 = .ok (.iaload, 1) := by decide +kernel
theorem dX12_hunt_40 : decode cX12_hunt 40 = .ok (.ireturn, 1) := by decide +kernel
theorem dX12_first_0 : decode cX12_first 0 = .ok (.aload_n 0, 1) := by decide +kernel
theorem dX12_first_1 : decode cX12_first 1 = .ok (.iload_n 1, 1) := by decide +kernel
theorem dX12_first_2 : decode cX12_first 2 = .ok (.invokevirtual 472, 3) := by decide +kernel
theorem dX12_first_5 : decode cX12_first 5 = .ok (.ifCond .eq 7, 3) := by decide +kernel
theorem dX12_first_8 : decode cX12_first 8 = .ok (.iload_n 1, 1) := by decide +kernel
theorem dX12_first_9 : decode cX12_first 9 = .ok (.ifCond .ne 5, 3) := by decide +kernel
theorem dX12_first_12 : decode cX12_first 12 = .ok (.iconst (-1), 1) := by decide +kernel
theorem dX12_first_13 : decode cX12_first 13 = .ok (.ireturn, 1) := by decide +kernel
theorem dX12_first_14 : decode cX12_first 14 = .ok (.aload_n 0, 1) := by decide +kernel
theorem dX12_first_15 : decode cX12_first 15 = .ok (.invokevirtual 475, 3) := by decide +kernel
theorem dX12_first_18 : decode cX12_first 18 = .ok (.aload_n 0, 1) := by decide +kernel
theorem dX12_first_19 : decode cX12_first 19 = .ok (.getfield 122, 3) := by decide +kernel
theorem dX12_first_22 : decode cX12_first 22 = .ok (.iload_n 1, 1) := by decide +kernel
theorem dX12_first_23 : decode cX12_first 23 = .ok (.iaload, 1) := by decide +kernel
theorem dX12_first_24 : decode cX12_first 24 = .ok (.sipush 10000, 3) := by decide +kernel
theorem dX12_first_27 : decode cX12_first 27 = .ok (.if_icmp .lt 7, 3) := by decide +kernel
theorem dX12_first_30 : decode cX12_first 30 = .ok (.iconst (-1), 1) := by decide +kernel
theorem dX12_first_31 : decode cX12_first 31 = .ok (.goto 9, 3) := by decide +kernel
theorem dX12_first_34 : decode cX12_first 34 = .ok (.aload_n 0, 1) := by decide +kernel
theorem dX12_first_35 : decode cX12_first 35 = .ok (.getfield 125, 3) := by decide +kernel
theorem dX12_first_38 : decode cX12_first 38 = .ok (.iload_n 1, 1) := by decide +kernel
theorem dX12_first_39 : decode cX12_first 39 = .ok (.iaload, 1) := by decide +kernel
theorem dX12_first_40 : decode cX12_first 40 = .ok (.ireturn, 1) := by decide +kernel
theorem dX12_meet_0 : decode cX12_meet 0 = .ok (.aload_n 0, 1) := by decide +kernel
theorem dX12_meet_1 : decode cX12_meet 1 = .ok (.iload_n 1, 1) := by decide +kernel
theorem dX12_meet_2 : decode cX12_meet 2 = .ok (.iload_n 2, 1) := by decide +kernel
theorem dX12_meet_3 : decode cX12_meet 3 = .ok (.invokevirtual 445, 3) := by decide +kernel
theorem dX12_meet_6 : decode cX12_meet 6 = .ok (.ifCond .eq 12, 3) := by decide +kernel
theorem dX12_meet_9 : decode cX12_meet 9 = .ok (.iload_n 3, 1) := by decide +kernel
theorem dX12_meet_10 : decode cX12_meet 10 = .ok (.iconst 0, 1) := by decide +kernel
theorem dX12_meet_11 : decode cX12_meet 11 = .ok (.iconst 1, 1) := by decide +kernel
theorem dX12_meet_12 : decode cX12_meet 12 = .ok (.invokestatic 381, 3) := by decide +kernel
theorem dX12_meet_15 : decode cX12_meet 15 = .ok (.ifCond .ne 5, 3) := by decide +kernel
theorem dX12_meet_18 : decode cX12_meet 18 = .ok (.iconst (-1), 1) := by decide +kernel
theorem dX12_meet_19 : decode cX12_meet 19 = .ok (.ireturn, 1) := by decide +kernel
theorem dX12_meet_20 : decode cX12_meet 20 = .ok (.iconst (-1), 1) := by decide +kernel
theorem dX12_meet_21 : decode cX12_meet 21 = .ok (.istore 4, 2) := by decide +kernel
theorem dX12_meet_23 : decode cX12_meet 23 = .ok (.sipush 10000, 3) := by decide +kernel
theorem dX12_meet_26 : decode cX12_meet 26 = .ok (.istore 5, 2) := by decide +kernel
theorem dX12_meet_28 : decode cX12_meet 28 = .ok (.iconst 0, 1) := by decide +kernel
theorem dX12_meet_29 : decode cX12_meet 29 = .ok (.istore 6, 2) := by decide +kernel
theorem dX12_meet_31 : decode cX12_meet 31 = .ok (.iload 6, 2) := by decide +kernel
theorem dX12_meet_33 : decode cX12_meet 33 = .ok (.aload_n 0, 1) := by decide +kernel
theorem dX12_meet_34 : decode cX12_meet 34 = .ok (.invokevirtual 378, 3) := by decide +kernel
theorem dX12_meet_37 : decode cX12_meet 37 = .ok (.if_icmp .ge 63, 3) := by decide +kernel
theorem dX12_meet_40 : decode cX12_meet 40 = .ok (.aload_n 0, 1) := by decide +kernel
theorem dX12_meet_41 : decode cX12_meet 41 = .ok (.iload_n 1, 1) := by decide +kernel
theorem dX12_meet_42 : decode cX12_meet 42 = .ok (.iload 6, 2) := by decide +kernel
theorem dX12_meet_44 : decode cX12_meet 44 = .ok (.invokevirtual 421, 3) := by decide +kernel
theorem dX12_meet_47 : decode cX12_meet 47 = .ok (.aload_n 0, 1) := by decide +kernel
theorem dX12_meet_48 : decode cX12_meet 48 = .ok (.iload_n 2, 1) := by decide +kernel
theorem dX12_meet_49 : decode cX12_meet 49 = .ok (.iload 6, 2) := by decide +kernel
theorem dX12_meet_51 : decode cX12_meet 51 = .ok (.invokevirtual 421, 3) := by decide +kernel
theorem dX12_meet_54 : decode cX12_meet 54 = .ok (.if_icmp .le 13, 3) := by decide +kernel
theorem dX12_meet_57 : decode cX12_meet 57 = .ok (.aload_n 0, 1) := by decide +kernel
theorem dX12_meet_58 : decode cX12_meet 58 = .ok (.iload_n 1, 1) := by decide +kernel
theorem dX12_meet_59 : decode cX12_meet 59 = .ok (.iload 6, 2) := by decide +kernel
theorem dX12_meet_61 : decode cX12_meet 61 = .ok (.invokevirtual 421, 3) := by decide +kernel
theorem dX12_meet_64 : decode cX12_meet 64 = .ok (.goto 10, 3) := by decide +kernel
theorem dX12_meet_67 : decode cX12_meet 67 = .ok (.aload_n 0, 1) := by decide +kernel
theorem dX12_meet_68 : decode cX12_meet 68 = .ok (.iload_n 2, 1) := by decide +kernel
theorem dX12_meet_69 : decode cX12_meet 69 = .ok (.iload 6, 2) := by decide +kernel
theorem dX12_meet_71 : decode cX12_meet 71 = .ok (.invokevirtual 421, 3) := by decide +kernel
theorem dX12_meet_74 : decode cX12_meet 74 = .ok (.istore 7, 2) := by decide +kernel
theorem dX12_meet_76 : decode cX12_meet 76 = .ok (.iload 7, 2) := by decide +kernel
theorem dX12_meet_78 : decode cX12_meet 78 = .ok (.iload 5, 2) := by decide +kernel
theorem dX12_meet_80 : decode cX12_meet 80 = .ok (.if_icmp .lt 6, 3) := by decide +kernel
theorem dX12_meet_83 : decode cX12_meet 83 = .ok (.goto 11, 3) := by decide +kernel
theorem dX12_meet_86 : decode cX12_meet 86 = .ok (.iload 6, 2) := by decide +kernel
theorem dX12_meet_88 : decode cX12_meet 88 = .ok (.istore 4, 2) := by decide +kernel
theorem dX12_meet_90 : decode cX12_meet 90 = .ok (.iload 7, 2) := by decide +kernel
theorem dX12_meet_92 : decode cX12_meet 92 = .ok (.istore 5, 2) := by decide +kernel
theorem dX12_meet_94 : decode cX12_meet 94 = .ok (.iinc 6 1, 3) := by decide +kernel
theorem dX12_meet_97 : decode cX12_meet 97 = .ok (.goto (-66), 3) := by decide +kernel
theorem dX12_meet_100 : decode cX12_meet 100 = .ok (.iload 4, 2) := by decide +kernel
theorem dX12_meet_102 : decode cX12_meet 102 = .ok (.ifCond .ge 7, 3) := by decide +kernel
theorem dX12_meet_105 : decode cX12_meet 105 = .ok (.iconst (-1), 1) := by decide +kernel
theorem dX12_meet_106 : decode cX12_meet 106 = .ok (.goto 14, 3) := by decide +kernel
theorem dX12_meet_109 : decode cX12_meet 109 = .ok (.iload_n 3, 1) := by decide +kernel
theorem dX12_meet_110 : decode cX12_meet 110 = .ok (.ifCond .ne 8, 3) := by decide +kernel
theorem dX12_meet_113 : decode cX12_meet 113 = .ok (.iload 5, 2) := by decide +kernel
theorem dX12_meet_115 : decode cX12_meet 115 = .ok (.goto 5, 3) := by decide +kernel
theorem dX12_meet_118 : decode cX12_meet 118 = .ok (.iload 4, 2) := by decide +kernel
theorem dX12_meet_120 : decode cX12_meet 120 = .ok (.ireturn, 1) := by decide +kernel
theorem dX12_barOf_0 : decode cX12_barOf 0 = .ok (.aload_n 0, 1) := by decide +kernel
theorem dX12_barOf_1 : decode cX12_barOf 1 = .ok (.invokevirtual 463, 3) := by decide +kernel
theorem dX12_barOf_4 : decode cX12_barOf 4 = .ok (.iconst (-1), 1) := by decide +kernel
theorem dX12_barOf_5 : decode cX12_barOf 5 = .ok (.istore_n 3, 1) := by decide +kernel
theorem dX12_barOf_6 : decode cX12_barOf 6 = .ok (.iconst 1, 1) := by decide +kernel
theorem dX12_barOf_7 : decode cX12_barOf 7 = .ok (.iload_n 1, 1) := by decide +kernel
theorem dX12_barOf_8 : decode cX12_barOf 8 = .ok (.ishl, 1) := by decide +kernel
theorem dX12_barOf_9 : decode cX12_barOf 9 = .ok (.iconst 1, 1) := by decide +kernel
theorem dX12_barOf_10 : decode cX12_barOf 10 = .ok (.iload_n 2, 1) := by decide +kernel
theorem dX12_barOf_11 : decode cX12_barOf 11 = .ok (.ishl, 1) := by decide +kernel
theorem dX12_barOf_12 : decode cX12_barOf 12 = .ok (.ior, 1) := by decide +kernel
theorem dX12_barOf_13 : decode cX12_barOf 13 = .ok (.istore 4, 2) := by decide +kernel
theorem dX12_barOf_15 : decode cX12_barOf 15 = .ok (.iconst 0, 1) := by decide +kernel
theorem dX12_barOf_16 : decode cX12_barOf 16 = .ok (.istore 5, 2) := by decide +kernel
theorem dX12_barOf_18 : decode cX12_barOf 18 = .ok (.iload 5, 2) := by decide +kernel
theorem dX12_barOf_20 : decode cX12_barOf 20 = .ok (.iconst 1, 1) := by decide +kernel
theorem dX12_barOf_21 : decode cX12_barOf 21 = .ok (.aload_n 0, 1) := by decide +kernel
theorem dX12_barOf_22 : decode cX12_barOf 22 = .ok (.invokevirtual 378, 3) := by decide +kernel
theorem dX12_barOf_25 : decode cX12_barOf 25 = .ok (.ishl, 1) := by decide +kernel
theorem dX12_barOf_26 : decode cX12_barOf 26 = .ok (.if_icmp .ge 67, 3) := by decide +kernel
theorem dX12_barOf_29 : decode cX12_barOf 29 = .ok (.iload 5, 2) := by decide +kernel
theorem dX12_barOf_31 : decode cX12_barOf 31 = .ok (.iload 4, 2) := by decide +kernel
theorem dX12_barOf_33 : decode cX12_barOf 33 = .ok (.iand, 1) := by decide +kernel
theorem dX12_barOf_34 : decode cX12_barOf 34 = .ok (.ifCond .ne 53, 3) := by decide +kernel
theorem dX12_barOf_37 : decode cX12_barOf 37 = .ok (.iload 5, 2) := by decide +kernel
theorem dX12_barOf_39 : decode cX12_barOf 39 = .ok (.invokestatic 469, 3) := by decide +kernel
theorem dX12_barOf_42 : decode cX12_barOf 42 = .ok (.iconst 3, 1) := by decide +kernel
theorem dX12_barOf_43 : decode cX12_barOf 43 = .ok (.if_icmp .gt 44, 3) := by decide +kernel
theorem dX12_barOf_46 : decode cX12_barOf 46 = .ok (.iload_n 3, 1) := by decide +kernel
theorem dX12_barOf_47 : decode cX12_barOf 47 = .ok (.ifCond .lt 18, 3) := by decide +kernel
theorem dX12_barOf_50 : decode cX12_barOf 50 = .ok (.iload 5, 2) := by decide +kernel
theorem dX12_barOf_52 : decode cX12_barOf 52 = .ok (.invokestatic 469, 3) := by decide +kernel
theorem dX12_barOf_55 : decode cX12_barOf 55 = .ok (.iload_n 3, 1) := by decide +kernel
theorem dX12_barOf_56 : decode cX12_barOf 56 = .ok (.invokestatic 469, 3) := by decide +kernel
theorem dX12_barOf_59 : decode cX12_barOf 59 = .ok (.if_icmp .lt 6, 3) := by decide +kernel
theorem dX12_barOf_62 : decode cX12_barOf 62 = .ok (.goto 25, 3) := by decide +kernel
theorem dX12_barOf_65 : decode cX12_barOf 65 = .ok (.aload_n 0, 1) := by decide +kernel
theorem dX12_barOf_66 : decode cX12_barOf 66 = .ok (.iload_n 2, 1) := by decide +kernel
theorem dX12_barOf_67 : decode cX12_barOf 67 = .ok (.iload 5, 2) := by decide +kernel
theorem dX12_barOf_69 : decode cX12_barOf 69 = .ok (.invokevirtual 460, 3) := by decide +kernel
theorem dX12_barOf_72 : decode cX12_barOf 72 = .ok (.aload_n 0, 1) := by decide +kernel
theorem dX12_barOf_73 : decode cX12_barOf 73 = .ok (.getfield 107, 3) := by decide +kernel
theorem dX12_barOf_76 : decode cX12_barOf 76 = .ok (.iload_n 1, 1) := by decide +kernel
theorem dX12_barOf_77 : decode cX12_barOf 77 = .ok (.iaload, 1) := by decide +kernel
theorem dX12_barOf_78 : decode cX12_barOf 78 = .ok (.sipush 10000, 3) := by decide +kernel
theorem dX12_barOf_81 : decode cX12_barOf 81 = .ok (.if_icmp .lt 6, 3) := by decide +kernel
theorem dX12_barOf_84 : decode cX12_barOf 84 = .ok (.iload 5, 2) := by decide +kernel
theorem dX12_barOf_86 : decode cX12_barOf 86 = .ok (.istore_n 3, 1) := by decide +kernel
theorem dX12_barOf_87 : decode cX12_barOf 87 = .ok (.iinc 5 1, 3) := by decide +kernel
theorem dX12_barOf_90 : decode cX12_barOf 90 = .ok (.goto (-72), 3) := by decide +kernel
theorem dX12_barOf_93 : decode cX12_barOf 93 = .ok (.iload_n 3, 1) := by decide +kernel
theorem dX12_barOf_94 : decode cX12_barOf 94 = .ok (.ireturn, 1) := by decide +kernel
theorem dX12_bar_0 : decode cX12_bar 0 = .ok (.aload_n 0, 1) := by decide +kernel
theorem dX12_bar_1 : decode cX12_bar 1 = .ok (.iload_n 1, 1) := by decide +kernel
theorem dX12_bar_2 : decode cX12_bar 2 = .ok (.iload_n 2, 1) := by decide +kernel
theorem dX12_bar_3 : decode cX12_bar 3 = .ok (.invokevirtual 445, 3) := by decide +kernel
theorem dX12_bar_6 : decode cX12_bar 6 = .ok (.ifCond .eq 17, 3) := by decide +kernel
theorem dX12_bar_9 : decode cX12_bar 9 = .ok (.iload_n 1, 1) := by decide +kernel
theorem dX12_bar_10 : decode cX12_bar 10 = .ok (.iload_n 2, 1) := by decide +kernel
theorem dX12_bar_11 : decode cX12_bar 11 = .ok (.if_icmp .eq 12, 3) := by decide +kernel
theorem dX12_bar_14 : decode cX12_bar 14 = .ok (.iload_n 3, 1) := by decide +kernel
theorem dX12_bar_15 : decode cX12_bar 15 = .ok (.iconst 0, 1) := by decide +kernel
theorem dX12_bar_16 : decode cX12_bar 16 = .ok (.iconst 1, 1) := by decide +kernel
theorem dX12_bar_17 : decode cX12_bar 17 = .ok (.invokestatic 381, 3) := by decide +kernel
theorem dX12_bar_20 : decode cX12_bar 20 = .ok (.ifCond .ne 5, 3) := by decide +kernel
theorem dX12_bar_23 : decode cX12_bar 23 = .ok (.iconst (-1), 1) := by decide +kernel
theorem dX12_bar_24 : decode cX12_bar 24 = .ok (.ireturn, 1) := by decide +kernel
theorem dX12_bar_25 : decode cX12_bar 25 = .ok (.aload_n 0, 1) := by decide +kernel
theorem dX12_bar_26 : decode cX12_bar 26 = .ok (.iload_n 1, 1) := by decide +kernel
theorem dX12_bar_27 : decode cX12_bar 27 = .ok (.iload_n 2, 1) := by decide +kernel
theorem dX12_bar_28 : decode cX12_bar 28 = .ok (.invokevirtual 478, 3) := by decide +kernel
theorem dX12_bar_31 : decode cX12_bar 31 = .ok (.istore 4, 2) := by decide +kernel
theorem dX12_bar_33 : decode cX12_bar 33 = .ok (.iload 4, 2) := by decide +kernel
theorem dX12_bar_35 : decode cX12_bar 35 = .ok (.ifCond .ge 7, 3) := by decide +kernel
theorem dX12_bar_38 : decode cX12_bar 38 = .ok (.iconst (-1), 1) := by decide +kernel
theorem dX12_bar_39 : decode cX12_bar 39 = .ok (.goto 17, 3) := by decide +kernel
theorem dX12_bar_42 : decode cX12_bar 42 = .ok (.iload_n 3, 1) := by decide +kernel
theorem dX12_bar_43 : decode cX12_bar 43 = .ok (.ifCond .ne 11, 3) := by decide +kernel
theorem dX12_bar_46 : decode cX12_bar 46 = .ok (.iload 4, 2) := by decide +kernel
theorem dX12_bar_48 : decode cX12_bar 48 = .ok (.invokestatic 469, 3) := by decide +kernel
theorem dX12_bar_51 : decode cX12_bar 51 = .ok (.goto 5, 3) := by decide +kernel
theorem dX12_bar_54 : decode cX12_bar 54 = .ok (.iload 4, 2) := by decide +kernel
theorem dX12_bar_56 : decode cX12_bar 56 = .ok (.ireturn, 1) := by decide +kernel
theorem dX12_farthest_0 : decode cX12_farthest 0 = .ok (.iconst 0, 1) := by decide +kernel
theorem dX12_farthest_1 : decode cX12_farthest 1 = .ok (.istore_n 2, 1) := by decide +kernel
theorem dX12_farthest_2 : decode cX12_farthest 2 = .ok (.iconst 0, 1) := by decide +kernel
theorem dX12_farthest_3 : decode cX12_farthest 3 = .ok (.istore_n 3, 1) := by decide +kernel
theorem dX12_farthest_4 : decode cX12_farthest 4 = .ok (.iload_n 3, 1) := by decide +kernel
theorem dX12_farthest_5 : decode cX12_farthest 5 = .ok (.aload_n 0, 1) := by decide +kernel
theorem dX12_farthest_6 : decode cX12_farthest 6 = .ok (.invokevirtual 378, 3) := by decide +kernel
theorem dX12_farthest_9 : decode cX12_farthest 9 = .ok (.if_icmp .ge 38, 3) := by decide +kernel
theorem dX12_farthest_12 : decode cX12_farthest 12 = .ok (.aload_n 0, 1) := by decide +kernel
theorem dX12_farthest_13 : decode cX12_farthest 13 = .ok (.iload_n 1, 1) := by decide +kernel
theorem dX12_farthest_14 : decode cX12_farthest 14 = .ok (.iload_n 3, 1) := by decide +kernel
theorem dX12_farthest_15 : decode cX12_farthest 15 = .ok (.invokevirtual 421, 3) := by decide +kernel
theorem dX12_farthest_18 : decode cX12_farthest 18 = .ok (.sipush 10000, 3) := by decide +kernel
theorem dX12_farthest_21 : decode cX12_farthest 21 = .ok (.if_icmp .ge 20, 3) := by decide +kernel
theorem dX12_farthest_24 : decode cX12_farthest 24 = .ok (.aload_n 0, 1) := by decide +kernel
theorem dX12_farthest_25 : decode cX12_farthest 25 = .ok (.iload_n 1, 1) := by decide +kernel
theorem dX12_farthest_26 : decode cX12_farthest 26 = .ok (.iload_n 3, 1) := by decide +kernel
theorem dX12_farthest_27 : decode cX12_farthest 27 = .ok (.invokevirtual 421, 3) := by decide +kernel
theorem dX12_farthest_30 : decode cX12_farthest 30 = .ok (.iload_n 2, 1) := by decide +kernel
theorem dX12_farthest_31 : decode cX12_farthest 31 = .ok (.if_icmp .le 10, 3) := by decide +kernel
theorem dX12_farthest_34 : decode cX12_farthest 34 = .ok (.aload_n 0, 1) := by decide +kernel
theorem dX12_farthest_35 : decode cX12_farthest 35 = .ok (.iload_n 1, 1) := by decide +kernel
theorem dX12_farthest_36 : decode cX12_farthest 36 = .ok (.iload_n 3, 1) := by decide +kernel
theorem dX12_farthest_37 : decode cX12_farthest 37 = .ok (.invokevirtual 421, 3) := by decide +kernel
theorem dX12_farthest_40 : decode cX12_farthest 40 = .ok (.istore_n 2, 1) := by decide +kernel
theorem dX12_farthest_41 : decode cX12_farthest 41 = .ok (.iinc 3 1, 3) := by decide +kernel
theorem dX12_farthest_44 : decode cX12_farthest 44 = .ok (.goto (-40), 3) := by decide +kernel
theorem dX12_farthest_47 : decode cX12_farthest 47 = .ok (.iload_n 2, 1) := by decide +kernel
theorem dX12_farthest_48 : decode cX12_farthest 48 = .ok (.ireturn, 1) := by decide +kernel
theorem dX12_centre_0 : decode cX12_centre 0 = .ok (.iconst (-1), 1) := by decide +kernel
theorem dX12_centre_1 : decode cX12_centre 1 = .ok (.istore_n 1, 1) := by decide +kernel
theorem dX12_centre_2 : decode cX12_centre 2 = .ok (.iconst 0, 1) := by decide +kernel
theorem dX12_centre_3 : decode cX12_centre 3 = .ok (.istore_n 2, 1) := by decide +kernel
theorem dX12_centre_4 : decode cX12_centre 4 = .ok (.iload_n 2, 1) := by decide +kernel
theorem dX12_centre_5 : decode cX12_centre 5 = .ok (.aload_n 0, 1) := by decide +kernel
theorem dX12_centre_6 : decode cX12_centre 6 = .ok (.invokevirtual 378, 3) := by decide +kernel
theorem dX12_centre_9 : decode cX12_centre 9 = .ok (.if_icmp .ge 28, 3) := by decide +kernel
theorem dX12_centre_12 : decode cX12_centre 12 = .ok (.iload_n 1, 1) := by decide +kernel
theorem dX12_centre_13 : decode cX12_centre 13 = .ok (.ifCond .lt 16, 3) := by decide +kernel
theorem dX12_centre_16 : decode cX12_centre 16 = .ok (.aload_n 0, 1) := by decide +kernel
theorem dX12_centre_17 : decode cX12_centre 17 = .ok (.iload_n 2, 1) := by decide +kernel
theorem dX12_centre_18 : decode cX12_centre 18 = .ok (.invokevirtual 484, 3) := by decide +kernel
theorem dX12_centre_21 : decode cX12_centre 21 = .ok (.aload_n 0, 1) := by decide +kernel
theorem dX12_centre_22 : decode cX12_centre 22 = .ok (.iload_n 1, 1) := by decide +kernel
theorem dX12_centre_23 : decode cX12_centre 23 = .ok (.invokevirtual 484, 3) := by decide +kernel
theorem dX12_centre_26 : decode cX12_centre 26 = .ok (.if_icmp .ge 5, 3) := by decide +kernel
theorem dX12_centre_29 : decode cX12_centre 29 = .ok (.iload_n 2, 1) := by decide +kernel
theorem dX12_centre_30 : decode cX12_centre 30 = .ok (.istore_n 1, 1) := by decide +kernel
theorem dX12_centre_31 : decode cX12_centre 31 = .ok (.iinc 2 1, 3) := by decide +kernel
theorem dX12_centre_34 : decode cX12_centre 34 = .ok (.goto (-30), 3) := by decide +kernel
theorem dX12_centre_37 : decode cX12_centre 37 = .ok (.iload_n 1, 1) := by decide +kernel
theorem dX12_centre_38 : decode cX12_centre 38 = .ok (.ireturn, 1) := by decide +kernel
set_option maxRecDepth 20000 in
theorem ggX12_layGoal_X12_has : GoodIn wsX12_layGoal wsX12_has := goodIn_r _ [18] (by decide +kernel) (by decide +kernel)
set_option maxRecDepth 20000 in
theorem gX12_layGoal_X12_has : GoodIn wsX12_layGoal (va_wsS RX12 397 yX12_has wsX12_has) := goodIn_app (goodIn_of _ (by decide +kernel)) ggX12_layGoal_X12_has
set_option maxRecDepth 20000 in
theorem ggX12_layGoal_X12_oneOf : GoodIn wsX12_layGoal wsX12_oneOf := goodIn_r _ [9, 10, 3, 19, 20, 21, 22, 23, 24, 25, 26, 27, 28, 29, 30, 31, 32, 33, 34, 35, 36, 37, 38, 39, 40, 41, 42, 43, 44, 45, 46, 47, 48, 49, 50, 51, 52, 53, 54, 55, 56, 57, 58, 59, 60, 61, 62, 63, 64, 65, 66, 67, 68, 69, 70, 71, 72, 73, 74, 75, 76, 77, 78, 79, 80, 81, 82, 83, 84, 85, 86, 87, 88, 89] (by decide +kernel) (by decide +kernel)
set_option maxRecDepth 20000 in
theorem gX12_layGoal_X12_oneOf : GoodIn wsX12_layGoal (wsV RX12 391 RX12 yX12_oneOf wsX12_oneOf) := goodIn_app (goodIn_of _ (by decide +kernel)) ggX12_layGoal_X12_oneOf
set_option maxRecDepth 20000 in
theorem ggX12_layGoal_X12_otherOf : GoodIn wsX12_layGoal wsX12_otherOf := goodIn_r _ [14, 15, 3, 19, 20, 21, 22, 23, 24, 25, 26, 27, 28, 29, 30, 31, 32, 33, 34, 35, 36, 37, 38, 39, 40, 41, 42, 43, 44, 45, 46, 47, 48, 49, 50, 51, 52, 53, 54, 55, 56, 57, 58, 59, 60, 61, 62, 63, 64, 65, 66, 67, 68, 69, 70, 71, 72, 73, 74, 75, 76, 77, 78, 79, 80, 81, 82, 83, 84, 85, 86, 87, 88, 89] (by decide +kernel) (by decide +kernel)
set_option maxRecDepth 20000 in
theorem gX12_layGoal_X12_otherOf : GoodIn wsX12_layGoal (wsV RX12 394 RX12 yX12_otherOf wsX12_otherOf) := goodIn_app (goodIn_of _ (by decide +kernel)) ggX12_layGoal_X12_otherOf
set_option maxRecDepth 20000 in
theorem ggX12_showWay_X12_behind : GoodIn wsX12_showWay wsX12_behind := goodIn_r _ [28, 10, 11, 12, 13, 14, 8, 15, 16, 17, 18, 19, 20, 21, 29, 30, 31, 32, 33, 34, 35, 36, 37, 38, 39, 40, 41, 42, 43, 44, 45, 46, 47, 48, 49, 50, 51, 52, 53, 54, 55, 56, 57, 58, 59, 60, 61, 62, 63, 64, 65, 66, 67, 68, 69, 70, 71, 72, 73, 74, 75, 76, 77, 78, 79, 80, 81, 82, 83, 84, 85, 86, 87, 88, 89, 90, 91, 92, 93, 94, 95, 96, 97, 98, 99] (by decide +kernel) (by decide +kernel)
set_option maxRecDepth 20000 in
theorem gX12_showWay_X12_behind : GoodIn wsX12_showWay (wsV RX12 400 RX12 yX12_behind wsX12_behind) := goodIn_app (goodIn_of _ (by decide +kernel)) ggX12_showWay_X12_behind
set_option maxRecDepth 20000 in
theorem ggX12_showWay_X12_has : GoodIn wsX12_showWay wsX12_has := goodIn_r _ [24] (by decide +kernel) (by decide +kernel)
set_option maxRecDepth 20000 in
theorem gX12_showWay_X12_has : GoodIn wsX12_showWay (va_wsS RX12 397 yX12_has wsX12_has) := goodIn_app (goodIn_of _ (by decide +kernel)) ggX12_showWay_X12_has
set_option maxRecDepth 20000 in
theorem ggX12_showWay_X12_layGoal : GoodIn wsX12_showWay wsX12_layGoal := goodIn_r _ [9, 2, 10, 11, 4, 12, 13, 14, 8, 15, 16, 17, 18, 19, 20, 21, 22, 23, 24, 29, 30, 31, 32, 33, 34, 35, 36, 37, 38, 39, 40, 41, 42, 43, 44, 45, 46, 47, 48, 49, 50, 51, 52, 53, 54, 55, 56, 57, 58, 59, 60, 61, 62, 63, 64, 65, 66, 67, 68, 69, 70, 71, 72, 73, 74, 75, 76, 77, 78, 79, 80, 81, 82, 83, 84, 85, 86, 87, 88, 89, 90, 91, 92, 93, 94, 95, 96, 97, 98, 99] (by decide +kernel) (by decide +kernel)
set_option maxRecDepth 20000 in
theorem gX12_showWay_X12_layGoal : GoodIn wsX12_showWay (wsV RX12 460 RX12 yX12_layGoal wsX12_layGoal) := goodIn_app (goodIn_of _ (by decide +kernel)) ggX12_showWay_X12_layGoal
set_option maxRecDepth 20000 in
theorem ggX12_way_X12_areRooms : GoodIn wsX12_way wsX12_areRooms := goodIn_r _ [6, 7, 8, 9, 5, 10, 11, 12, 13, 14, 15, 16, 17, 18, 19, 53, 54, 55, 56, 57, 58, 59, 60, 61, 62, 63, 64, 65, 66, 67, 68, 69, 70, 71, 72, 73, 74, 75, 76, 77, 78, 79, 80, 81, 82, 83, 84, 85, 86, 87, 88, 89, 90, 91, 92, 93, 94, 95, 96, 97, 98, 99, 100, 101, 102, 103, 104, 105, 106, 107, 108, 109, 110, 111, 112, 113, 114, 115, 116, 117, 118, 119, 120, 121, 122, 123] (by decide +kernel) (by decide +kernel)
set_option maxRecDepth 20000 in
theorem gX12_way_X12_areRooms : GoodIn wsX12_way (wsV RX12 445 RX12 yX12_areRooms wsX12_areRooms) := goodIn_app (goodIn_of _ (by decide +kernel)) ggX12_way_X12_areRooms
set_option maxRecDepth 20000 in
theorem ggX12_way_X12_showWay : GoodIn wsX12_way wsX12_showWay := goodIn_r _ [28, 1, 29, 30, 24, 31, 32, 33, 5, 34, 35, 16, 36, 37, 38, 39, 40, 41, 42, 43, 44, 45, 46, 47, 48, 49, 50, 51, 52, 53, 54, 55, 56, 57, 58, 59, 60, 61, 62, 63, 64, 65, 66, 67, 68, 69, 70, 71, 72, 73, 74, 75, 76, 77, 78, 79, 80, 81, 82, 83, 84, 85, 86, 87, 88, 89, 90, 91, 92, 93, 94, 95, 96, 97, 98, 99, 100, 101, 102, 103, 104, 105, 106, 107, 108, 109, 110, 111, 112, 113, 114, 115, 116, 117, 118, 119, 120, 121, 122, 123] (by decide +kernel) (by decide +kernel)
set_option maxRecDepth 20000 in
theorem gX12_way_X12_showWay : GoodIn wsX12_way (wsV RX12 466 RX12 yX12_showWay wsX12_showWay) := goodIn_app (goodIn_of _ (by decide +kernel)) ggX12_way_X12_showWay
set_option maxRecDepth 20000 in
theorem ggX12_way_X12_weighAlike : GoodIn wsX12_way wsX12_weighAlike := goodIn_r _ [23, 24, 53, 54, 55, 56, 57, 58, 59, 60, 61, 62, 63, 64, 65, 66, 67, 68, 69, 70, 71, 72, 73, 74, 75, 76, 77, 78, 79, 80, 81, 82, 83, 84, 85, 86, 87, 88, 89, 90, 91, 92, 93, 94, 95, 96, 97, 98, 99, 100, 101, 102, 103, 104, 105, 106, 107, 108, 109, 110, 111, 112, 113, 114, 115, 116, 117, 118, 119, 120, 121, 122, 123] (by decide +kernel) (by decide +kernel)
set_option maxRecDepth 20000 in
theorem gX12_way_X12_weighAlike : GoodIn wsX12_way (wsV RX12 463 RX12 yX12_weighAlike wsX12_weighAlike) := goodIn_app (goodIn_of _ (by decide +kernel)) ggX12_way_X12_weighAlike
set_option maxRecDepth 20000 in
theorem ggX12_quiet_X12_areRooms : GoodIn wsX12_quiet wsX12_areRooms := goodIn_r _ [7, 8, 9, 10, 6, 11, 12, 13, 14, 15, 16, 17, 18, 19, 20, 54, 55, 56, 57, 58, 59, 60, 61, 62, 63, 64, 65, 66, 67, 68, 69, 70, 71, 72, 73, 74, 75, 76, 77, 78, 79, 80, 81, 82, 83, 84, 85, 86, 87, 88, 89, 90, 91, 92, 93, 94, 95, 96, 97, 98, 99, 100, 101, 102, 103, 104, 105, 106, 107, 108, 109, 110, 111, 112, 113, 114, 115, 116, 117, 118, 119, 120, 121, 122, 123, 124] (by decide +kernel) (by decide +kernel)
set_option maxRecDepth 20000 in
theorem gX12_quiet_X12_areRooms : GoodIn wsX12_quiet (wsV RX12 445 RX12 yX12_areRooms wsX12_areRooms) := goodIn_app (goodIn_of _ (by decide +kernel)) ggX12_quiet_X12_areRooms
set_option maxRecDepth 20000 in
theorem ggX12_quiet_X12_creakOf : GoodIn wsX12_quiet wsX12_creakOf := goodIn_r _ [24, 25, 17, 54, 55, 56, 57, 58, 59, 60, 61, 62, 63, 64, 65, 66, 67, 68, 69, 70, 71, 72, 73, 74, 75, 76, 77, 78, 79, 80, 81, 82, 83, 84, 85, 86, 87, 88, 89, 90, 91, 92, 93, 94, 95, 96, 97, 98, 99, 100, 101, 102, 103, 104, 105, 106, 107, 108, 109, 110, 111, 112, 113, 114, 115, 116, 117, 118, 119, 120, 121, 122, 123, 124] (by decide +kernel) (by decide +kernel)
set_option maxRecDepth 20000 in
theorem gX12_quiet_X12_creakOf : GoodIn wsX12_quiet (wsV RX12 430 RX12 yX12_creakOf wsX12_creakOf) := goodIn_app (goodIn_of _ (by decide +kernel)) ggX12_quiet_X12_creakOf
set_option maxRecDepth 20000 in
theorem ggX12_quiet_X12_places : GoodIn wsX12_quiet wsX12_places := goodIn_r _ [15, 16, 17, 54, 55, 56, 57, 58, 59, 60, 61, 62, 63, 64, 65, 66, 67, 68, 69, 70, 71, 72, 73, 74, 75, 76, 77, 78, 79, 80, 81, 82, 83, 84, 85, 86, 87, 88, 89, 90, 91, 92, 93, 94, 95, 96, 97, 98, 99, 100, 101, 102, 103, 104, 105, 106, 107, 108, 109, 110, 111, 112, 113, 114, 115, 116, 117, 118, 119, 120, 121, 122, 123, 124] (by decide +kernel) (by decide +kernel)
set_option maxRecDepth 20000 in
theorem gX12_quiet_X12_places : GoodIn wsX12_quiet (wsV RX12 378 RX12 yX12_places wsX12_places) := goodIn_app (goodIn_of _ (by decide +kernel)) ggX12_quiet_X12_places
set_option maxRecDepth 20000 in
theorem ggX12_quiet_X12_showWay : GoodIn wsX12_quiet wsX12_showWay := goodIn_r _ [29, 1, 30, 31, 2, 32, 33, 34, 6, 35, 36, 17, 37, 38, 39, 40, 41, 42, 43, 44, 45, 46, 47, 48, 49, 50, 51, 52, 53, 54, 55, 56, 57, 58, 59, 60, 61, 62, 63, 64, 65, 66, 67, 68, 69, 70, 71, 72, 73, 74, 75, 76, 77, 78, 79, 80, 81, 82, 83, 84, 85, 86, 87, 88, 89, 90, 91, 92, 93, 94, 95, 96, 97, 98, 99, 100, 101, 102, 103, 104, 105, 106, 107, 108, 109, 110, 111, 112, 113, 114, 115, 116, 117, 118, 119, 120, 121, 122, 123, 124] (by decide +kernel) (by decide +kernel)
set_option maxRecDepth 20000 in
theorem gX12_quiet_X12_showWay : GoodIn wsX12_quiet (wsV RX12 466 RX12 yX12_showWay wsX12_showWay) := goodIn_app (goodIn_of _ (by decide +kernel)) ggX12_quiet_X12_showWay
set_option maxRecDepth 20000 in
theorem ggX12_ways_X12_areRooms : GoodIn wsX12_ways wsX12_areRooms := goodIn_r _ [6, 7, 8, 9, 5, 10, 11, 12, 13, 14, 15, 16, 17, 18, 19, 43, 44, 45, 46, 47, 48, 49, 50, 51, 52, 53, 54, 55, 56, 57, 58, 59, 60, 61, 62, 63, 64, 65, 66, 67, 68, 69, 70, 71, 72, 73, 74, 75, 76, 77, 78, 79, 80, 81, 82, 83, 84, 85, 86, 87, 88, 89, 90, 91, 92, 93, 94, 95, 96, 97, 98, 99, 100, 101, 102, 103, 104, 105, 106, 107, 108, 109, 110, 111, 112, 113] (by decide +kernel) (by decide +kernel)
set_option maxRecDepth 20000 in
theorem gX12_ways_X12_areRooms : GoodIn wsX12_ways (wsV RX12 445 RX12 yX12_areRooms wsX12_areRooms) := goodIn_app (goodIn_of _ (by decide +kernel)) ggX12_ways_X12_areRooms
set_option maxRecDepth 20000 in
theorem ggX12_ways_X12_behind : GoodIn wsX12_ways wsX12_behind := goodIn_r _ [28, 29, 16, 30, 31, 32, 5, 33, 34, 35, 36, 37, 38, 39, 43, 44, 45, 46, 47, 48, 49, 50, 51, 52, 53, 54, 55, 56, 57, 58, 59, 60, 61, 62, 63, 64, 65, 66, 67, 68, 69, 70, 71, 72, 73, 74, 75, 76, 77, 78, 79, 80, 81, 82, 83, 84, 85, 86, 87, 88, 89, 90, 91, 92, 93, 94, 95, 96, 97, 98, 99, 100, 101, 102, 103, 104, 105, 106, 107, 108, 109, 110, 111, 112, 113] (by decide +kernel) (by decide +kernel)
set_option maxRecDepth 20000 in
theorem gX12_ways_X12_behind : GoodIn wsX12_ways (wsV RX12 400 RX12 yX12_behind wsX12_behind) := goodIn_app (goodIn_of _ (by decide +kernel)) ggX12_ways_X12_behind
set_option maxRecDepth 20000 in
theorem ggX12_ways_X12_farOf : GoodIn wsX12_ways wsX12_farOf := goodIn_r _ [23, 24, 43, 44, 45, 46, 47, 48, 49, 50, 51, 52, 53, 54, 55, 56, 57, 58, 59, 60, 61, 62, 63, 64, 65, 66, 67, 68, 69, 70, 71, 72, 73, 74, 75, 76, 77, 78, 79, 80, 81, 82, 83, 84, 85, 86, 87, 88, 89, 90, 91, 92, 93, 94, 95, 96, 97, 98, 99, 100, 101, 102, 103, 104, 105, 106, 107, 108, 109, 110, 111, 112, 113] (by decide +kernel) (by decide +kernel)
set_option maxRecDepth 20000 in
theorem gX12_ways_X12_farOf : GoodIn wsX12_ways (wsV RX12 421 RX12 yX12_farOf wsX12_farOf) := goodIn_app (goodIn_of _ (by decide +kernel)) ggX12_ways_X12_farOf
set_option maxRecDepth 20000 in
theorem ggX12_ways_X12_has : GoodIn wsX12_ways wsX12_has := goodIn_r _ [42] (by decide +kernel) (by decide +kernel)
set_option maxRecDepth 20000 in
theorem gX12_ways_X12_has : GoodIn wsX12_ways (va_wsS RX12 397 yX12_has wsX12_has) := goodIn_app (goodIn_of _ (by decide +kernel)) ggX12_ways_X12_has
set_option maxRecDepth 20000 in
theorem ggX12_ways_X12_places : GoodIn wsX12_ways wsX12_places := goodIn_r _ [14, 15, 16, 43, 44, 45, 46, 47, 48, 49, 50, 51, 52, 53, 54, 55, 56, 57, 58, 59, 60, 61, 62, 63, 64, 65, 66, 67, 68, 69, 70, 71, 72, 73, 74, 75, 76, 77, 78, 79, 80, 81, 82, 83, 84, 85, 86, 87, 88, 89, 90, 91, 92, 93, 94, 95, 96, 97, 98, 99, 100, 101, 102, 103, 104, 105, 106, 107, 108, 109, 110, 111, 112, 113] (by decide +kernel) (by decide +kernel)
set_option maxRecDepth 20000 in
theorem gX12_ways_X12_places : GoodIn wsX12_ways (wsV RX12 378 RX12 yX12_places wsX12_places) := goodIn_app (goodIn_of _ (by decide +kernel)) ggX12_ways_X12_places
set_option maxRecDepth 20000 in
theorem ggX12_pieces_X12_has : GoodIn wsX12_pieces wsX12_has := goodIn_r _ [10] (by decide +kernel) (by decide +kernel)
set_option maxRecDepth 20000 in
theorem gX12_pieces_X12_has : GoodIn wsX12_pieces (va_wsS RX12 397 yX12_has wsX12_has) := goodIn_app (goodIn_of _ (by decide +kernel)) ggX12_pieces_X12_has
set_option maxRecDepth 20000 in
theorem ggX12_pieces_X12_joined : GoodIn wsX12_pieces wsX12_joined := goodIn_r _ [14, 1, 2, 3, 4, 5, 6, 7, 8, 9, 10, 15, 16, 17, 18, 19, 20, 21, 22, 23, 24, 25, 26, 27, 28, 29, 30, 31, 32, 33, 34, 35, 36, 37, 38, 39, 40, 41, 42, 43, 44, 45, 46, 47, 48, 49, 50, 51, 52, 53, 54, 55, 56, 57, 58, 59, 60, 61, 62, 63, 64, 65, 66, 67, 68, 69, 70, 71, 72, 73, 74, 75, 76, 77, 78, 79, 80, 81, 82, 83, 84, 85, 86, 87, 88, 89, 90, 91, 92, 93, 94, 95, 96, 97, 98, 99, 100] (by decide +kernel) (by decide +kernel)
set_option maxRecDepth 20000 in
theorem gX12_pieces_X12_joined : GoodIn wsX12_pieces (wsV RX12 403 RX12 yX12_joined wsX12_joined) := goodIn_app (goodIn_of _ (by decide +kernel)) ggX12_pieces_X12_joined
set_option maxRecDepth 20000 in
theorem ggX12_pieces_X12_places : GoodIn wsX12_pieces wsX12_places := goodIn_r _ [5, 6, 7, 30, 31, 32, 33, 34, 35, 36, 37, 38, 39, 40, 41, 42, 43, 44, 45, 46, 47, 48, 49, 50, 51, 52, 53, 54, 55, 56, 57, 58, 59, 60, 61, 62, 63, 64, 65, 66, 67, 68, 69, 70, 71, 72, 73, 74, 75, 76, 77, 78, 79, 80, 81, 82, 83, 84, 85, 86, 87, 88, 89, 90, 91, 92, 93, 94, 95, 96, 97, 98, 99, 100] (by decide +kernel) (by decide +kernel)
set_option maxRecDepth 20000 in
theorem gX12_pieces_X12_places : GoodIn wsX12_pieces (wsV RX12 378 RX12 yX12_places wsX12_places) := goodIn_app (goodIn_of _ (by decide +kernel)) ggX12_pieces_X12_places
set_option maxRecDepth 20000 in
theorem ggX12_parts_X12_doesPart : GoodIn wsX12_parts wsX12_doesPart := goodIn_r _ [7, 8, 9, 10, 11, 6, 12, 13, 2, 14, 15, 16, 17, 18, 19, 20, 21, 22, 23, 24, 25, 26, 27, 28, 29, 30, 31, 32, 33, 34, 35, 36, 37, 38, 39, 40, 41, 42, 43, 44, 45, 46, 47, 48, 49, 50, 51, 52, 53, 54, 55, 56, 57, 58, 59, 60, 61, 62, 63, 64, 65, 66, 67, 68, 69, 70, 71, 72, 73, 74, 75, 76, 77, 78, 79, 80, 81, 82, 83, 84, 85, 86, 87] (by decide +kernel) (by decide +kernel)
set_option maxRecDepth 20000 in
theorem gX12_parts_X12_doesPart : GoodIn wsX12_parts (wsV RX12 442 RX12 yX12_doesPart wsX12_doesPart) := goodIn_app (goodIn_of _ (by decide +kernel)) ggX12_parts_X12_doesPart
set_option maxRecDepth 20000 in
theorem ggX12_layHunts_X12_bitsOf : GoodIn wsX12_layHunts wsX12_bitsOf := goodIn_r _ [14] (by decide +kernel) (by decide +kernel)
set_option maxRecDepth 20000 in
theorem gX12_layHunts_X12_bitsOf : GoodIn wsX12_layHunts (va_wsS RX12 469 yX12_bitsOf wsX12_bitsOf) := goodIn_app (goodIn_of _ (by decide +kernel)) ggX12_layHunts_X12_bitsOf
set_option maxRecDepth 20000 in
theorem ggX12_layHunts_X12_doesPart : GoodIn wsX12_layHunts wsX12_doesPart := goodIn_r _ [18, 5, 19, 20, 21, 9, 22, 23, 4, 24, 25, 26, 27, 28, 29, 30, 31, 32, 33, 34, 35, 36, 37, 38, 39, 40, 41, 42, 43, 44, 45, 46, 47, 48, 49, 50, 51, 52, 53, 54, 55, 56, 57, 58, 59, 60, 61, 62, 63, 64, 65, 66, 67, 68, 69, 70, 71, 72, 73, 74, 75, 76, 77, 78, 79, 80, 81, 82, 83, 84, 85, 86, 87, 88, 89, 90, 91, 92, 93, 94, 95, 96, 97] (by decide +kernel) (by decide +kernel)
set_option maxRecDepth 20000 in
theorem gX12_layHunts_X12_doesPart : GoodIn wsX12_layHunts (wsV RX12 442 RX12 yX12_doesPart wsX12_doesPart) := goodIn_app (goodIn_of _ (by decide +kernel)) ggX12_layHunts_X12_doesPart
set_option maxRecDepth 20000 in
theorem ggX12_layHunts_X12_places : GoodIn wsX12_layHunts wsX12_places := goodIn_r _ [10, 11, 4, 27, 28, 29, 30, 31, 32, 33, 34, 35, 36, 37, 38, 39, 40, 41, 42, 43, 44, 45, 46, 47, 48, 49, 50, 51, 52, 53, 54, 55, 56, 57, 58, 59, 60, 61, 62, 63, 64, 65, 66, 67, 68, 69, 70, 71, 72, 73, 74, 75, 76, 77, 78, 79, 80, 81, 82, 83, 84, 85, 86, 87, 88, 89, 90, 91, 92, 93, 94, 95, 96, 97] (by decide +kernel) (by decide +kernel)
set_option maxRecDepth 20000 in
theorem gX12_layHunts_X12_places : GoodIn wsX12_layHunts (wsV RX12 378 RX12 yX12_places wsX12_places) := goodIn_app (goodIn_of _ (by decide +kernel)) ggX12_layHunts_X12_places
set_option maxRecDepth 20000 in
theorem ggX12_hunt_X12_isSet : GoodIn wsX12_hunt wsX12_isSet := goodIn_r _ [6, 7, 8, 9, 5, 10, 11, 12, 13, 14, 15, 38, 39, 40, 41, 42, 43, 44, 45, 46, 47, 48, 49, 50, 51, 52, 53, 54, 55, 56, 57, 58, 59, 60, 61, 62, 63, 64, 65, 66, 67, 68, 69, 70, 71, 72, 73, 74, 75, 76, 77, 78, 79, 80, 81, 82, 83, 84, 85, 86, 87, 88, 89, 90, 91, 92, 93, 94, 95, 96, 97, 98, 99, 100, 101, 102, 103, 104, 105, 106, 107, 108] (by decide +kernel) (by decide +kernel)
set_option maxRecDepth 20000 in
theorem gX12_hunt_X12_isSet : GoodIn wsX12_hunt (wsV RX12 472 RX12 yX12_isSet wsX12_isSet) := goodIn_app (goodIn_of _ (by decide +kernel)) ggX12_hunt_X12_isSet
set_option maxRecDepth 20000 in
theorem ggX12_hunt_X12_layHunts : GoodIn wsX12_hunt wsX12_layHunts := goodIn_r _ [19, 1, 20, 21, 12, 22, 7, 8, 9, 5, 10, 11, 23, 24, 25, 26, 27, 28, 29, 30, 31, 32, 33, 34, 35, 36, 37, 38, 39, 40, 41, 42, 43, 44, 45, 46, 47, 48, 49, 50, 51, 52, 53, 54, 55, 56, 57, 58, 59, 60, 61, 62, 63, 64, 65, 66, 67, 68, 69, 70, 71, 72, 73, 74, 75, 76, 77, 78, 79, 80, 81, 82, 83, 84, 85, 86, 87, 88, 89, 90, 91, 92, 93, 94, 95, 96, 97, 98, 99, 100, 101, 102, 103, 104, 105, 106, 107, 108] (by decide +kernel) (by decide +kernel)
set_option maxRecDepth 20000 in
theorem gX12_hunt_X12_layHunts : GoodIn wsX12_hunt (wsV RX12 475 RX12 yX12_layHunts wsX12_layHunts) := goodIn_app (goodIn_of _ (by decide +kernel)) ggX12_hunt_X12_layHunts
set_option maxRecDepth 20000 in
theorem ggX12_first_X12_isSet : GoodIn wsX12_first wsX12_isSet := goodIn_r _ [7, 8, 9, 10, 6, 11, 12, 13, 14, 15, 16, 38, 39, 40, 41, 42, 43, 44, 45, 46, 47, 48, 49, 50, 51, 52, 53, 54, 55, 56, 57, 58, 59, 60, 61, 62, 63, 64, 65, 66, 67, 68, 69, 70, 71, 72, 73, 74, 75, 76, 77, 78, 79, 80, 81, 82, 83, 84, 85, 86, 87, 88, 89, 90, 91, 92, 93, 94, 95, 96, 97, 98, 99, 100, 101, 102, 103, 104, 105, 106, 107, 108] (by decide +kernel) (by decide +kernel)
set_option maxRecDepth 20000 in
theorem gX12_first_X12_isSet : GoodIn wsX12_first (wsV RX12 472 RX12 yX12_isSet wsX12_isSet) := goodIn_app (goodIn_of _ (by decide +kernel)) ggX12_first_X12_isSet
set_option maxRecDepth 20000 in
theorem ggX12_first_X12_layHunts : GoodIn wsX12_first wsX12_layHunts := goodIn_r _ [20, 1, 2, 21, 13, 22, 8, 9, 10, 6, 11, 12, 23, 24, 25, 26, 27, 28, 29, 30, 31, 32, 33, 34, 35, 36, 37, 38, 39, 40, 41, 42, 43, 44, 45, 46, 47, 48, 49, 50, 51, 52, 53, 54, 55, 56, 57, 58, 59, 60, 61, 62, 63, 64, 65, 66, 67, 68, 69, 70, 71, 72, 73, 74, 75, 76, 77, 78, 79, 80, 81, 82, 83, 84, 85, 86, 87, 88, 89, 90, 91, 92, 93, 94, 95, 96, 97, 98, 99, 100, 101, 102, 103, 104, 105, 106, 107, 108] (by decide +kernel) (by decide +kernel)
set_option maxRecDepth 20000 in
theorem gX12_first_X12_layHunts : GoodIn wsX12_first (wsV RX12 475 RX12 yX12_layHunts wsX12_layHunts) := goodIn_app (goodIn_of _ (by decide +kernel)) ggX12_first_X12_layHunts
set_option maxRecDepth 20000 in
theorem ggX12_meet_X12_areRooms : GoodIn wsX12_meet wsX12_areRooms := goodIn_r _ [5, 6, 7, 8, 4, 9, 10, 11, 12, 13, 14, 15, 16, 17, 18, 24, 25, 26, 27, 28, 29, 30, 31, 32, 33, 34, 35, 36, 37, 38, 39, 40, 41, 42, 43, 44, 45, 46, 47, 48, 49, 50, 51, 52, 53, 54, 55, 56, 57, 58, 59, 60, 61, 62, 63, 64, 65, 66, 67, 68, 69, 70, 71, 72, 73, 74, 75, 76, 77, 78, 79, 80, 81, 82, 83, 84, 85, 86, 87, 88, 89, 90, 91, 92, 93, 94] (by decide +kernel) (by decide +kernel)
set_option maxRecDepth 20000 in
theorem gX12_meet_X12_areRooms : GoodIn wsX12_meet (wsV RX12 445 RX12 yX12_areRooms wsX12_areRooms) := goodIn_app (goodIn_of _ (by decide +kernel)) ggX12_meet_X12_areRooms
set_option maxRecDepth 20000 in
theorem ggX12_meet_X12_farOf : GoodIn wsX12_meet wsX12_farOf := goodIn_r _ [22, 23, 24, 25, 26, 27, 28, 29, 30, 31, 32, 33, 34, 35, 36, 37, 38, 39, 40, 41, 42, 43, 44, 45, 46, 47, 48, 49, 50, 51, 52, 53, 54, 55, 56, 57, 58, 59, 60, 61, 62, 63, 64, 65, 66, 67, 68, 69, 70, 71, 72, 73, 74, 75, 76, 77, 78, 79, 80, 81, 82, 83, 84, 85, 86, 87, 88, 89, 90, 91, 92, 93, 94] (by decide +kernel) (by decide +kernel)
set_option maxRecDepth 20000 in
theorem gX12_meet_X12_farOf : GoodIn wsX12_meet (wsV RX12 421 RX12 yX12_farOf wsX12_farOf) := goodIn_app (goodIn_of _ (by decide +kernel)) ggX12_meet_X12_farOf
set_option maxRecDepth 20000 in
theorem ggX12_meet_X12_isIn : GoodIn wsX12_meet wsX12_isIn := goodIn_r _ [18] (by decide +kernel) (by decide +kernel)
set_option maxRecDepth 20000 in
theorem gX12_meet_X12_isIn : GoodIn wsX12_meet (va_wsS RX12 381 yX12_isIn wsX12_isIn) := goodIn_app (goodIn_of _ (by decide +kernel)) ggX12_meet_X12_isIn
set_option maxRecDepth 20000 in
theorem ggX12_meet_X12_places : GoodIn wsX12_meet wsX12_places := goodIn_r _ [13, 14, 15, 24, 25, 26, 27, 28, 29, 30, 31, 32, 33, 34, 35, 36, 37, 38, 39, 40, 41, 42, 43, 44, 45, 46, 47, 48, 49, 50, 51, 52, 53, 54, 55, 56, 57, 58, 59, 60, 61, 62, 63, 64, 65, 66, 67, 68, 69, 70, 71, 72, 73, 74, 75, 76, 77, 78, 79, 80, 81, 82, 83, 84, 85, 86, 87, 88, 89, 90, 91, 92, 93, 94] (by decide +kernel) (by decide +kernel)
set_option maxRecDepth 20000 in
theorem gX12_meet_X12_places : GoodIn wsX12_meet (wsV RX12 378 RX12 yX12_places wsX12_places) := goodIn_app (goodIn_of _ (by decide +kernel)) ggX12_meet_X12_places
set_option maxRecDepth 20000 in
theorem ggX12_barOf_X12_bitsOf : GoodIn wsX12_barOf wsX12_bitsOf := goodIn_r _ [16] (by decide +kernel) (by decide +kernel)
set_option maxRecDepth 20000 in
theorem gX12_barOf_X12_bitsOf : GoodIn wsX12_barOf (va_wsS RX12 469 yX12_bitsOf wsX12_bitsOf) := goodIn_app (goodIn_of _ (by decide +kernel)) ggX12_barOf_X12_bitsOf
set_option maxRecDepth 20000 in
theorem ggX12_barOf_X12_layGoal : GoodIn wsX12_barOf wsX12_layGoal := goodIn_r _ [20, 1, 21, 13, 7, 22, 23, 24, 5, 25, 26, 27, 28, 29, 30, 31, 32, 33, 34, 35, 36, 37, 38, 39, 40, 41, 42, 43, 44, 45, 46, 47, 48, 49, 50, 51, 52, 53, 54, 55, 56, 57, 58, 59, 60, 61, 62, 63, 64, 65, 66, 67, 68, 69, 70, 71, 72, 73, 74, 75, 76, 77, 78, 79, 80, 81, 82, 83, 84, 85, 86, 87, 88, 89, 90, 91, 92, 93, 94, 95, 96, 97, 98, 99, 100, 101, 102, 103, 104, 105] (by decide +kernel) (by decide +kernel)
set_option maxRecDepth 20000 in
theorem gX12_barOf_X12_layGoal : GoodIn wsX12_barOf (wsV RX12 460 RX12 yX12_layGoal wsX12_layGoal) := goodIn_app (goodIn_of _ (by decide +kernel)) ggX12_barOf_X12_layGoal
set_option maxRecDepth 20000 in
theorem ggX12_barOf_X12_places : GoodIn wsX12_barOf wsX12_places := goodIn_r _ [11, 12, 13, 35, 36, 37, 38, 39, 40, 41, 42, 43, 44, 45, 46, 47, 48, 49, 50, 51, 52, 53, 54, 55, 56, 57, 58, 59, 60, 61, 62, 63, 64, 65, 66, 67, 68, 69, 70, 71, 72, 73, 74, 75, 76, 77, 78, 79, 80, 81, 82, 83, 84, 85, 86, 87, 88, 89, 90, 91, 92, 93, 94, 95, 96, 97, 98, 99, 100, 101, 102, 103, 104, 105] (by decide +kernel) (by decide +kernel)
set_option maxRecDepth 20000 in
theorem gX12_barOf_X12_places : GoodIn wsX12_barOf (wsV RX12 378 RX12 yX12_places wsX12_places) := goodIn_app (goodIn_of _ (by decide +kernel)) ggX12_barOf_X12_places
set_option maxRecDepth 20000 in
theorem ggX12_barOf_X12_weighAlike : GoodIn wsX12_barOf wsX12_weighAlike := goodIn_r _ [6, 7, 35, 36, 37, 38, 39, 40, 41, 42, 43, 44, 45, 46, 47, 48, 49, 50, 51, 52, 53, 54, 55, 56, 57, 58, 59, 60, 61, 62, 63, 64, 65, 66, 67, 68, 69, 70, 71, 72, 73, 74, 75, 76, 77, 78, 79, 80, 81, 82, 83, 84, 85, 86, 87, 88, 89, 90, 91, 92, 93, 94, 95, 96, 97, 98, 99, 100, 101, 102, 103, 104, 105] (by decide +kernel) (by decide +kernel)
set_option maxRecDepth 20000 in
theorem gX12_barOf_X12_weighAlike : GoodIn wsX12_barOf (wsV RX12 463 RX12 yX12_weighAlike wsX12_weighAlike) := goodIn_app (goodIn_of _ (by decide +kernel)) ggX12_barOf_X12_weighAlike
set_option maxRecDepth 20000 in
theorem ggX12_bar_X12_areRooms : GoodIn wsX12_bar wsX12_areRooms := goodIn_r _ [5, 6, 7, 8, 4, 9, 10, 11, 12, 13, 14, 15, 16, 17, 18, 50, 51, 52, 53, 54, 55, 56, 57, 58, 59, 60, 61, 62, 63, 64, 65, 66, 67, 68, 69, 70, 71, 72, 73, 74, 75, 76, 77, 78, 79, 80, 81, 82, 83, 84, 85, 86, 87, 88, 89, 90, 91, 92, 93, 94, 95, 96, 97, 98, 99, 100, 101, 102, 103, 104, 105, 106, 107, 108, 109, 110, 111, 112, 113, 114, 115, 116, 117, 118, 119, 120] (by decide +kernel) (by decide +kernel)
set_option maxRecDepth 20000 in
theorem gX12_bar_X12_areRooms : GoodIn wsX12_bar (wsV RX12 445 RX12 yX12_areRooms wsX12_areRooms) := goodIn_app (goodIn_of _ (by decide +kernel)) ggX12_bar_X12_areRooms
set_option maxRecDepth 20000 in
theorem ggX12_bar_X12_barOf : GoodIn wsX12_bar wsX12_barOf := goodIn_r _ [22, 23, 24, 25, 26, 4, 27, 28, 10, 11, 12, 13, 14, 15, 29, 30, 31, 32, 33, 34, 35, 36, 37, 38, 39, 40, 41, 42, 43, 44, 45, 46, 47, 48, 49, 50, 51, 52, 53, 54, 55, 56, 57, 58, 59, 60, 61, 62, 63, 64, 65, 66, 67, 68, 69, 70, 71, 72, 73, 74, 75, 76, 77, 78, 79, 80, 81, 82, 83, 84, 85, 86, 87, 88, 89, 90, 91, 92, 93, 94, 95, 96, 97, 98, 99, 100, 101, 102, 103, 104, 105, 106, 107, 108, 109, 110, 111, 112, 113, 114, 115, 116, 117, 118, 119, 120] (by decide +kernel) (by decide +kernel)
set_option maxRecDepth 20000 in
theorem gX12_bar_X12_barOf : GoodIn wsX12_bar (wsV RX12 478 RX12 yX12_barOf wsX12_barOf) := goodIn_app (goodIn_of _ (by decide +kernel)) ggX12_bar_X12_barOf
set_option maxRecDepth 20000 in
theorem ggX12_bar_X12_bitsOf : GoodIn wsX12_bar wsX12_bitsOf := goodIn_r _ [31] (by decide +kernel) (by decide +kernel)
set_option maxRecDepth 20000 in
theorem gX12_bar_X12_bitsOf : GoodIn wsX12_bar (va_wsS RX12 469 yX12_bitsOf wsX12_bitsOf) := goodIn_app (goodIn_of _ (by decide +kernel)) ggX12_bar_X12_bitsOf
set_option maxRecDepth 20000 in
theorem ggX12_bar_X12_isIn : GoodIn wsX12_bar wsX12_isIn := goodIn_r _ [18] (by decide +kernel) (by decide +kernel)
set_option maxRecDepth 20000 in
theorem gX12_bar_X12_isIn : GoodIn wsX12_bar (va_wsS RX12 381 yX12_isIn wsX12_isIn) := goodIn_app (goodIn_of _ (by decide +kernel)) ggX12_bar_X12_isIn
set_option maxRecDepth 20000 in
theorem ggX12_farthest_X12_farOf : GoodIn wsX12_farthest wsX12_farOf := goodIn_r _ [11, 12, 13, 14, 15, 16, 17, 18, 19, 20, 21, 22, 23, 24, 25, 26, 27, 28, 29, 30, 31, 32, 33, 34, 35, 36, 37, 38, 39, 40, 41, 42, 43, 44, 45, 46, 47, 48, 49, 50, 51, 52, 53, 54, 55, 56, 57, 58, 59, 60, 61, 62, 63, 64, 65, 66, 67, 68, 69, 70, 71, 72, 73, 74, 75, 76, 77, 78, 79, 80, 81, 82, 83] (by decide +kernel) (by decide +kernel)
set_option maxRecDepth 20000 in
theorem gX12_farthest_X12_farOf : GoodIn wsX12_farthest (wsV RX12 421 RX12 yX12_farOf wsX12_farOf) := goodIn_app (goodIn_of _ (by decide +kernel)) ggX12_farthest_X12_farOf
set_option maxRecDepth 20000 in
theorem ggX12_farthest_X12_places : GoodIn wsX12_farthest wsX12_places := goodIn_r _ [5, 6, 7, 13, 14, 15, 16, 17, 18, 19, 20, 21, 22, 23, 24, 25, 26, 27, 28, 29, 30, 31, 32, 33, 34, 35, 36, 37, 38, 39, 40, 41, 42, 43, 44, 45, 46, 47, 48, 49, 50, 51, 52, 53, 54, 55, 56, 57, 58, 59, 60, 61, 62, 63, 64, 65, 66, 67, 68, 69, 70, 71, 72, 73, 74, 75, 76, 77, 78, 79, 80, 81, 82, 83] (by decide +kernel) (by decide +kernel)
set_option maxRecDepth 20000 in
theorem gX12_farthest_X12_places : GoodIn wsX12_farthest (wsV RX12 378 RX12 yX12_places wsX12_places) := goodIn_app (goodIn_of _ (by decide +kernel)) ggX12_farthest_X12_places
set_option maxRecDepth 20000 in
theorem ggX12_centre_X12_farthest : GoodIn wsX12_centre wsX12_farthest := goodIn_r _ [11, 1, 2, 3, 4, 5, 6, 7, 12, 13, 14, 15, 16, 17, 18, 19, 20, 21, 22, 23, 24, 25, 26, 27, 28, 29, 30, 31, 32, 33, 34, 35, 36, 37, 38, 39, 40, 41, 42, 43, 44, 45, 46, 47, 48, 49, 50, 51, 52, 53, 54, 55, 56, 57, 58, 59, 60, 61, 62, 63, 64, 65, 66, 67, 68, 69, 70, 71, 72, 73, 74, 75, 76, 77, 78, 79, 80, 81, 82, 83, 84, 85, 86, 87] (by decide +kernel) (by decide +kernel)
set_option maxRecDepth 20000 in
theorem gX12_centre_X12_farthest : GoodIn wsX12_centre (wsV RX12 484 RX12 yX12_farthest wsX12_farthest) := goodIn_app (goodIn_of _ (by decide +kernel)) ggX12_centre_X12_farthest
set_option maxRecDepth 20000 in
theorem ggX12_centre_X12_places : GoodIn wsX12_centre wsX12_places := goodIn_r _ [5, 6, 7, 17, 18, 19, 20, 21, 22, 23, 24, 25, 26, 27, 28, 29, 30, 31, 32, 33, 34, 35, 36, 37, 38, 39, 40, 41, 42, 43, 44, 45, 46, 47, 48, 49, 50, 51, 52, 53, 54, 55, 56, 57, 58, 59, 60, 61, 62, 63, 64, 65, 66, 67, 68, 69, 70, 71, 72, 73, 74, 75, 76, 77, 78, 79, 80, 81, 82, 83, 84, 85, 86, 87] (by decide +kernel) (by decide +kernel)
set_option maxRecDepth 20000 in
theorem gX12_centre_X12_places : GoodIn wsX12_centre (wsV RX12 378 RX12 yX12_places wsX12_places) := goodIn_app (goodIn_of _ (by decide +kernel)) ggX12_centre_X12_places
theorem iw_X12_layGoal_X12 : ∀ w ∈ wsX120, w ∈ wsX12_layGoal := fun _ h => List.mem_cons_of_mem _ (List.mem_append_right _ h)
theorem iw_X12_weighAlike_X12 : ∀ w ∈ wsX120, w ∈ wsX12_weighAlike := fun _ h => List.mem_cons_of_mem _ (List.mem_append_right _ h)
theorem iw_X12_showWay_X12 : ∀ w ∈ wsX120, w ∈ wsX12_showWay := fun _ h => List.mem_cons_of_mem _ (List.mem_append_right _ h)
theorem iw_X12_way_X12 : ∀ w ∈ wsX120, w ∈ wsX12_way := fun _ h => List.mem_cons_of_mem _ (List.mem_append_right _ h)
theorem iw_X12_quiet_X12 : ∀ w ∈ wsX120, w ∈ wsX12_quiet := fun _ h => List.mem_cons_of_mem _ (List.mem_append_right _ h)
theorem iw_X12_ways_X12 : ∀ w ∈ wsX120, w ∈ wsX12_ways := fun _ h => List.mem_cons_of_mem _ (List.mem_append_right _ h)
theorem iw_X12_parts_X12 : ∀ w ∈ wsX120, w ∈ wsX12_parts := fun _ h => List.mem_cons_of_mem _ (List.mem_append_right _ h)
theorem iw_X12_layHunts_X12 : ∀ w ∈ wsX120, w ∈ wsX12_layHunts := fun _ h => List.mem_cons_of_mem _ (List.mem_append_right _ h)
theorem iw_X12_hunt_X12 : ∀ w ∈ wsX120, w ∈ wsX12_hunt := fun _ h => List.mem_cons_of_mem _ (List.mem_append_right _ h)
theorem iw_X12_first_X12 : ∀ w ∈ wsX120, w ∈ wsX12_first := fun _ h => List.mem_cons_of_mem _ (List.mem_append_right _ h)
theorem iw_X12_barOf_X12 : ∀ w ∈ wsX120, w ∈ wsX12_barOf := fun _ h => List.mem_cons_of_mem _ (List.mem_append_right _ h)
