def wsX12_isIn : List Cond := .code yX12_isIn cX12_isIn 3 (some .boolean) :: ([])
def wsX12_places : List Cond := .code yX12_places cX12_places 1 (some .int) :: ([.fieldLink RX12 20 "SoldHouseModel" "rooms" "[I", .fieldLink RX12 280 "SoldHouseModel" "bank" "I"] ++ wsX120)
def wsX12_many : List Cond := .code yX12_many cX12_many 1 (some .int) :: ([.fieldLink RX12 27 "SoldHouseModel" "things" "[I", .fieldLink RX12 280 "SoldHouseModel" "bank" "I"] ++ wsX120)
def wsX12_isRoom : List Cond := .code yX12_isRoom cX12_isRoom 2 (some .boolean) :: ([.methodLink RX12 378 yX12_places, .instanceMethod yX12_places, .selects RX12 yX12_places yX12_places, .initialized RX12, .code yX12_places cX12_places 1 (some .int), .fieldLink RX12 20 "SoldHouseModel" "rooms" "[I", .fieldLink RX12 280 "SoldHouseModel" "bank" "I", .methodLink RX12 381 yX12_isIn, .static yX12_isIn, .code yX12_isIn cX12_isIn 3 (some .boolean)] ++ wsX120)
def wsX12_areRooms : List Cond := .code yX12_areRooms cX12_areRooms 3 (some .boolean) :: ([.methodLink RX12 385 yX12_isRoom, .instanceMethod yX12_isRoom, .selects RX12 yX12_isRoom yX12_isRoom, .initialized RX12, .code yX12_isRoom cX12_isRoom 2 (some .boolean), .methodLink RX12 378 yX12_places, .instanceMethod yX12_places, .selects RX12 yX12_places yX12_places, .code yX12_places cX12_places 1 (some .int), .fieldLink RX12 20 "SoldHouseModel" "rooms" "[I", .fieldLink RX12 280 "SoldHouseModel" "bank" "I", .methodLink RX12 381 yX12_isIn, .static yX12_isIn, .code yX12_isIn cX12_isIn 3 (some .boolean)] ++ wsX120)
def wsX12_isThing : List Cond := .code yX12_isThing cX12_isThing 2 (some .boolean) :: ([.methodLink RX12 388 yX12_many, .instanceMethod yX12_many, .selects RX12 yX12_many yX12_many, .initialized RX12, .code yX12_many cX12_many 1 (some .int), .fieldLink RX12 27 "SoldHouseModel" "things" "[I", .fieldLink RX12 280 "SoldHouseModel" "bank" "I", .methodLink RX12 381 yX12_isIn, .static yX12_isIn, .code yX12_isIn cX12_isIn 3 (some .boolean)] ++ wsX120)
def wsX12_isSet : List Cond := .code yX12_isSet cX12_isSet 2 (some .boolean) :: ([.methodLink RX12 378 yX12_places, .instanceMethod yX12_places, .selects RX12 yX12_places yX12_places, .initialized RX12, .code yX12_places cX12_places 1 (some .int), .fieldLink RX12 20 "SoldHouseModel" "rooms" "[I", .fieldLink RX12 280 "SoldHouseModel" "bank" "I", .methodLink RX12 381 yX12_isIn, .static yX12_isIn, .code yX12_isIn cX12_isIn 3 (some .boolean)] ++ wsX120)
def wsX12_fault : List Cond := .code yX12_fault cX12_fault 2 (some .int) :: ([.fieldLink RX12 176 "SoldHouseModel" "faultKind" "I", .fieldLink RX12 16 "SoldHouseModel" "faultPlace" "I"] ++ wsX120)
def wsX12_room_r1 : List Cond := [Cond.methodLink RX12 385 yX12_isRoom, Cond.instanceMethod yX12_isRoom, Cond.selects RX12 yX12_isRoom yX12_isRoom, Cond.initialized RX12, Cond.code yX12_isRoom cX12_isRoom 2 (some .boolean), Cond.methodLink RX12 378 yX12_places, Cond.instanceMethod yX12_places, Cond.selects RX12 yX12_places yX12_places, Cond.code yX12_places cX12_places 1 (some .int), Cond.fieldLink RX12 20 "SoldHouseModel" "rooms" "[I", Cond.fieldLink RX12 280 "SoldHouseModel" "bank" "I", Cond.methodLink RX12 381 yX12_isIn, Cond.static yX12_isIn, Cond.code yX12_isIn cX12_isIn 3 (some .boolean), Cond.methodLink RX12 430 yX12_creakOf, Cond.instanceMethod yX12_creakOf, Cond.selects RX12 yX12_creakOf yX12_creakOf, Cond.code yX12_creakOf cX12_creakOf 2 (some .int), Cond.fieldLink RX12 36 "SoldHouseModel" "creaks" "[I", Cond.methodLink RX12 400 yX12_behind, Cond.instanceMethod yX12_behind, Cond.selects RX12 yX12_behind yX12_behind, Cond.code yX12_behind cX12_behind 5 (some .int), Cond.fieldLink RX12 24 "SoldHouseModel" "doors" "[I"]
def wsX12_room_r2 : List Cond := [Cond.methodLink RX12 391 yX12_oneOf, Cond.instanceMethod yX12_oneOf, Cond.selects RX12 yX12_oneOf yX12_oneOf, Cond.code yX12_oneOf cX12_oneOf 2 (some .int), Cond.fieldLink RX12 39 "SoldHouseModel" "one" "[I", Cond.methodLink RX12 394 yX12_otherOf, Cond.instanceMethod yX12_otherOf, Cond.selects RX12 yX12_otherOf yX12_otherOf, Cond.code yX12_otherOf cX12_otherOf 2 (some .int), Cond.fieldLink RX12 42 "SoldHouseModel" "other" "[I", Cond.methodLink RX12 433 yX12_thingsIn, Cond.instanceMethod yX12_thingsIn, Cond.selects RX12 yX12_thingsIn yX12_thingsIn, Cond.code yX12_thingsIn cX12_thingsIn 5 (some .int), Cond.fieldLink RX12 95 "SoldHouseModel" "all" "[I", Cond.methodLink RX12 388 yX12_many, Cond.instanceMethod yX12_many, Cond.selects RX12 yX12_many yX12_many, Cond.code yX12_many cX12_many 1 (some .int), Cond.fieldLink RX12 27 "SoldHouseModel" "things" "[I"]
def wsX12_room : List Cond := .code yX12_room cX12_room 3 (some .int) :: ((wsX12_room_r1 ++ wsX12_room_r2) ++ wsX120)
def wsX12_thing_r1 : List Cond := [Cond.fieldLink RX12 95 "SoldHouseModel" "all" "[I", Cond.fieldLink RX12 54 "SoldHouseModel" "toUs" "[I", Cond.fieldLink RX12 280 "SoldHouseModel" "bank" "I", Cond.fieldLink RX12 57 "SoldHouseModel" "toThem" "[I", Cond.methodLink RX12 436 yX12_isThing, Cond.instanceMethod yX12_isThing, Cond.selects RX12 yX12_isThing yX12_isThing, Cond.initialized RX12, Cond.code yX12_isThing cX12_isThing 2 (some .boolean), Cond.methodLink RX12 388 yX12_many, Cond.instanceMethod yX12_many, Cond.selects RX12 yX12_many yX12_many, Cond.code yX12_many cX12_many 1 (some .int), Cond.fieldLink RX12 27 "SoldHouseModel" "things" "[I", Cond.methodLink RX12 381 yX12_isIn, Cond.static yX12_isIn, Cond.code yX12_isIn cX12_isIn 3 (some .boolean), Cond.methodLink RX12 439 yX12_sureOf, Cond.instanceMethod yX12_sureOf, Cond.selects RX12 yX12_sureOf yX12_sureOf, Cond.code yX12_sureOf cX12_sureOf 3 (some .int), Cond.fieldLink RX12 66 "SoldHouseModel" "hasSure" "[Z", Cond.fieldLink RX12 365 "SoldHouseModel" "askThing" "I", Cond.methodLink RX12 427 yX12_comes]
def wsX12_thing_r2 : List Cond := [Cond.instanceMethod yX12_comes, Cond.selects RX12 yX12_comes yX12_comes, Cond.code yX12_comes cX12_comes 4 (some .int), Cond.fieldLink RX12 60 "SoldHouseModel" "ruleFrom" "[I", Cond.fieldLink RX12 63 "SoldHouseModel" "ruleTo" "[I", Cond.fieldLink RX12 80 "SoldHouseModel" "code" "[I", Cond.fieldLink RX12 92 "SoldHouseModel" "pile" "[I", Cond.fieldLink RX12 83 "SoldHouseModel" "codeNumber" "[I", Cond.methodLink RX12 226 yX12_isLetter, Cond.static yX12_isLetter, Cond.code yX12_isLetter cX12_isLetter 1 (some .boolean), Cond.methodLink RX12 371 yX12_asked, Cond.instanceMethod yX12_asked, Cond.selects RX12 yX12_asked yX12_asked, Cond.code yX12_asked cX12_asked 3 (some .int), Cond.methodLink RX12 368 yX12_offOf, Cond.instanceMethod yX12_offOf, Cond.selects RX12 yX12_offOf yX12_offOf, Cond.code yX12_offOf cX12_offOf 2 (some .int), Cond.methodLink RX12 421 yX12_farOf, Cond.instanceMethod yX12_farOf, Cond.selects RX12 yX12_farOf yX12_farOf, Cond.code yX12_farOf cX12_farOf 3 (some .int), Cond.fieldLink RX12 98 "SoldHouseModel" "table" "[I"]
def wsX12_thing_r3 : List Cond := [Cond.methodLink RX12 424 yX12_lesser, Cond.static yX12_lesser, Cond.code yX12_lesser cX12_lesser 2 (some .int), Cond.methodLink RX12 374 yX12_two, Cond.static yX12_two, Cond.code yX12_two cX12_two 3 (some .int)]
def wsX12_thing : List Cond := .code yX12_thing cX12_thing 3 (some .int) :: ((wsX12_thing_r1 ++ (wsX12_thing_r2 ++ wsX12_thing_r3)) ++ wsX120)
def wsX12_door : List Cond := .code yX12_door cX12_door 3 (some .int) :: ([.fieldLink RX12 24 "SoldHouseModel" "doors" "[I", .fieldLink RX12 280 "SoldHouseModel" "bank" "I", .fieldLink RX12 101 "SoldHouseModel" "nearSide" "[I", .methodLink RX12 381 yX12_isIn, .static yX12_isIn, .initialized RX12, .code yX12_isIn cX12_isIn 3 (some .boolean), .methodLink RX12 391 yX12_oneOf, .instanceMethod yX12_oneOf, .selects RX12 yX12_oneOf yX12_oneOf, .code yX12_oneOf cX12_oneOf 2 (some .int), .fieldLink RX12 39 "SoldHouseModel" "one" "[I", .methodLink RX12 394 yX12_otherOf, .instanceMethod yX12_otherOf, .selects RX12 yX12_otherOf yX12_otherOf, .code yX12_otherOf cX12_otherOf 2 (some .int), .fieldLink RX12 42 "SoldHouseModel" "other" "[I", .methodLink RX12 442 yX12_doesPart, .instanceMethod yX12_doesPart, .selects RX12 yX12_doesPart yX12_doesPart, .code yX12_doesPart cX12_doesPart 2 (some .boolean), .methodLink RX12 397 yX12_has, .static yX12_has, .code yX12_has cX12_has 2 (some .boolean)] ++ wsX120)
def wsX12_far : List Cond := .code yX12_far cX12_far 3 (some .int) :: ([.methodLink RX12 445 yX12_areRooms, .instanceMethod yX12_areRooms, .selects RX12 yX12_areRooms yX12_areRooms, .initialized RX12, .code yX12_areRooms cX12_areRooms 3 (some .boolean), .methodLink RX12 385 yX12_isRoom, .instanceMethod yX12_isRoom, .selects RX12 yX12_isRoom yX12_isRoom, .code yX12_isRoom cX12_isRoom 2 (some .boolean), .methodLink RX12 378 yX12_places, .instanceMethod yX12_places, .selects RX12 yX12_places yX12_places, .code yX12_places cX12_places 1 (some .int), .fieldLink RX12 20 "SoldHouseModel" "rooms" "[I", .fieldLink RX12 280 "SoldHouseModel" "bank" "I", .methodLink RX12 381 yX12_isIn, .static yX12_isIn, .code yX12_isIn cX12_isIn 3 (some .boolean), .methodLink RX12 421 yX12_farOf, .instanceMethod yX12_farOf, .selects RX12 yX12_farOf yX12_farOf, .code yX12_farOf cX12_farOf 3 (some .int), .fieldLink RX12 98 "SoldHouseModel" "table" "[I"] ++ wsX120)
def wsX12_tell_r1 : List Cond := [Cond.fieldLink RX12 95 "SoldHouseModel" "all" "[I", Cond.methodLink RX12 436 yX12_isThing, Cond.instanceMethod yX12_isThing, Cond.selects RX12 yX12_isThing yX12_isThing, Cond.initialized RX12, Cond.code yX12_isThing cX12_isThing 2 (some .boolean), Cond.methodLink RX12 388 yX12_many, Cond.instanceMethod yX12_many, Cond.selects RX12 yX12_many yX12_many, Cond.code yX12_many cX12_many 1 (some .int), Cond.fieldLink RX12 27 "SoldHouseModel" "things" "[I", Cond.fieldLink RX12 280 "SoldHouseModel" "bank" "I", Cond.methodLink RX12 381 yX12_isIn, Cond.static yX12_isIn, Cond.code yX12_isIn cX12_isIn 3 (some .boolean), Cond.methodLink RX12 448 yX12_keepAct, Cond.instanceMethod yX12_keepAct, Cond.selects RX12 yX12_keepAct yX12_keepAct, Cond.code yX12_keepAct cX12_keepAct 2 none, Cond.fieldLink RX12 409 "SoldHouseModel" "acts" "I", Cond.fieldLink RX12 104 "SoldHouseModel" "was" "[I", Cond.fieldLink RX12 412 "SoldHouseModel" "undone" "I", Cond.methodLink RX12 451 yX12_spoken, Cond.instanceMethod yX12_spoken]
def wsX12_tell_r2 : List Cond := [Cond.selects RX12 yX12_spoken yX12_spoken, Cond.code yX12_spoken cX12_spoken 3 none, Cond.methodLink RX12 424 yX12_lesser, Cond.static yX12_lesser, Cond.code yX12_lesser cX12_lesser 2 (some .int)]
def wsX12_tell : List Cond := .code yX12_tell cX12_tell 2 (some .int) :: ((wsX12_tell_r1 ++ wsX12_tell_r2) ++ wsX120)
def wsX12_hear_r1 : List Cond := [Cond.fieldLink RX12 95 "SoldHouseModel" "all" "[I", Cond.methodLink RX12 436 yX12_isThing, Cond.instanceMethod yX12_isThing, Cond.selects RX12 yX12_isThing yX12_isThing, Cond.initialized RX12, Cond.code yX12_isThing cX12_isThing 2 (some .boolean), Cond.methodLink RX12 388 yX12_many, Cond.instanceMethod yX12_many, Cond.selects RX12 yX12_many yX12_many, Cond.code yX12_many cX12_many 1 (some .int), Cond.fieldLink RX12 27 "SoldHouseModel" "things" "[I", Cond.fieldLink RX12 280 "SoldHouseModel" "bank" "I", Cond.methodLink RX12 381 yX12_isIn, Cond.static yX12_isIn, Cond.code yX12_isIn cX12_isIn 3 (some .boolean), Cond.methodLink RX12 448 yX12_keepAct, Cond.instanceMethod yX12_keepAct, Cond.selects RX12 yX12_keepAct yX12_keepAct, Cond.code yX12_keepAct cX12_keepAct 2 none, Cond.fieldLink RX12 409 "SoldHouseModel" "acts" "I", Cond.fieldLink RX12 104 "SoldHouseModel" "was" "[I", Cond.fieldLink RX12 412 "SoldHouseModel" "undone" "I", Cond.methodLink RX12 451 yX12_spoken, Cond.instanceMethod yX12_spoken]
def wsX12_hear_r2 : List Cond := [Cond.selects RX12 yX12_spoken yX12_spoken, Cond.code yX12_spoken cX12_spoken 3 none, Cond.methodLink RX12 424 yX12_lesser, Cond.static yX12_lesser, Cond.code yX12_lesser cX12_lesser 2 (some .int)]
def wsX12_hear : List Cond := .code yX12_hear cX12_hear 2 (some .int) :: ((wsX12_hear_r1 ++ wsX12_hear_r2) ++ wsX120)
def wsX12_send : List Cond := .code yX12_send cX12_send 2 (some .int) :: ([.fieldLink RX12 95 "SoldHouseModel" "all" "[I", .methodLink RX12 436 yX12_isThing, .instanceMethod yX12_isThing, .selects RX12 yX12_isThing yX12_isThing, .initialized RX12, .code yX12_isThing cX12_isThing 2 (some .boolean), .methodLink RX12 388 yX12_many, .instanceMethod yX12_many, .selects RX12 yX12_many yX12_many, .code yX12_many cX12_many 1 (some .int), .fieldLink RX12 27 "SoldHouseModel" "things" "[I", .fieldLink RX12 280 "SoldHouseModel" "bank" "I", .methodLink RX12 381 yX12_isIn, .static yX12_isIn, .code yX12_isIn cX12_isIn 3 (some .boolean), .methodLink RX12 448 yX12_keepAct, .instanceMethod yX12_keepAct, .selects RX12 yX12_keepAct yX12_keepAct, .code yX12_keepAct cX12_keepAct 2 none, .fieldLink RX12 409 "SoldHouseModel" "acts" "I", .fieldLink RX12 104 "SoldHouseModel" "was" "[I", .fieldLink RX12 412 "SoldHouseModel" "undone" "I"] ++ wsX120)
def wsX12_carry_r1 : List Cond := [Cond.fieldLink RX12 24 "SoldHouseModel" "doors" "[I", Cond.fieldLink RX12 280 "SoldHouseModel" "bank" "I", Cond.fieldLink RX12 95 "SoldHouseModel" "all" "[I", Cond.methodLink RX12 436 yX12_isThing, Cond.instanceMethod yX12_isThing, Cond.selects RX12 yX12_isThing yX12_isThing, Cond.initialized RX12, Cond.code yX12_isThing cX12_isThing 2 (some .boolean), Cond.methodLink RX12 388 yX12_many, Cond.instanceMethod yX12_many, Cond.selects RX12 yX12_many yX12_many, Cond.code yX12_many cX12_many 1 (some .int), Cond.fieldLink RX12 27 "SoldHouseModel" "things" "[I", Cond.methodLink RX12 381 yX12_isIn, Cond.static yX12_isIn, Cond.code yX12_isIn cX12_isIn 3 (some .boolean), Cond.methodLink RX12 391 yX12_oneOf, Cond.instanceMethod yX12_oneOf, Cond.selects RX12 yX12_oneOf yX12_oneOf, Cond.code yX12_oneOf cX12_oneOf 2 (some .int), Cond.fieldLink RX12 39 "SoldHouseModel" "one" "[I", Cond.methodLink RX12 394 yX12_otherOf, Cond.instanceMethod yX12_otherOf, Cond.selects RX12 yX12_otherOf yX12_otherOf]
def wsX12_carry_r2 : List Cond := [Cond.code yX12_otherOf cX12_otherOf 2 (some .int), Cond.fieldLink RX12 42 "SoldHouseModel" "other" "[I", Cond.methodLink RX12 448 yX12_keepAct, Cond.instanceMethod yX12_keepAct, Cond.selects RX12 yX12_keepAct yX12_keepAct, Cond.code yX12_keepAct cX12_keepAct 2 none, Cond.fieldLink RX12 409 "SoldHouseModel" "acts" "I", Cond.fieldLink RX12 104 "SoldHouseModel" "was" "[I", Cond.fieldLink RX12 412 "SoldHouseModel" "undone" "I"]
def wsX12_carry : List Cond := .code yX12_carry cX12_carry 4 (some .int) :: ((wsX12_carry_r1 ++ wsX12_carry_r2) ++ wsX120)
def wsX12_undo : List Cond := .code yX12_undo cX12_undo 1 (some .boolean) :: ([.fieldLink RX12 409 "SoldHouseModel" "acts" "I", .fieldLink RX12 412 "SoldHouseModel" "undone" "I", .methodLink RX12 457 yX12_exchange, .instanceMethod yX12_exchange, .selects RX12 yX12_exchange yX12_exchange, .initialized RX12, .code yX12_exchange cX12_exchange 3 none, .fieldLink RX12 104 "SoldHouseModel" "was" "[I", .fieldLink RX12 95 "SoldHouseModel" "all" "[I"] ++ wsX120)
def wsX12_redo : List Cond := .code yX12_redo cX12_redo 1 (some .boolean) :: ([.fieldLink RX12 412 "SoldHouseModel" "undone" "I", .fieldLink RX12 409 "SoldHouseModel" "acts" "I", .methodLink RX12 457 yX12_exchange, .instanceMethod yX12_exchange, .selects RX12 yX12_exchange yX12_exchange, .initialized RX12, .code yX12_exchange cX12_exchange 3 none, .fieldLink RX12 104 "SoldHouseModel" "was" "[I", .fieldLink RX12 95 "SoldHouseModel" "all" "[I"] ++ wsX120)
def wsX12_lies : List Cond := .code yX12_lies cX12_lies 2 (some .int) :: ([.fieldLink RX12 418 "SoldHouseModel" "laid" "I", .fieldLink RX12 113 "SoldHouseModel" "laidRow" "[I", .methodLink RX12 381 yX12_isIn, .static yX12_isIn, .initialized RX12, .code yX12_isIn cX12_isIn 3 (some .boolean)] ++ wsX120)
def wsX12_ways_r1 : List Cond := [Cond.fieldLink RX12 116 "SoldHouseModel" "waysTo" "[I", Cond.methodLink RX12 445 yX12_areRooms, Cond.instanceMethod yX12_areRooms, Cond.selects RX12 yX12_areRooms yX12_areRooms, Cond.initialized RX12, Cond.code yX12_areRooms cX12_areRooms 3 (some .boolean), Cond.methodLink RX12 385 yX12_isRoom, Cond.instanceMethod yX12_isRoom, Cond.selects RX12 yX12_isRoom yX12_isRoom, Cond.code yX12_isRoom cX12_isRoom 2 (some .boolean), Cond.methodLink RX12 378 yX12_places, Cond.instanceMethod yX12_places, Cond.selects RX12 yX12_places yX12_places, Cond.code yX12_places cX12_places 1 (some .int), Cond.fieldLink RX12 20 "SoldHouseModel" "rooms" "[I", Cond.fieldLink RX12 280 "SoldHouseModel" "bank" "I", Cond.methodLink RX12 381 yX12_isIn, Cond.static yX12_isIn, Cond.code yX12_isIn cX12_isIn 3 (some .boolean), Cond.methodLink RX12 421 yX12_farOf, Cond.instanceMethod yX12_farOf, Cond.selects RX12 yX12_farOf yX12_farOf, Cond.code yX12_farOf cX12_farOf 3 (some .int), Cond.fieldLink RX12 98 "SoldHouseModel" "table" "[I"]
def wsX12_ways_r2 : List Cond := [Cond.methodLink RX12 400 yX12_behind, Cond.instanceMethod yX12_behind, Cond.selects RX12 yX12_behind yX12_behind, Cond.code yX12_behind cX12_behind 5 (some .int), Cond.fieldLink RX12 24 "SoldHouseModel" "doors" "[I", Cond.methodLink RX12 391 yX12_oneOf, Cond.instanceMethod yX12_oneOf, Cond.selects RX12 yX12_oneOf yX12_oneOf, Cond.code yX12_oneOf cX12_oneOf 2 (some .int), Cond.fieldLink RX12 39 "SoldHouseModel" "one" "[I", Cond.methodLink RX12 394 yX12_otherOf, Cond.instanceMethod yX12_otherOf, Cond.selects RX12 yX12_otherOf yX12_otherOf, Cond.code yX12_otherOf cX12_otherOf 2 (some .int), Cond.fieldLink RX12 42 "SoldHouseModel" "other" "[I", Cond.methodLink RX12 397 yX12_has, Cond.static yX12_has, Cond.code yX12_has cX12_has 2 (some .boolean)]
def wsX12_ways : List Cond := .code yX12_ways cX12_ways 6 (some .int) :: ((wsX12_ways_r1 ++ wsX12_ways_r2) ++ wsX120)
def wsX12_pieces_r1 : List Cond := [Cond.methodLink RX12 378 yX12_places, Cond.instanceMethod yX12_places, Cond.selects RX12 yX12_places yX12_places, Cond.initialized RX12, Cond.code yX12_places cX12_places 1 (some .int), Cond.fieldLink RX12 20 "SoldHouseModel" "rooms" "[I", Cond.fieldLink RX12 280 "SoldHouseModel" "bank" "I", Cond.methodLink RX12 397 yX12_has, Cond.static yX12_has, Cond.code yX12_has cX12_has 2 (some .boolean), Cond.methodLink RX12 403 yX12_joined, Cond.instanceMethod yX12_joined, Cond.selects RX12 yX12_joined yX12_joined, Cond.code yX12_joined cX12_joined 7 (some .int), Cond.methodLink RX12 400 yX12_behind, Cond.instanceMethod yX12_behind, Cond.selects RX12 yX12_behind yX12_behind, Cond.code yX12_behind cX12_behind 5 (some .int), Cond.fieldLink RX12 24 "SoldHouseModel" "doors" "[I", Cond.methodLink RX12 391 yX12_oneOf, Cond.instanceMethod yX12_oneOf, Cond.selects RX12 yX12_oneOf yX12_oneOf, Cond.code yX12_oneOf cX12_oneOf 2 (some .int), Cond.fieldLink RX12 39 "SoldHouseModel" "one" "[I"]
def wsX12_pieces_r2 : List Cond := [Cond.methodLink RX12 394 yX12_otherOf, Cond.instanceMethod yX12_otherOf, Cond.selects RX12 yX12_otherOf yX12_otherOf, Cond.code yX12_otherOf cX12_otherOf 2 (some .int), Cond.fieldLink RX12 42 "SoldHouseModel" "other" "[I"]
def wsX12_pieces : List Cond := .code yX12_pieces cX12_pieces 4 (some .int) :: ((wsX12_pieces_r1 ++ wsX12_pieces_r2) ++ wsX120)
def wsX12_parts : List Cond := .code yX12_parts cX12_parts 3 (some .int) :: ([.fieldLink RX12 24 "SoldHouseModel" "doors" "[I", .fieldLink RX12 280 "SoldHouseModel" "bank" "I", .methodLink RX12 442 yX12_doesPart, .instanceMethod yX12_doesPart, .selects RX12 yX12_doesPart yX12_doesPart, .initialized RX12, .code yX12_doesPart cX12_doesPart 2 (some .boolean), .fieldLink RX12 101 "SoldHouseModel" "nearSide" "[I", .methodLink RX12 394 yX12_otherOf, .instanceMethod yX12_otherOf, .selects RX12 yX12_otherOf yX12_otherOf, .code yX12_otherOf cX12_otherOf 2 (some .int), .fieldLink RX12 42 "SoldHouseModel" "other" "[I", .methodLink RX12 397 yX12_has, .static yX12_has, .code yX12_has cX12_has 2 (some .boolean)] ++ wsX120)
def wsX12_hunt_r1 : List Cond := [Cond.fieldLink RX12 122 "SoldHouseModel" "hunts" "[I", Cond.methodLink RX12 472 yX12_isSet, Cond.instanceMethod yX12_isSet, Cond.selects RX12 yX12_isSet yX12_isSet, Cond.initialized RX12, Cond.code yX12_isSet cX12_isSet 2 (some .boolean), Cond.methodLink RX12 378 yX12_places, Cond.instanceMethod yX12_places, Cond.selects RX12 yX12_places yX12_places, Cond.code yX12_places cX12_places 1 (some .int), Cond.fieldLink RX12 20 "SoldHouseModel" "rooms" "[I", Cond.fieldLink RX12 280 "SoldHouseModel" "bank" "I", Cond.methodLink RX12 381 yX12_isIn, Cond.static yX12_isIn, Cond.code yX12_isIn cX12_isIn 3 (some .boolean), Cond.methodLink RX12 475 yX12_layHunts, Cond.instanceMethod yX12_layHunts, Cond.selects RX12 yX12_layHunts yX12_layHunts, Cond.code yX12_layHunts cX12_layHunts 5 none, Cond.fieldLink RX12 125 "SoldHouseModel" "firsts" "[I", Cond.fieldLink RX12 24 "SoldHouseModel" "doors" "[I", Cond.fieldLink RX12 101 "SoldHouseModel" "nearSide" "[I", Cond.methodLink RX12 469 yX12_bitsOf, Cond.static yX12_bitsOf]
def wsX12_hunt_r2 : List Cond := [Cond.code yX12_bitsOf cX12_bitsOf 3 (some .int), Cond.methodLink RX12 442 yX12_doesPart, Cond.instanceMethod yX12_doesPart, Cond.selects RX12 yX12_doesPart yX12_doesPart, Cond.code yX12_doesPart cX12_doesPart 2 (some .boolean), Cond.methodLink RX12 394 yX12_otherOf, Cond.instanceMethod yX12_otherOf, Cond.selects RX12 yX12_otherOf yX12_otherOf, Cond.code yX12_otherOf cX12_otherOf 2 (some .int), Cond.fieldLink RX12 42 "SoldHouseModel" "other" "[I", Cond.methodLink RX12 397 yX12_has, Cond.static yX12_has, Cond.code yX12_has cX12_has 2 (some .boolean)]
def wsX12_hunt : List Cond := .code yX12_hunt cX12_hunt 2 (some .int) :: ((wsX12_hunt_r1 ++ wsX12_hunt_r2) ++ wsX120)
def wsX12_first_r1 : List Cond := [Cond.fieldLink RX12 122 "SoldHouseModel" "hunts" "[I", Cond.fieldLink RX12 125 "SoldHouseModel" "firsts" "[I", Cond.methodLink RX12 472 yX12_isSet, Cond.instanceMethod yX12_isSet, Cond.selects RX12 yX12_isSet yX12_isSet, Cond.initialized RX12, Cond.code yX12_isSet cX12_isSet 2 (some .boolean), Cond.methodLink RX12 378 yX12_places, Cond.instanceMethod yX12_places, Cond.selects RX12 yX12_places yX12_places, Cond.code yX12_places cX12_places 1 (some .int), Cond.fieldLink RX12 20 "SoldHouseModel" "rooms" "[I", Cond.fieldLink RX12 280 "SoldHouseModel" "bank" "I", Cond.methodLink RX12 381 yX12_isIn, Cond.static yX12_isIn, Cond.code yX12_isIn cX12_isIn 3 (some .boolean), Cond.methodLink RX12 475 yX12_layHunts, Cond.instanceMethod yX12_layHunts, Cond.selects RX12 yX12_layHunts yX12_layHunts, Cond.code yX12_layHunts cX12_layHunts 5 none, Cond.fieldLink RX12 24 "SoldHouseModel" "doors" "[I", Cond.fieldLink RX12 101 "SoldHouseModel" "nearSide" "[I", Cond.methodLink RX12 469 yX12_bitsOf, Cond.static yX12_bitsOf]
def wsX12_first_r2 : List Cond := [Cond.code yX12_bitsOf cX12_bitsOf 3 (some .int), Cond.methodLink RX12 442 yX12_doesPart, Cond.instanceMethod yX12_doesPart, Cond.selects RX12 yX12_doesPart yX12_doesPart, Cond.code yX12_doesPart cX12_doesPart 2 (some .boolean), Cond.methodLink RX12 394 yX12_otherOf, Cond.instanceMethod yX12_otherOf, Cond.selects RX12 yX12_otherOf yX12_otherOf, Cond.code yX12_otherOf cX12_otherOf 2 (some .int), Cond.fieldLink RX12 42 "SoldHouseModel" "other" "[I", Cond.methodLink RX12 397 yX12_has, Cond.static yX12_has, Cond.code yX12_has cX12_has 2 (some .boolean)]
def wsX12_first : List Cond := .code yX12_first cX12_first 2 (some .int) :: ((wsX12_first_r1 ++ wsX12_first_r2) ++ wsX120)
def wsX12_meet : List Cond := .code yX12_meet cX12_meet 8 (some .int) :: ([.methodLink RX12 445 yX12_areRooms, .instanceMethod yX12_areRooms, .selects RX12 yX12_areRooms yX12_areRooms, .initialized RX12, .code yX12_areRooms cX12_areRooms 3 (some .boolean), .methodLink RX12 385 yX12_isRoom, .instanceMethod yX12_isRoom, .selects RX12 yX12_isRoom yX12_isRoom, .code yX12_isRoom cX12_isRoom 2 (some .boolean), .methodLink RX12 378 yX12_places, .instanceMethod yX12_places, .selects RX12 yX12_places yX12_places, .code yX12_places cX12_places 1 (some .int), .fieldLink RX12 20 "SoldHouseModel" "rooms" "[I", .fieldLink RX12 280 "SoldHouseModel" "bank" "I", .methodLink RX12 381 yX12_isIn, .static yX12_isIn, .code yX12_isIn cX12_isIn 3 (some .boolean), .methodLink RX12 421 yX12_farOf, .instanceMethod yX12_farOf, .selects RX12 yX12_farOf yX12_farOf, .code yX12_farOf cX12_farOf 3 (some .int), .fieldLink RX12 98 "SoldHouseModel" "table" "[I"] ++ wsX120)
def wsX12_bar_r1 : List Cond := [Cond.methodLink RX12 445 yX12_areRooms, Cond.instanceMethod yX12_areRooms, Cond.selects RX12 yX12_areRooms yX12_areRooms, Cond.initialized RX12, Cond.code yX12_areRooms cX12_areRooms 3 (some .boolean), Cond.methodLink RX12 385 yX12_isRoom, Cond.instanceMethod yX12_isRoom, Cond.selects RX12 yX12_isRoom yX12_isRoom, Cond.code yX12_isRoom cX12_isRoom 2 (some .boolean), Cond.methodLink RX12 378 yX12_places, Cond.instanceMethod yX12_places, Cond.selects RX12 yX12_places yX12_places, Cond.code yX12_places cX12_places 1 (some .int), Cond.fieldLink RX12 20 "SoldHouseModel" "rooms" "[I", Cond.fieldLink RX12 280 "SoldHouseModel" "bank" "I", Cond.methodLink RX12 381 yX12_isIn, Cond.static yX12_isIn, Cond.code yX12_isIn cX12_isIn 3 (some .boolean), Cond.methodLink RX12 478 yX12_barOf, Cond.instanceMethod yX12_barOf, Cond.selects RX12 yX12_barOf yX12_barOf, Cond.code yX12_barOf cX12_barOf 6 (some .int), Cond.fieldLink RX12 107 "SoldHouseModel" "toGoal" "[I", Cond.methodLink RX12 463 yX12_weighAlike]
def wsX12_bar_r2 : List Cond := [Cond.instanceMethod yX12_weighAlike, Cond.selects RX12 yX12_weighAlike yX12_weighAlike, Cond.code yX12_weighAlike cX12_weighAlike 2 none, Cond.fieldLink RX12 110 "SoldHouseModel" "weight" "[I", Cond.methodLink RX12 469 yX12_bitsOf, Cond.static yX12_bitsOf, Cond.code yX12_bitsOf cX12_bitsOf 3 (some .int), Cond.methodLink RX12 460 yX12_layGoal, Cond.instanceMethod yX12_layGoal, Cond.selects RX12 yX12_layGoal yX12_layGoal, Cond.code yX12_layGoal cX12_layGoal 7 none, Cond.fieldLink RX12 24 "SoldHouseModel" "doors" "[I", Cond.methodLink RX12 391 yX12_oneOf, Cond.instanceMethod yX12_oneOf, Cond.selects RX12 yX12_oneOf yX12_oneOf, Cond.code yX12_oneOf cX12_oneOf 2 (some .int), Cond.fieldLink RX12 39 "SoldHouseModel" "one" "[I", Cond.methodLink RX12 394 yX12_otherOf, Cond.instanceMethod yX12_otherOf, Cond.selects RX12 yX12_otherOf yX12_otherOf, Cond.code yX12_otherOf cX12_otherOf 2 (some .int), Cond.fieldLink RX12 42 "SoldHouseModel" "other" "[I", Cond.methodLink RX12 397 yX12_has, Cond.static yX12_has]
def wsX12_bar_r3 : List Cond := [Cond.code yX12_has cX12_has 2 (some .boolean)]
def wsX12_bar : List Cond := .code yX12_bar cX12_bar 5 (some .int) :: ((wsX12_bar_r1 ++ (wsX12_bar_r2 ++ wsX12_bar_r3)) ++ wsX120)
def wsX12_centre : List Cond := .code yX12_centre cX12_centre 3 (some .int) :: ([.methodLink RX12 378 yX12_places, .instanceMethod yX12_places, .selects RX12 yX12_places yX12_places, .initialized RX12, .code yX12_places cX12_places 1 (some .int), .fieldLink RX12 20 "SoldHouseModel" "rooms" "[I", .fieldLink RX12 280 "SoldHouseModel" "bank" "I", .methodLink RX12 484 yX12_farthest, .instanceMethod yX12_farthest, .selects RX12 yX12_farthest yX12_farthest, .code yX12_farthest cX12_farthest 4 (some .int), .methodLink RX12 421 yX12_farOf, .instanceMethod yX12_farOf, .selects RX12 yX12_farOf yX12_farOf, .code yX12_farOf cX12_farOf 3 (some .int), .fieldLink RX12 98 "SoldHouseModel" "table" "[I"] ++ wsX120)
def wsX12_nooks_r1 : List Cond := [Cond.methodLink RX12 378 yX12_places, Cond.instanceMethod yX12_places, Cond.selects RX12 yX12_places yX12_places, Cond.initialized RX12, Cond.code yX12_places cX12_places 1 (some .int), Cond.fieldLink RX12 20 "SoldHouseModel" "rooms" "[I", Cond.fieldLink RX12 280 "SoldHouseModel" "bank" "I", Cond.methodLink RX12 400 yX12_behind, Cond.instanceMethod yX12_behind, Cond.selects RX12 yX12_behind yX12_behind, Cond.code yX12_behind cX12_behind 5 (some .int), Cond.fieldLink RX12 24 "SoldHouseModel" "doors" "[I", Cond.methodLink RX12 391 yX12_oneOf, Cond.instanceMethod yX12_oneOf, Cond.selects RX12 yX12_oneOf yX12_oneOf, Cond.code yX12_oneOf cX12_oneOf 2 (some .int), Cond.fieldLink RX12 39 "SoldHouseModel" "one" "[I", Cond.methodLink RX12 394 yX12_otherOf, Cond.instanceMethod yX12_otherOf, Cond.selects RX12 yX12_otherOf yX12_otherOf, Cond.code yX12_otherOf cX12_otherOf 2 (some .int), Cond.fieldLink RX12 42 "SoldHouseModel" "other" "[I", Cond.methodLink RX12 469 yX12_bitsOf, Cond.static yX12_bitsOf]
def wsX12_nooks_r2 : List Cond := [Cond.code yX12_bitsOf cX12_bitsOf 3 (some .int)]
def wsX12_nooks : List Cond := .code yX12_nooks cX12_nooks 3 (some .int) :: ((wsX12_nooks_r1 ++ wsX12_nooks_r2) ++ wsX120)
def wsX12_echo : List Cond := .code yX12_echo cX12_echo 5 (some .int) :: ([.methodLink RX12 385 yX12_isRoom, .instanceMethod yX12_isRoom, .selects RX12 yX12_isRoom yX12_isRoom, .initialized RX12, .code yX12_isRoom cX12_isRoom 2 (some .boolean), .methodLink RX12 378 yX12_places, .instanceMethod yX12_places, .selects RX12 yX12_places yX12_places, .code yX12_places cX12_places 1 (some .int), .fieldLink RX12 20 "SoldHouseModel" "rooms" "[I", .fieldLink RX12 280 "SoldHouseModel" "bank" "I", .methodLink RX12 381 yX12_isIn, .static yX12_isIn, .code yX12_isIn cX12_isIn 3 (some .boolean), .methodLink RX12 421 yX12_farOf, .instanceMethod yX12_farOf, .selects RX12 yX12_farOf yX12_farOf, .code yX12_farOf cX12_farOf 3 (some .int), .fieldLink RX12 98 "SoldHouseModel" "table" "[I", .methodLink RX12 430 yX12_creakOf, .instanceMethod yX12_creakOf, .selects RX12 yX12_creakOf yX12_creakOf, .code yX12_creakOf cX12_creakOf 2 (some .int), .fieldLink RX12 36 "SoldHouseModel" "creaks" "[I"] ++ wsX120)
def wsX12_mend : List Cond := .code yX12_mend cX12_mend 6 (some .int) :: ([.fieldLink RX12 95 "SoldHouseModel" "all" "[I", .methodLink RX12 381 yX12_isIn, .static yX12_isIn, .initialized RX12, .code yX12_isIn cX12_isIn 3 (some .boolean), .methodLink RX12 388 yX12_many, .instanceMethod yX12_many, .selects RX12 yX12_many yX12_many, .code yX12_many cX12_many 1 (some .int), .fieldLink RX12 27 "SoldHouseModel" "things" "[I", .fieldLink RX12 280 "SoldHouseModel" "bank" "I", .methodLink RX12 421 yX12_farOf, .instanceMethod yX12_farOf, .selects RX12 yX12_farOf yX12_farOf, .code yX12_farOf cX12_farOf 3 (some .int), .fieldLink RX12 98 "SoldHouseModel" "table" "[I"] ++ wsX120)
def wsX12_regret : List Cond := .code yX12_regret cX12_regret 3 (some .int) :: ([.fieldLink RX12 95 "SoldHouseModel" "all" "[I", .methodLink RX12 388 yX12_many, .instanceMethod yX12_many, .selects RX12 yX12_many yX12_many, .initialized RX12, .code yX12_many cX12_many 1 (some .int), .fieldLink RX12 27 "SoldHouseModel" "things" "[I", .fieldLink RX12 280 "SoldHouseModel" "bank" "I", .methodLink RX12 487 yX12_worthOf, .instanceMethod yX12_worthOf, .selects RX12 yX12_worthOf yX12_worthOf, .code yX12_worthOf cX12_worthOf 3 (some .int), .fieldLink RX12 54 "SoldHouseModel" "toUs" "[I", .fieldLink RX12 57 "SoldHouseModel" "toThem" "[I"] ++ wsX120)
def wsX12_trade : List Cond := .code yX12_trade cX12_trade 5 (some .int) :: ([.methodLink RX12 381 yX12_isIn, .static yX12_isIn, .initialized RX12, .code yX12_isIn cX12_isIn 3 (some .boolean), .methodLink RX12 388 yX12_many, .instanceMethod yX12_many, .selects RX12 yX12_many yX12_many, .code yX12_many cX12_many 1 (some .int), .fieldLink RX12 27 "SoldHouseModel" "things" "[I", .fieldLink RX12 280 "SoldHouseModel" "bank" "I", .methodLink RX12 490 yX12_gainOf, .instanceMethod yX12_gainOf, .selects RX12 yX12_gainOf yX12_gainOf, .code yX12_gainOf cX12_gainOf 5 (some .int), .fieldLink RX12 95 "SoldHouseModel" "all" "[I", .methodLink RX12 487 yX12_worthOf, .instanceMethod yX12_worthOf, .selects RX12 yX12_worthOf yX12_worthOf, .code yX12_worthOf cX12_worthOf 3 (some .int), .fieldLink RX12 54 "SoldHouseModel" "toUs" "[I", .fieldLink RX12 57 "SoldHouseModel" "toThem" "[I"] ++ wsX120)
def wsX12_wealth : List Cond := .code yX12_wealth cX12_wealth 4 (some .int) :: ([.fieldLink RX12 95 "SoldHouseModel" "all" "[I", .methodLink RX12 381 yX12_isIn, .static yX12_isIn, .initialized RX12, .code yX12_isIn cX12_isIn 3 (some .boolean), .methodLink RX12 388 yX12_many, .instanceMethod yX12_many, .selects RX12 yX12_many yX12_many, .code yX12_many cX12_many 1 (some .int), .fieldLink RX12 27 "SoldHouseModel" "things" "[I", .fieldLink RX12 280 "SoldHouseModel" "bank" "I", .methodLink RX12 487 yX12_worthOf, .instanceMethod yX12_worthOf, .selects RX12 yX12_worthOf yX12_worthOf, .code yX12_worthOf cX12_worthOf 3 (some .int), .fieldLink RX12 54 "SoldHouseModel" "toUs" "[I", .fieldLink RX12 57 "SoldHouseModel" "toThem" "[I"] ++ wsX120)
def wsX12_off : List Cond := .code yX12_off cX12_off 3 (some .int) :: ([.methodLink RX12 388 yX12_many, .instanceMethod yX12_many, .selects RX12 yX12_many yX12_many, .initialized RX12, .code yX12_many cX12_many 1 (some .int), .fieldLink RX12 27 "SoldHouseModel" "things" "[I", .fieldLink RX12 280 "SoldHouseModel" "bank" "I", .methodLink RX12 368 yX12_offOf, .instanceMethod yX12_offOf, .selects RX12 yX12_offOf yX12_offOf, .code yX12_offOf cX12_offOf 2 (some .int), .fieldLink RX12 95 "SoldHouseModel" "all" "[I", .methodLink RX12 421 yX12_farOf, .instanceMethod yX12_farOf, .selects RX12 yX12_farOf yX12_farOf, .code yX12_farOf cX12_farOf 3 (some .int), .fieldLink RX12 98 "SoldHouseModel" "table" "[I", .methodLink RX12 424 yX12_lesser, .static yX12_lesser, .code yX12_lesser cX12_lesser 2 (some .int)] ++ wsX120)
def wsX12_rightOnes : List Cond := .code yX12_rightOnes cX12_rightOnes 3 (some .int) :: ([.fieldLink RX12 95 "SoldHouseModel" "all" "[I", .methodLink RX12 388 yX12_many, .instanceMethod yX12_many, .selects RX12 yX12_many yX12_many, .initialized RX12, .code yX12_many cX12_many 1 (some .int), .fieldLink RX12 27 "SoldHouseModel" "things" "[I", .fieldLink RX12 280 "SoldHouseModel" "bank" "I"] ++ wsX120)
def wsX12_right : List Cond := .code yX12_right cX12_right 1 (some .int) :: ([.methodLink RX12 493 yX12_rightOnes, .instanceMethod yX12_rightOnes, .selects RX12 yX12_rightOnes yX12_rightOnes, .initialized RX12, .code yX12_rightOnes cX12_rightOnes 3 (some .int), .fieldLink RX12 95 "SoldHouseModel" "all" "[I", .methodLink RX12 388 yX12_many, .instanceMethod yX12_many, .selects RX12 yX12_many yX12_many, .code yX12_many cX12_many 1 (some .int), .fieldLink RX12 27 "SoldHouseModel" "things" "[I", .fieldLink RX12 280 "SoldHouseModel" "bank" "I"] ++ wsX120)
def wsX12_deep : List Cond := .code yX12_deep cX12_deep 4 (some .int) :: ([.fieldLink RX12 95 "SoldHouseModel" "all" "[I", .methodLink RX12 381 yX12_isIn, .static yX12_isIn, .initialized RX12, .code yX12_isIn cX12_isIn 3 (some .boolean), .methodLink RX12 388 yX12_many, .instanceMethod yX12_many, .selects RX12 yX12_many yX12_many, .code yX12_many cX12_many 1 (some .int), .fieldLink RX12 27 "SoldHouseModel" "things" "[I", .fieldLink RX12 280 "SoldHouseModel" "bank" "I"] ++ wsX120)
def wsX12_stay_r1 : List Cond := [Cond.fieldLink RX12 95 "SoldHouseModel" "all" "[I", Cond.methodLink RX12 436 yX12_isThing, Cond.instanceMethod yX12_isThing, Cond.selects RX12 yX12_isThing yX12_isThing, Cond.initialized RX12, Cond.code yX12_isThing cX12_isThing 2 (some .boolean), Cond.methodLink RX12 388 yX12_many, Cond.instanceMethod yX12_many, Cond.selects RX12 yX12_many yX12_many, Cond.code yX12_many cX12_many 1 (some .int), Cond.fieldLink RX12 27 "SoldHouseModel" "things" "[I", Cond.fieldLink RX12 280 "SoldHouseModel" "bank" "I", Cond.methodLink RX12 381 yX12_isIn, Cond.static yX12_isIn, Cond.code yX12_isIn cX12_isIn 3 (some .boolean), Cond.methodLink RX12 439 yX12_sureOf, Cond.instanceMethod yX12_sureOf, Cond.selects RX12 yX12_sureOf yX12_sureOf, Cond.code yX12_sureOf cX12_sureOf 3 (some .int), Cond.fieldLink RX12 66 "SoldHouseModel" "hasSure" "[Z", Cond.fieldLink RX12 365 "SoldHouseModel" "askThing" "I", Cond.methodLink RX12 427 yX12_comes, Cond.instanceMethod yX12_comes, Cond.selects RX12 yX12_comes yX12_comes]
def wsX12_stay_r2 : List Cond := [Cond.code yX12_comes cX12_comes 4 (some .int), Cond.fieldLink RX12 60 "SoldHouseModel" "ruleFrom" "[I", Cond.fieldLink RX12 63 "SoldHouseModel" "ruleTo" "[I", Cond.fieldLink RX12 80 "SoldHouseModel" "code" "[I", Cond.fieldLink RX12 92 "SoldHouseModel" "pile" "[I", Cond.fieldLink RX12 83 "SoldHouseModel" "codeNumber" "[I", Cond.methodLink RX12 226 yX12_isLetter, Cond.static yX12_isLetter, Cond.code yX12_isLetter cX12_isLetter 1 (some .boolean), Cond.methodLink RX12 371 yX12_asked, Cond.instanceMethod yX12_asked, Cond.selects RX12 yX12_asked yX12_asked, Cond.code yX12_asked cX12_asked 3 (some .int), Cond.fieldLink RX12 54 "SoldHouseModel" "toUs" "[I", Cond.fieldLink RX12 57 "SoldHouseModel" "toThem" "[I", Cond.methodLink RX12 368 yX12_offOf, Cond.instanceMethod yX12_offOf, Cond.selects RX12 yX12_offOf yX12_offOf, Cond.code yX12_offOf cX12_offOf 2 (some .int), Cond.methodLink RX12 421 yX12_farOf, Cond.instanceMethod yX12_farOf, Cond.selects RX12 yX12_farOf yX12_farOf, Cond.code yX12_farOf cX12_farOf 3 (some .int), Cond.fieldLink RX12 98 "SoldHouseModel" "table" "[I"]
def wsX12_stay_r3 : List Cond := [Cond.methodLink RX12 424 yX12_lesser, Cond.static yX12_lesser, Cond.code yX12_lesser cX12_lesser 2 (some .int), Cond.methodLink RX12 374 yX12_two, Cond.static yX12_two, Cond.code yX12_two cX12_two 3 (some .int), Cond.methodLink RX12 496 yX12_divisor, Cond.static yX12_divisor, Cond.code yX12_divisor cX12_divisor 5 (some .int)]
def wsX12_stay : List Cond := .code yX12_stay cX12_stay 8 (some .int) :: ((wsX12_stay_r1 ++ (wsX12_stay_r2 ++ wsX12_stay_r3)) ++ wsX120)
def wsX12_will_r1 : List Cond := [Cond.fieldLink RX12 95 "SoldHouseModel" "all" "[I", Cond.methodLink RX12 436 yX12_isThing, Cond.instanceMethod yX12_isThing, Cond.selects RX12 yX12_isThing yX12_isThing, Cond.initialized RX12, Cond.code yX12_isThing cX12_isThing 2 (some .boolean), Cond.methodLink RX12 388 yX12_many, Cond.instanceMethod yX12_many, Cond.selects RX12 yX12_many yX12_many, Cond.code yX12_many cX12_many 1 (some .int), Cond.fieldLink RX12 27 "SoldHouseModel" "things" "[I", Cond.fieldLink RX12 280 "SoldHouseModel" "bank" "I", Cond.methodLink RX12 381 yX12_isIn, Cond.static yX12_isIn, Cond.code yX12_isIn cX12_isIn 3 (some .boolean), Cond.methodLink RX12 499 yX12_keepNow, Cond.instanceMethod yX12_keepNow, Cond.selects RX12 yX12_keepNow yX12_keepNow, Cond.code yX12_keepNow cX12_keepNow 2 none, Cond.fieldLink RX12 134 "SoldHouseModel" "kept" "[I", Cond.methodLink RX12 454 yX12_goDay, Cond.instanceMethod yX12_goDay, Cond.selects RX12 yX12_goDay yX12_goDay, Cond.code yX12_goDay cX12_goDay 3 (some .int)]
def wsX12_will_r2 : List Cond := [Cond.methodLink RX12 439 yX12_sureOf, Cond.instanceMethod yX12_sureOf, Cond.selects RX12 yX12_sureOf yX12_sureOf, Cond.code yX12_sureOf cX12_sureOf 3 (some .int), Cond.fieldLink RX12 66 "SoldHouseModel" "hasSure" "[Z", Cond.fieldLink RX12 365 "SoldHouseModel" "askThing" "I", Cond.methodLink RX12 427 yX12_comes, Cond.instanceMethod yX12_comes, Cond.selects RX12 yX12_comes yX12_comes, Cond.code yX12_comes cX12_comes 4 (some .int), Cond.fieldLink RX12 60 "SoldHouseModel" "ruleFrom" "[I", Cond.fieldLink RX12 63 "SoldHouseModel" "ruleTo" "[I", Cond.fieldLink RX12 80 "SoldHouseModel" "code" "[I", Cond.fieldLink RX12 92 "SoldHouseModel" "pile" "[I", Cond.fieldLink RX12 83 "SoldHouseModel" "codeNumber" "[I", Cond.methodLink RX12 226 yX12_isLetter, Cond.static yX12_isLetter, Cond.code yX12_isLetter cX12_isLetter 1 (some .boolean), Cond.methodLink RX12 371 yX12_asked, Cond.instanceMethod yX12_asked, Cond.selects RX12 yX12_asked yX12_asked, Cond.code yX12_asked cX12_asked 3 (some .int), Cond.fieldLink RX12 54 "SoldHouseModel" "toUs" "[I", Cond.fieldLink RX12 57 "SoldHouseModel" "toThem" "[I"]
def wsX12_will_r3 : List Cond := [Cond.methodLink RX12 368 yX12_offOf, Cond.instanceMethod yX12_offOf, Cond.selects RX12 yX12_offOf yX12_offOf, Cond.code yX12_offOf cX12_offOf 2 (some .int), Cond.methodLink RX12 421 yX12_farOf, Cond.instanceMethod yX12_farOf, Cond.selects RX12 yX12_farOf yX12_farOf, Cond.code yX12_farOf cX12_farOf 3 (some .int), Cond.fieldLink RX12 98 "SoldHouseModel" "table" "[I", Cond.methodLink RX12 424 yX12_lesser, Cond.static yX12_lesser, Cond.code yX12_lesser cX12_lesser 2 (some .int), Cond.methodLink RX12 374 yX12_two, Cond.static yX12_two, Cond.code yX12_two cX12_two 3 (some .int), Cond.methodLink RX12 378 yX12_places, Cond.instanceMethod yX12_places, Cond.selects RX12 yX12_places yX12_places, Cond.code yX12_places cX12_places 1 (some .int), Cond.fieldLink RX12 20 "SoldHouseModel" "rooms" "[I", Cond.methodLink RX12 502 yX12_bringBack, Cond.instanceMethod yX12_bringBack, Cond.selects RX12 yX12_bringBack yX12_bringBack, Cond.code yX12_bringBack cX12_bringBack 2 none]
def wsX12_will : List Cond := .code yX12_will cX12_will 5 (some .int) :: ((wsX12_will_r1 ++ (wsX12_will_r2 ++ wsX12_will_r3)) ++ wsX120)
def wsX12_lost_r1 : List Cond := [Cond.methodLink RX12 388 yX12_many, Cond.instanceMethod yX12_many, Cond.selects RX12 yX12_many yX12_many, Cond.initialized RX12, Cond.code yX12_many cX12_many 1 (some .int), Cond.fieldLink RX12 27 "SoldHouseModel" "things" "[I", Cond.fieldLink RX12 280 "SoldHouseModel" "bank" "I", Cond.methodLink RX12 499 yX12_keepNow, Cond.instanceMethod yX12_keepNow, Cond.selects RX12 yX12_keepNow yX12_keepNow, Cond.code yX12_keepNow cX12_keepNow 2 none, Cond.fieldLink RX12 134 "SoldHouseModel" "kept" "[I", Cond.fieldLink RX12 95 "SoldHouseModel" "all" "[I", Cond.methodLink RX12 493 yX12_rightOnes, Cond.instanceMethod yX12_rightOnes, Cond.selects RX12 yX12_rightOnes yX12_rightOnes, Cond.code yX12_rightOnes cX12_rightOnes 3 (some .int), Cond.methodLink RX12 454 yX12_goDay, Cond.instanceMethod yX12_goDay, Cond.selects RX12 yX12_goDay yX12_goDay, Cond.code yX12_goDay cX12_goDay 3 (some .int), Cond.methodLink RX12 439 yX12_sureOf, Cond.instanceMethod yX12_sureOf, Cond.selects RX12 yX12_sureOf yX12_sureOf]
def wsX12_lost_r2 : List Cond := [Cond.code yX12_sureOf cX12_sureOf 3 (some .int), Cond.fieldLink RX12 66 "SoldHouseModel" "hasSure" "[Z", Cond.fieldLink RX12 365 "SoldHouseModel" "askThing" "I", Cond.methodLink RX12 427 yX12_comes, Cond.instanceMethod yX12_comes, Cond.selects RX12 yX12_comes yX12_comes, Cond.code yX12_comes cX12_comes 4 (some .int), Cond.fieldLink RX12 60 "SoldHouseModel" "ruleFrom" "[I", Cond.fieldLink RX12 63 "SoldHouseModel" "ruleTo" "[I", Cond.fieldLink RX12 80 "SoldHouseModel" "code" "[I", Cond.fieldLink RX12 92 "SoldHouseModel" "pile" "[I", Cond.fieldLink RX12 83 "SoldHouseModel" "codeNumber" "[I", Cond.methodLink RX12 226 yX12_isLetter, Cond.static yX12_isLetter, Cond.code yX12_isLetter cX12_isLetter 1 (some .boolean), Cond.methodLink RX12 371 yX12_asked, Cond.instanceMethod yX12_asked, Cond.selects RX12 yX12_asked yX12_asked, Cond.code yX12_asked cX12_asked 3 (some .int), Cond.fieldLink RX12 54 "SoldHouseModel" "toUs" "[I", Cond.fieldLink RX12 57 "SoldHouseModel" "toThem" "[I", Cond.methodLink RX12 368 yX12_offOf, Cond.instanceMethod yX12_offOf, Cond.selects RX12 yX12_offOf yX12_offOf]
def wsX12_lost_r3 : List Cond := [Cond.code yX12_offOf cX12_offOf 2 (some .int), Cond.methodLink RX12 421 yX12_farOf, Cond.instanceMethod yX12_farOf, Cond.selects RX12 yX12_farOf yX12_farOf, Cond.code yX12_farOf cX12_farOf 3 (some .int), Cond.fieldLink RX12 98 "SoldHouseModel" "table" "[I", Cond.methodLink RX12 424 yX12_lesser, Cond.static yX12_lesser, Cond.code yX12_lesser cX12_lesser 2 (some .int), Cond.methodLink RX12 374 yX12_two, Cond.static yX12_two, Cond.code yX12_two cX12_two 3 (some .int), Cond.methodLink RX12 378 yX12_places, Cond.instanceMethod yX12_places, Cond.selects RX12 yX12_places yX12_places, Cond.code yX12_places cX12_places 1 (some .int), Cond.fieldLink RX12 20 "SoldHouseModel" "rooms" "[I", Cond.methodLink RX12 502 yX12_bringBack, Cond.instanceMethod yX12_bringBack, Cond.selects RX12 yX12_bringBack yX12_bringBack, Cond.code yX12_bringBack cX12_bringBack 2 none]
def wsX12_lost : List Cond := .code yX12_lost cX12_lost 4 (some .int) :: ((wsX12_lost_r1 ++ (wsX12_lost_r2 ++ wsX12_lost_r3)) ++ wsX120)
def wsX12_seen_r1 : List Cond := [Cond.methodLink RX12 385 yX12_isRoom, Cond.instanceMethod yX12_isRoom, Cond.selects RX12 yX12_isRoom yX12_isRoom, Cond.initialized RX12, Cond.code yX12_isRoom cX12_isRoom 2 (some .boolean), Cond.methodLink RX12 378 yX12_places, Cond.instanceMethod yX12_places, Cond.selects RX12 yX12_places yX12_places, Cond.code yX12_places cX12_places 1 (some .int), Cond.fieldLink RX12 20 "SoldHouseModel" "rooms" "[I", Cond.fieldLink RX12 280 "SoldHouseModel" "bank" "I", Cond.methodLink RX12 381 yX12_isIn, Cond.static yX12_isIn, Cond.code yX12_isIn cX12_isIn 3 (some .boolean), Cond.methodLink RX12 508 yX12_told, Cond.instanceMethod yX12_told, Cond.selects RX12 yX12_told yX12_told, Cond.code yX12_told cX12_told 5 (some .int), Cond.fieldLink RX12 415 "SoldHouseModel" "heards" "I", Cond.fieldLink RX12 137 "SoldHouseModel" "hMinute" "[I", Cond.fieldLink RX12 140 "SoldHouseModel" "hCreaks" "[I", Cond.fieldLink RX12 143 "SoldHouseModel" "hRoom" "[I", Cond.fieldLink RX12 146 "SoldHouseModel" "hIs" "[I", Cond.fieldLink RX12 149 "SoldHouseModel" "hTold" "[I"]
def wsX12_seen_r2 : List Cond := [Cond.fieldLink RX12 505 "SoldHouseModel" "time" "I", Cond.fieldLink RX12 152 "SoldHouseModel" "hUntold" "[I"]
def wsX12_seen : List Cond := .code yX12_seen cX12_seen 4 (some .int) :: ((wsX12_seen_r1 ++ wsX12_seen_r2) ++ wsX120)
def wsX12_untell : List Cond := .code yX12_untell cX12_untell 2 (some .boolean) :: ([.fieldLink RX12 415 "SoldHouseModel" "heards" "I", .fieldLink RX12 152 "SoldHouseModel" "hUntold" "[I", .fieldLink RX12 505 "SoldHouseModel" "time" "I", .methodLink RX12 381 yX12_isIn, .static yX12_isIn, .initialized RX12, .code yX12_isIn cX12_isIn 3 (some .boolean)] ++ wsX120)
def wsX12_openAt : List Cond := .code yX12_openAt cX12_openAt 7 (some .int) :: ([.fieldLink RX12 415 "SoldHouseModel" "heards" "I", .fieldLink RX12 137 "SoldHouseModel" "hMinute" "[I", .fieldLink RX12 149 "SoldHouseModel" "hTold" "[I", .fieldLink RX12 152 "SoldHouseModel" "hUntold" "[I", .fieldLink RX12 143 "SoldHouseModel" "hRoom" "[I", .fieldLink RX12 140 "SoldHouseModel" "hCreaks" "[I", .fieldLink RX12 146 "SoldHouseModel" "hIs" "[I", .methodLink RX12 378 yX12_places, .instanceMethod yX12_places, .selects RX12 yX12_places yX12_places, .initialized RX12, .code yX12_places cX12_places 1 (some .int), .fieldLink RX12 20 "SoldHouseModel" "rooms" "[I", .fieldLink RX12 280 "SoldHouseModel" "bank" "I", .methodLink RX12 430 yX12_creakOf, .instanceMethod yX12_creakOf, .selects RX12 yX12_creakOf yX12_creakOf, .code yX12_creakOf cX12_creakOf 2 (some .int), .fieldLink RX12 36 "SoldHouseModel" "creaks" "[I"] ++ wsX120)
def wsX12_stepOn_r1 : List Cond := [Cond.fieldLink RX12 119 "SoldHouseModel" "waysThen" "[I", Cond.fieldLink RX12 116 "SoldHouseModel" "waysTo" "[I", Cond.methodLink RX12 378 yX12_places, Cond.instanceMethod yX12_places, Cond.selects RX12 yX12_places yX12_places, Cond.initialized RX12, Cond.code yX12_places cX12_places 1 (some .int), Cond.fieldLink RX12 20 "SoldHouseModel" "rooms" "[I", Cond.fieldLink RX12 280 "SoldHouseModel" "bank" "I", Cond.methodLink RX12 400 yX12_behind, Cond.instanceMethod yX12_behind, Cond.selects RX12 yX12_behind yX12_behind, Cond.code yX12_behind cX12_behind 5 (some .int), Cond.fieldLink RX12 24 "SoldHouseModel" "doors" "[I", Cond.methodLink RX12 391 yX12_oneOf, Cond.instanceMethod yX12_oneOf, Cond.selects RX12 yX12_oneOf yX12_oneOf, Cond.code yX12_oneOf cX12_oneOf 2 (some .int), Cond.fieldLink RX12 39 "SoldHouseModel" "one" "[I", Cond.methodLink RX12 394 yX12_otherOf, Cond.instanceMethod yX12_otherOf, Cond.selects RX12 yX12_otherOf yX12_otherOf, Cond.code yX12_otherOf cX12_otherOf 2 (some .int), Cond.fieldLink RX12 42 "SoldHouseModel" "other" "[I"]
def wsX12_stepOn_r2 : List Cond := [Cond.methodLink RX12 397 yX12_has, Cond.static yX12_has, Cond.code yX12_has cX12_has 2 (some .boolean)]
def wsX12_stepOn : List Cond := .code yX12_stepOn cX12_stepOn 5 none :: ((wsX12_stepOn_r1 ++ wsX12_stepOn_r2) ++ wsX120)
def wsX12_layWalks_r1 : List Cond := [Cond.fieldLink RX12 116 "SoldHouseModel" "waysTo" "[I", Cond.fieldLink RX12 155 "SoldHouseModel" "waysAt" "[I", Cond.fieldLink RX12 158 "SoldHouseModel" "waysOn" "[I", Cond.methodLink RX12 378 yX12_places, Cond.instanceMethod yX12_places, Cond.selects RX12 yX12_places yX12_places, Cond.initialized RX12, Cond.code yX12_places cX12_places 1 (some .int), Cond.fieldLink RX12 20 "SoldHouseModel" "rooms" "[I", Cond.fieldLink RX12 280 "SoldHouseModel" "bank" "I", Cond.methodLink RX12 513 yX12_openAt, Cond.instanceMethod yX12_openAt, Cond.selects RX12 yX12_openAt yX12_openAt, Cond.code yX12_openAt cX12_openAt 7 (some .int), Cond.fieldLink RX12 415 "SoldHouseModel" "heards" "I", Cond.fieldLink RX12 137 "SoldHouseModel" "hMinute" "[I", Cond.fieldLink RX12 149 "SoldHouseModel" "hTold" "[I", Cond.fieldLink RX12 152 "SoldHouseModel" "hUntold" "[I", Cond.fieldLink RX12 143 "SoldHouseModel" "hRoom" "[I", Cond.fieldLink RX12 140 "SoldHouseModel" "hCreaks" "[I", Cond.fieldLink RX12 146 "SoldHouseModel" "hIs" "[I", Cond.methodLink RX12 430 yX12_creakOf, Cond.instanceMethod yX12_creakOf, Cond.selects RX12 yX12_creakOf yX12_creakOf]
def wsX12_layWalks_r2 : List Cond := [Cond.code yX12_creakOf cX12_creakOf 2 (some .int), Cond.fieldLink RX12 36 "SoldHouseModel" "creaks" "[I", Cond.methodLink RX12 516 yX12_stepOn, Cond.instanceMethod yX12_stepOn, Cond.selects RX12 yX12_stepOn yX12_stepOn, Cond.code yX12_stepOn cX12_stepOn 5 none, Cond.fieldLink RX12 119 "SoldHouseModel" "waysThen" "[I", Cond.methodLink RX12 400 yX12_behind, Cond.instanceMethod yX12_behind, Cond.selects RX12 yX12_behind yX12_behind, Cond.code yX12_behind cX12_behind 5 (some .int), Cond.fieldLink RX12 24 "SoldHouseModel" "doors" "[I", Cond.methodLink RX12 391 yX12_oneOf, Cond.instanceMethod yX12_oneOf, Cond.selects RX12 yX12_oneOf yX12_oneOf, Cond.code yX12_oneOf cX12_oneOf 2 (some .int), Cond.fieldLink RX12 39 "SoldHouseModel" "one" "[I", Cond.methodLink RX12 394 yX12_otherOf, Cond.instanceMethod yX12_otherOf, Cond.selects RX12 yX12_otherOf yX12_otherOf, Cond.code yX12_otherOf cX12_otherOf 2 (some .int), Cond.fieldLink RX12 42 "SoldHouseModel" "other" "[I", Cond.methodLink RX12 397 yX12_has, Cond.static yX12_has]
def wsX12_layWalks_r3 : List Cond := [Cond.code yX12_has cX12_has 2 (some .boolean)]
def wsX12_layWalks : List Cond := .code yX12_layWalks cX12_layWalks 4 none :: ((wsX12_layWalks_r1 ++ (wsX12_layWalks_r2 ++ wsX12_layWalks_r3)) ++ wsX120)
def wsX12_allWalks : List Cond := .code yX12_allWalks cX12_allWalks 3 (some .int) :: ([.methodLink RX12 378 yX12_places, .instanceMethod yX12_places, .selects RX12 yX12_places yX12_places, .initialized RX12, .code yX12_places cX12_places 1 (some .int), .fieldLink RX12 20 "SoldHouseModel" "rooms" "[I", .fieldLink RX12 280 "SoldHouseModel" "bank" "I", .methodLink RX12 519 yX12_walksBy, .instanceMethod yX12_walksBy, .selects RX12 yX12_walksBy yX12_walksBy, .code yX12_walksBy cX12_walksBy 3 (some .int), .fieldLink RX12 155 "SoldHouseModel" "waysAt" "[I", .fieldLink RX12 158 "SoldHouseModel" "waysOn" "[I"] ++ wsX120)
def wsX12_walks_r1 : List Cond := [Cond.methodLink RX12 522 yX12_layWalks, Cond.instanceMethod yX12_layWalks, Cond.selects RX12 yX12_layWalks yX12_layWalks, Cond.initialized RX12, Cond.code yX12_layWalks cX12_layWalks 4 none, Cond.fieldLink RX12 116 "SoldHouseModel" "waysTo" "[I", Cond.fieldLink RX12 155 "SoldHouseModel" "waysAt" "[I", Cond.fieldLink RX12 158 "SoldHouseModel" "waysOn" "[I", Cond.methodLink RX12 378 yX12_places, Cond.instanceMethod yX12_places, Cond.selects RX12 yX12_places yX12_places, Cond.code yX12_places cX12_places 1 (some .int), Cond.fieldLink RX12 20 "SoldHouseModel" "rooms" "[I", Cond.fieldLink RX12 280 "SoldHouseModel" "bank" "I", Cond.methodLink RX12 513 yX12_openAt, Cond.instanceMethod yX12_openAt, Cond.selects RX12 yX12_openAt yX12_openAt, Cond.code yX12_openAt cX12_openAt 7 (some .int), Cond.fieldLink RX12 415 "SoldHouseModel" "heards" "I", Cond.fieldLink RX12 137 "SoldHouseModel" "hMinute" "[I", Cond.fieldLink RX12 149 "SoldHouseModel" "hTold" "[I", Cond.fieldLink RX12 152 "SoldHouseModel" "hUntold" "[I", Cond.fieldLink RX12 143 "SoldHouseModel" "hRoom" "[I", Cond.fieldLink RX12 140 "SoldHouseModel" "hCreaks" "[I"]
def wsX12_walks_r2 : List Cond := [Cond.fieldLink RX12 146 "SoldHouseModel" "hIs" "[I", Cond.methodLink RX12 430 yX12_creakOf, Cond.instanceMethod yX12_creakOf, Cond.selects RX12 yX12_creakOf yX12_creakOf, Cond.code yX12_creakOf cX12_creakOf 2 (some .int), Cond.fieldLink RX12 36 "SoldHouseModel" "creaks" "[I", Cond.methodLink RX12 516 yX12_stepOn, Cond.instanceMethod yX12_stepOn, Cond.selects RX12 yX12_stepOn yX12_stepOn, Cond.code yX12_stepOn cX12_stepOn 5 none, Cond.fieldLink RX12 119 "SoldHouseModel" "waysThen" "[I", Cond.methodLink RX12 400 yX12_behind, Cond.instanceMethod yX12_behind, Cond.selects RX12 yX12_behind yX12_behind, Cond.code yX12_behind cX12_behind 5 (some .int), Cond.fieldLink RX12 24 "SoldHouseModel" "doors" "[I", Cond.methodLink RX12 391 yX12_oneOf, Cond.instanceMethod yX12_oneOf, Cond.selects RX12 yX12_oneOf yX12_oneOf, Cond.code yX12_oneOf cX12_oneOf 2 (some .int), Cond.fieldLink RX12 39 "SoldHouseModel" "one" "[I", Cond.methodLink RX12 394 yX12_otherOf, Cond.instanceMethod yX12_otherOf, Cond.selects RX12 yX12_otherOf yX12_otherOf]
def wsX12_walks_r3 : List Cond := [Cond.code yX12_otherOf cX12_otherOf 2 (some .int), Cond.fieldLink RX12 42 "SoldHouseModel" "other" "[I", Cond.methodLink RX12 397 yX12_has, Cond.static yX12_has, Cond.code yX12_has cX12_has 2 (some .boolean), Cond.methodLink RX12 525 yX12_allWalks, Cond.instanceMethod yX12_allWalks, Cond.selects RX12 yX12_allWalks yX12_allWalks, Cond.code yX12_allWalks cX12_allWalks 3 (some .int), Cond.methodLink RX12 519 yX12_walksBy, Cond.instanceMethod yX12_walksBy, Cond.selects RX12 yX12_walksBy yX12_walksBy, Cond.code yX12_walksBy cX12_walksBy 3 (some .int)]
def wsX12_walks : List Cond := .code yX12_walks cX12_walks 2 (some .int) :: ((wsX12_walks_r1 ++ (wsX12_walks_r2 ++ wsX12_walks_r3)) ++ wsX120)
def wsX12_certain_r1 : List Cond := [Cond.methodLink RX12 381 yX12_isIn, Cond.static yX12_isIn, Cond.initialized RX12, Cond.code yX12_isIn cX12_isIn 3 (some .boolean), Cond.methodLink RX12 522 yX12_layWalks, Cond.instanceMethod yX12_layWalks, Cond.selects RX12 yX12_layWalks yX12_layWalks, Cond.code yX12_layWalks cX12_layWalks 4 none, Cond.fieldLink RX12 116 "SoldHouseModel" "waysTo" "[I", Cond.fieldLink RX12 155 "SoldHouseModel" "waysAt" "[I", Cond.fieldLink RX12 158 "SoldHouseModel" "waysOn" "[I", Cond.methodLink RX12 378 yX12_places, Cond.instanceMethod yX12_places, Cond.selects RX12 yX12_places yX12_places, Cond.code yX12_places cX12_places 1 (some .int), Cond.fieldLink RX12 20 "SoldHouseModel" "rooms" "[I", Cond.fieldLink RX12 280 "SoldHouseModel" "bank" "I", Cond.methodLink RX12 513 yX12_openAt, Cond.instanceMethod yX12_openAt, Cond.selects RX12 yX12_openAt yX12_openAt, Cond.code yX12_openAt cX12_openAt 7 (some .int), Cond.fieldLink RX12 415 "SoldHouseModel" "heards" "I", Cond.fieldLink RX12 137 "SoldHouseModel" "hMinute" "[I", Cond.fieldLink RX12 149 "SoldHouseModel" "hTold" "[I"]
def wsX12_certain_r2 : List Cond := [Cond.fieldLink RX12 152 "SoldHouseModel" "hUntold" "[I", Cond.fieldLink RX12 143 "SoldHouseModel" "hRoom" "[I", Cond.fieldLink RX12 140 "SoldHouseModel" "hCreaks" "[I", Cond.fieldLink RX12 146 "SoldHouseModel" "hIs" "[I", Cond.methodLink RX12 430 yX12_creakOf, Cond.instanceMethod yX12_creakOf, Cond.selects RX12 yX12_creakOf yX12_creakOf, Cond.code yX12_creakOf cX12_creakOf 2 (some .int), Cond.fieldLink RX12 36 "SoldHouseModel" "creaks" "[I", Cond.methodLink RX12 516 yX12_stepOn, Cond.instanceMethod yX12_stepOn, Cond.selects RX12 yX12_stepOn yX12_stepOn, Cond.code yX12_stepOn cX12_stepOn 5 none, Cond.fieldLink RX12 119 "SoldHouseModel" "waysThen" "[I", Cond.methodLink RX12 400 yX12_behind, Cond.instanceMethod yX12_behind, Cond.selects RX12 yX12_behind yX12_behind, Cond.code yX12_behind cX12_behind 5 (some .int), Cond.fieldLink RX12 24 "SoldHouseModel" "doors" "[I", Cond.methodLink RX12 391 yX12_oneOf, Cond.instanceMethod yX12_oneOf, Cond.selects RX12 yX12_oneOf yX12_oneOf, Cond.code yX12_oneOf cX12_oneOf 2 (some .int), Cond.fieldLink RX12 39 "SoldHouseModel" "one" "[I"]
def wsX12_certain_r3 : List Cond := [Cond.methodLink RX12 394 yX12_otherOf, Cond.instanceMethod yX12_otherOf, Cond.selects RX12 yX12_otherOf yX12_otherOf, Cond.code yX12_otherOf cX12_otherOf 2 (some .int), Cond.fieldLink RX12 42 "SoldHouseModel" "other" "[I", Cond.methodLink RX12 397 yX12_has, Cond.static yX12_has, Cond.code yX12_has cX12_has 2 (some .boolean), Cond.methodLink RX12 525 yX12_allWalks, Cond.instanceMethod yX12_allWalks, Cond.selects RX12 yX12_allWalks yX12_allWalks, Cond.code yX12_allWalks cX12_allWalks 3 (some .int), Cond.methodLink RX12 519 yX12_walksBy, Cond.instanceMethod yX12_walksBy, Cond.selects RX12 yX12_walksBy yX12_walksBy, Cond.code yX12_walksBy cX12_walksBy 3 (some .int)]
def wsX12_certain : List Cond := .code yX12_certain cX12_certain 5 (some .int) :: ((wsX12_certain_r1 ++ (wsX12_certain_r2 ++ wsX12_certain_r3)) ++ wsX120)
def wsX12_ask_r1 : List Cond := [Cond.methodLink RX12 381 yX12_isIn, Cond.static yX12_isIn, Cond.initialized RX12, Cond.code yX12_isIn cX12_isIn 3 (some .boolean), Cond.methodLink RX12 522 yX12_layWalks, Cond.instanceMethod yX12_layWalks, Cond.selects RX12 yX12_layWalks yX12_layWalks, Cond.code yX12_layWalks cX12_layWalks 4 none, Cond.fieldLink RX12 116 "SoldHouseModel" "waysTo" "[I", Cond.fieldLink RX12 155 "SoldHouseModel" "waysAt" "[I", Cond.fieldLink RX12 158 "SoldHouseModel" "waysOn" "[I", Cond.methodLink RX12 378 yX12_places, Cond.instanceMethod yX12_places, Cond.selects RX12 yX12_places yX12_places, Cond.code yX12_places cX12_places 1 (some .int), Cond.fieldLink RX12 20 "SoldHouseModel" "rooms" "[I", Cond.fieldLink RX12 280 "SoldHouseModel" "bank" "I", Cond.methodLink RX12 513 yX12_openAt, Cond.instanceMethod yX12_openAt, Cond.selects RX12 yX12_openAt yX12_openAt, Cond.code yX12_openAt cX12_openAt 7 (some .int), Cond.fieldLink RX12 415 "SoldHouseModel" "heards" "I", Cond.fieldLink RX12 137 "SoldHouseModel" "hMinute" "[I", Cond.fieldLink RX12 149 "SoldHouseModel" "hTold" "[I"]
def wsX12_ask_r2 : List Cond := [Cond.fieldLink RX12 152 "SoldHouseModel" "hUntold" "[I", Cond.fieldLink RX12 143 "SoldHouseModel" "hRoom" "[I", Cond.fieldLink RX12 140 "SoldHouseModel" "hCreaks" "[I", Cond.fieldLink RX12 146 "SoldHouseModel" "hIs" "[I", Cond.methodLink RX12 430 yX12_creakOf, Cond.instanceMethod yX12_creakOf, Cond.selects RX12 yX12_creakOf yX12_creakOf, Cond.code yX12_creakOf cX12_creakOf 2 (some .int), Cond.fieldLink RX12 36 "SoldHouseModel" "creaks" "[I", Cond.methodLink RX12 516 yX12_stepOn, Cond.instanceMethod yX12_stepOn, Cond.selects RX12 yX12_stepOn yX12_stepOn, Cond.code yX12_stepOn cX12_stepOn 5 none, Cond.fieldLink RX12 119 "SoldHouseModel" "waysThen" "[I", Cond.methodLink RX12 400 yX12_behind, Cond.instanceMethod yX12_behind, Cond.selects RX12 yX12_behind yX12_behind, Cond.code yX12_behind cX12_behind 5 (some .int), Cond.fieldLink RX12 24 "SoldHouseModel" "doors" "[I", Cond.methodLink RX12 391 yX12_oneOf, Cond.instanceMethod yX12_oneOf, Cond.selects RX12 yX12_oneOf yX12_oneOf, Cond.code yX12_oneOf cX12_oneOf 2 (some .int), Cond.fieldLink RX12 39 "SoldHouseModel" "one" "[I"]
def wsX12_ask_r3 : List Cond := [Cond.methodLink RX12 394 yX12_otherOf, Cond.instanceMethod yX12_otherOf, Cond.selects RX12 yX12_otherOf yX12_otherOf, Cond.code yX12_otherOf cX12_otherOf 2 (some .int), Cond.fieldLink RX12 42 "SoldHouseModel" "other" "[I", Cond.methodLink RX12 397 yX12_has, Cond.static yX12_has, Cond.code yX12_has cX12_has 2 (some .boolean), Cond.methodLink RX12 525 yX12_allWalks, Cond.instanceMethod yX12_allWalks, Cond.selects RX12 yX12_allWalks yX12_allWalks, Cond.code yX12_allWalks cX12_allWalks 3 (some .int), Cond.methodLink RX12 519 yX12_walksBy, Cond.instanceMethod yX12_walksBy, Cond.selects RX12 yX12_walksBy yX12_walksBy, Cond.code yX12_walksBy cX12_walksBy 3 (some .int)]
def wsX12_ask : List Cond := .code yX12_ask cX12_ask 8 (some .int) :: ((wsX12_ask_r1 ++ (wsX12_ask_r2 ++ wsX12_ask_r3)) ++ wsX120)
def wsX12_back : List Cond := .code yX12_back cX12_back 3 (some .int) :: ([.fieldLink RX12 164 "SoldHouseModel" "isBoxed" "[Z", .fieldLink RX12 95 "SoldHouseModel" "all" "[I", .fieldLink RX12 161 "SoldHouseModel" "boxAll" "[I", .fieldLink RX12 409 "SoldHouseModel" "acts" "I", .fieldLink RX12 412 "SoldHouseModel" "undone" "I", .methodLink RX12 381 yX12_isIn, .static yX12_isIn, .initialized RX12, .code yX12_isIn cX12_isIn 3 (some .boolean)] ++ wsX120)
def wsX12_about : List Cond := .code yX12_about cX12_about 2 (some .int) :: ([.fieldLink RX12 24 "SoldHouseModel" "doors" "[I", .fieldLink RX12 280 "SoldHouseModel" "bank" "I", .fieldLink RX12 95 "SoldHouseModel" "all" "[I", .fieldLink RX12 409 "SoldHouseModel" "acts" "I", .fieldLink RX12 412 "SoldHouseModel" "undone" "I", .fieldLink RX12 415 "SoldHouseModel" "heards" "I", .fieldLink RX12 505 "SoldHouseModel" "time" "I", .fieldLink RX12 277 "SoldHouseModel" "taped" "I", .fieldLink RX12 30 "SoldHouseModel" "units" "[I", .fieldLink RX12 418 "SoldHouseModel" "laid" "I", .methodLink RX12 378 yX12_places, .instanceMethod yX12_places, .selects RX12 yX12_places yX12_places, .initialized RX12, .code yX12_places cX12_places 1 (some .int), .fieldLink RX12 20 "SoldHouseModel" "rooms" "[I", .methodLink RX12 388 yX12_many, .instanceMethod yX12_many, .selects RX12 yX12_many yX12_many, .code yX12_many cX12_many 1 (some .int), .fieldLink RX12 27 "SoldHouseModel" "things" "[I"] ++ wsX120)
theorem dX12_isIn_0 : decode cX12_isIn 0 = .ok (.iload_n 0, 1) := by decide +kernel
theorem dX12_isIn_1 : decode cX12_isIn 1 = .ok (.iload_n 1, 1) := by decide +kernel
theorem dX12_isIn_2 : decode cX12_isIn 2 = .ok (.if_icmp .lt 12, 3) := by decide +kernel
theorem dX12_isIn_5 : decode cX12_isIn 5 = .ok (.iload_n 0, 1) := by decide +kernel
theorem dX12_isIn_6 : decode cX12_isIn 6 = .ok (.iload_n 2, 1) := by decide +kernel
theorem dX12_isIn_7 : decode cX12_isIn 7 = .ok (.if_icmp .gt 7, 3) := by decide +kernel
theorem dX12_isIn_10 : decode cX12_isIn 10 = .ok (.iconst 1, 1) := by decide +kernel
theorem dX12_isIn_11 : decode cX12_isIn 11 = .ok (.goto 4, 3) := by decide +kernel
theorem dX12_isIn_14 : decode cX12_isIn 14 = .ok (.iconst 0, 1) := by decide +kernel
theorem dX12_isIn_15 : decode cX12_isIn 15 = .ok (.ireturn, 1) := by decide +kernel
theorem dX12_places_0 : decode cX12_places 0 = .ok (.aload_n 0, 1) := by decide +kernel
theorem dX12_places_1 : decode cX12_places 1 = .ok (.getfield 20, 3) := by decide +kernel
theorem dX12_places_4 : decode cX12_places 4 = .ok (.aload_n 0, 1) := by decide +kernel
theorem dX12_places_5 : decode cX12_places 5 = .ok (.getfield 280, 3) := by decide +kernel
theorem dX12_places_8 : decode cX12_places 8 = .ok (.iaload, 1) := by decide +kernel
theorem dX12_places_9 : decode cX12_places 9 = .ok (.ireturn, 1) := by decide +kernel
theorem dX12_many_0 : decode cX12_many 0 = .ok (.aload_n 0, 1) := by decide +kernel
theorem dX12_many_1 : decode cX12_many 1 = .ok (.getfield 27, 3) := by decide +kernel
theorem dX12_many_4 : decode cX12_many 4 = .ok (.aload_n 0, 1) := by decide +kernel
theorem dX12_many_5 : decode cX12_many 5 = .ok (.getfield 280, 3) := by decide +kernel
theorem dX12_many_8 : decode cX12_many 8 = .ok (.iaload, 1) := by decide +kernel
theorem dX12_many_9 : decode cX12_many 9 = .ok (.ireturn, 1) := by decide +kernel
theorem dX12_isRoom_0 : decode cX12_isRoom 0 = .ok (.iload_n 1, 1) := by decide +kernel
theorem dX12_isRoom_1 : decode cX12_isRoom 1 = .ok (.iconst 0, 1) := by decide +kernel
theorem dX12_isRoom_2 : decode cX12_isRoom 2 = .ok (.aload_n 0, 1) := by decide +kernel
theorem dX12_isRoom_3 : decode cX12_isRoom 3 = .ok (.invokevirtual 378, 3) := by decide +kernel
theorem dX12_isRoom_6 : decode cX12_isRoom 6 = .ok (.iconst 1, 1) := by decide +kernel
theorem dX12_isRoom_7 : decode cX12_isRoom 7 = .ok (.isub, 1) := by decide +kernel
theorem dX12_isRoom_8 : decode cX12_isRoom 8 = .ok (.invokestatic 381, 3) := by decide +kernel
theorem dX12_isRoom_11 : decode cX12_isRoom 11 = .ok (.ireturn, 1) := by decide +kernel
theorem dX12_areRooms_0 : decode cX12_areRooms 0 = .ok (.aload_n 0, 1) := by decide +kernel
theorem dX12_areRooms_1 : decode cX12_areRooms 1 = .ok (.iload_n 1, 1) := by decide +kernel
theorem dX12_areRooms_2 : decode cX12_areRooms 2 = .ok (.invokevirtual 385, 3) := by decide +kernel
theorem dX12_areRooms_5 : decode cX12_areRooms 5 = .ok (.ifCond .eq 15, 3) := by decide +kernel
theorem dX12_areRooms_20 : decode cX12_areRooms 20 = .ok (.iconst 0, 1) := by decide +kernel
theorem dX12_areRooms_21 : decode cX12_areRooms 21 = .ok (.ireturn, 1) := by decide +kernel
theorem dX12_isThing_0 : decode cX12_isThing 0 = .ok (.iload_n 1, 1) := by decide +kernel
theorem dX12_isThing_1 : decode cX12_isThing 1 = .ok (.iconst 0, 1) := by decide +kernel
theorem dX12_isThing_2 : decode cX12_isThing 2 = .ok (.aload_n 0, 1) := by decide +kernel
theorem dX12_isThing_3 : decode cX12_isThing 3 = .ok (.invokevirtual 388, 3) := by decide +kernel
theorem dX12_isThing_6 : decode cX12_isThing 6 = .ok (.iconst 1, 1) := by decide +kernel
theorem dX12_isThing_7 : decode cX12_isThing 7 = .ok (.isub, 1) := by decide +kernel
theorem dX12_isThing_8 : decode cX12_isThing 8 = .ok (.invokestatic 381, 3) := by decide +kernel
theorem dX12_isThing_11 : decode cX12_isThing 11 = .ok (.ireturn, 1) := by decide +kernel
theorem dX12_isSet_0 : decode cX12_isSet 0 = .ok (.iload_n 1, 1) := by decide +kernel
theorem dX12_isSet_1 : decode cX12_isSet 1 = .ok (.iconst 0, 1) := by decide +kernel
theorem dX12_isSet_2 : decode cX12_isSet 2 = .ok (.iconst 1, 1) := by decide +kernel
theorem dX12_isSet_3 : decode cX12_isSet 3 = .ok (.aload_n 0, 1) := by decide +kernel
theorem dX12_isSet_4 : decode cX12_isSet 4 = .ok (.invokevirtual 378, 3) := by decide +kernel
theorem dX12_isSet_7 : decode cX12_isSet 7 = .ok (.ishl, 1) := by decide +kernel
theorem dX12_isSet_8 : decode cX12_isSet 8 = .ok (.iconst 1, 1) := by decide +kernel
theorem dX12_isSet_9 : decode cX12_isSet 9 = .ok (.isub, 1) := by decide +kernel
theorem dX12_isSet_10 : decode cX12_isSet 10 = .ok (.invokestatic 381, 3) := by decide +kernel
theorem dX12_isSet_13 : decode cX12_isSet 13 = .ok (.ireturn, 1) := by decide +kernel
theorem dX12_fault_0 : decode cX12_fault 0 = .ok (.iload_n 1, 1) := by decide +kernel
theorem dX12_fault_1 : decode cX12_fault 1 = .ok (.ifCond .ne 10, 3) := by decide +kernel
theorem dX12_fault_4 : decode cX12_fault 4 = .ok (.aload_n 0, 1) := by decide +kernel
theorem dX12_fault_5 : decode cX12_fault 5 = .ok (.getfield 176, 3) := by decide +kernel
theorem dX12_fault_8 : decode cX12_fault 8 = .ok (.goto 16, 3) := by decide +kernel
theorem dX12_fault_11 : decode cX12_fault 11 = .ok (.iload_n 1, 1) := by decide +kernel
theorem dX12_fault_12 : decode cX12_fault 12 = .ok (.iconst 1, 1) := by decide +kernel
theorem dX12_fault_13 : decode cX12_fault 13 = .ok (.if_icmp .ne 10, 3) := by decide +kernel
theorem dX12_fault_16 : decode cX12_fault 16 = .ok (.aload_n 0, 1) := by decide +kernel
theorem dX12_fault_17 : decode cX12_fault 17 = .ok (.getfield 16, 3) := by decide +kernel
theorem dX12_fault_20 : decode cX12_fault 20 = .ok (.goto 4, 3) := by decide +kernel
theorem dX12_fault_23 : decode cX12_fault 23 = .ok (.iconst (-1), 1) := by decide +kernel
theorem dX12_fault_24 : decode cX12_fault 24 = .ok (.ireturn, 1) := by decide +kernel
theorem dX12_room_0 : decode cX12_room 0 = .ok (.aload_n 0, 1) := by decide +kernel
theorem dX12_room_1 : decode cX12_room 1 = .ok (.iload_n 1, 1) := by decide +kernel
theorem dX12_room_2 : decode cX12_room 2 = .ok (.invokevirtual 385, 3) := by decide +kernel
theorem dX12_room_5 : decode cX12_room 5 = .ok (.ifCond .ne 5, 3) := by decide +kernel
theorem dX12_room_8 : decode cX12_room 8 = .ok (.iconst (-1), 1) := by decide +kernel
theorem dX12_room_9 : decode cX12_room 9 = .ok (.ireturn, 1) := by decide +kernel
theorem dX12_thing_0 : decode cX12_thing 0 = .ok (.aload_n 0, 1) := by decide +kernel
theorem dX12_thing_1 : decode cX12_thing 1 = .ok (.iload_n 1, 1) := by decide +kernel
theorem dX12_thing_2 : decode cX12_thing 2 = .ok (.invokevirtual 436, 3) := by decide +kernel
theorem dX12_thing_5 : decode cX12_thing 5 = .ok (.ifCond .ne 6, 3) := by decide +kernel
theorem dX12_thing_8 : decode cX12_thing 8 = .ok (.bipush (-2), 2) := by decide +kernel
theorem dX12_thing_10 : decode cX12_thing 10 = .ok (.ireturn, 1) := by decide +kernel
theorem dX12_door_0 : decode cX12_door 0 = .ok (.iload_n 1, 1) := by decide +kernel
theorem dX12_door_1 : decode cX12_door 1 = .ok (.iconst 0, 1) := by decide +kernel
theorem dX12_door_2 : decode cX12_door 2 = .ok (.aload_n 0, 1) := by decide +kernel
theorem dX12_door_3 : decode cX12_door 3 = .ok (.getfield 24, 3) := by decide +kernel
theorem dX12_door_6 : decode cX12_door 6 = .ok (.aload_n 0, 1) := by decide +kernel
theorem dX12_door_7 : decode cX12_door 7 = .ok (.getfield 280, 3) := by decide +kernel
theorem dX12_door_10 : decode cX12_door 10 = .ok (.iaload, 1) := by decide +kernel
theorem dX12_door_11 : decode cX12_door 11 = .ok (.iconst 1, 1) := by decide +kernel
theorem dX12_door_12 : decode cX12_door 12 = .ok (.isub, 1) := by decide +kernel
theorem dX12_door_13 : decode cX12_door 13 = .ok (.invokestatic 381, 3) := by decide +kernel
theorem dX12_door_16 : decode cX12_door 16 = .ok (.ifCond .ne 5, 3) := by decide +kernel
theorem dX12_door_19 : decode cX12_door 19 = .ok (.iconst (-1), 1) := by decide +kernel
theorem dX12_door_20 : decode cX12_door 20 = .ok (.ireturn, 1) := by decide +kernel
theorem dX12_far_0 : decode cX12_far 0 = .ok (.aload_n 0, 1) := by decide +kernel
theorem dX12_far_1 : decode cX12_far 1 = .ok (.iload_n 1, 1) := by decide +kernel
theorem dX12_far_2 : decode cX12_far 2 = .ok (.iload_n 2, 1) := by decide +kernel
theorem dX12_far_3 : decode cX12_far 3 = .ok (.invokevirtual 445, 3) := by decide +kernel
theorem dX12_far_6 : decode cX12_far 6 = .ok (.ifCond .eq 24, 3) := by decide +kernel
theorem dX12_far_30 : decode cX12_far 30 = .ok (.iconst (-1), 1) := by decide +kernel
theorem dX12_far_31 : decode cX12_far 31 = .ok (.ireturn, 1) := by decide +kernel
theorem dX12_tell_0 : decode cX12_tell 0 = .ok (.aload_n 0, 1) := by decide +kernel
theorem dX12_tell_1 : decode cX12_tell 1 = .ok (.iload_n 1, 1) := by decide +kernel
theorem dX12_tell_2 : decode cX12_tell 2 = .ok (.invokevirtual 436, 3) := by decide +kernel
theorem dX12_tell_5 : decode cX12_tell 5 = .ok (.ifCond .ne 5, 3) := by decide +kernel
theorem dX12_tell_8 : decode cX12_tell 8 = .ok (.iconst (-1), 1) := by decide +kernel
theorem dX12_tell_9 : decode cX12_tell 9 = .ok (.ireturn, 1) := by decide +kernel
theorem dX12_hear_0 : decode cX12_hear 0 = .ok (.aload_n 0, 1) := by decide +kernel
theorem dX12_hear_1 : decode cX12_hear 1 = .ok (.iload_n 1, 1) := by decide +kernel
theorem dX12_hear_2 : decode cX12_hear 2 = .ok (.invokevirtual 436, 3) := by decide +kernel
theorem dX12_hear_5 : decode cX12_hear 5 = .ok (.ifCond .ne 5, 3) := by decide +kernel
theorem dX12_hear_8 : decode cX12_hear 8 = .ok (.iconst (-1), 1) := by decide +kernel
theorem dX12_hear_9 : decode cX12_hear 9 = .ok (.ireturn, 1) := by decide +kernel
theorem dX12_send_0 : decode cX12_send 0 = .ok (.aload_n 0, 1) := by decide +kernel
theorem dX12_send_1 : decode cX12_send 1 = .ok (.iload_n 1, 1) := by decide +kernel
theorem dX12_send_2 : decode cX12_send 2 = .ok (.invokevirtual 436, 3) := by decide +kernel
theorem dX12_send_5 : decode cX12_send 5 = .ok (.ifCond .ne 5, 3) := by decide +kernel
theorem dX12_send_8 : decode cX12_send 8 = .ok (.iconst (-1), 1) := by decide +kernel
theorem dX12_send_9 : decode cX12_send 9 = .ok (.ireturn, 1) := by decide +kernel
theorem dX12_carry_0 : decode cX12_carry 0 = .ok (.aload_n 0, 1) := by decide +kernel
theorem dX12_carry_1 : decode cX12_carry 1 = .ok (.iload_n 1, 1) := by decide +kernel
theorem dX12_carry_2 : decode cX12_carry 2 = .ok (.invokevirtual 436, 3) := by decide +kernel
theorem dX12_carry_5 : decode cX12_carry 5 = .ok (.ifCond .eq 22, 3) := by decide +kernel
theorem dX12_carry_27 : decode cX12_carry 27 = .ok (.iconst (-1), 1) := by decide +kernel
theorem dX12_carry_28 : decode cX12_carry 28 = .ok (.ireturn, 1) := by decide +kernel
theorem dX12_undo_0 : decode cX12_undo 0 = .ok (.aload_n 0, 1) := by decide +kernel
theorem dX12_undo_1 : decode cX12_undo 1 = .ok (.getfield 409, 3) := by decide +kernel
theorem dX12_undo_4 : decode cX12_undo 4 = .ok (.ifCond .ne 5, 3) := by decide +kernel
theorem dX12_undo_7 : decode cX12_undo 7 = .ok (.iconst 0, 1) := by decide +kernel
theorem dX12_undo_8 : decode cX12_undo 8 = .ok (.ireturn, 1) := by decide +kernel
theorem dX12_redo_0 : decode cX12_redo 0 = .ok (.aload_n 0, 1) := by decide +kernel
theorem dX12_redo_1 : decode cX12_redo 1 = .ok (.getfield 412, 3) := by decide +kernel
theorem dX12_redo_4 : decode cX12_redo 4 = .ok (.ifCond .ne 5, 3) := by decide +kernel
theorem dX12_redo_7 : decode cX12_redo 7 = .ok (.iconst 0, 1) := by decide +kernel
theorem dX12_redo_8 : decode cX12_redo 8 = .ok (.ireturn, 1) := by decide +kernel
theorem dX12_lies_0 : decode cX12_lies 0 = .ok (.iload_n 1, 1) := by decide +kernel
theorem dX12_lies_1 : decode cX12_lies 1 = .ok (.iconst 0, 1) := by decide +kernel
theorem dX12_lies_2 : decode cX12_lies 2 = .ok (.aload_n 0, 1) := by decide +kernel
theorem dX12_lies_3 : decode cX12_lies 3 = .ok (.getfield 418, 3) := by decide +kernel
theorem dX12_lies_6 : decode cX12_lies 6 = .ok (.iconst 1, 1) := by decide +kernel
theorem dX12_lies_7 : decode cX12_lies 7 = .ok (.isub, 1) := by decide +kernel
theorem dX12_lies_8 : decode cX12_lies 8 = .ok (.invokestatic 381, 3) := by decide +kernel
theorem dX12_lies_11 : decode cX12_lies 11 = .ok (.ifCond .eq 12, 3) := by decide +kernel
theorem dX12_lies_23 : decode cX12_lies 23 = .ok (.iconst (-1), 1) := by decide +kernel
theorem dX12_lies_24 : decode cX12_lies 24 = .ok (.ireturn, 1) := by decide +kernel
theorem dX12_ways_0 : decode cX12_ways 0 = .ok (.aload_n 0, 1) := by decide +kernel
theorem dX12_ways_1 : decode cX12_ways 1 = .ok (.iload_n 1, 1) := by decide +kernel
theorem dX12_ways_2 : decode cX12_ways 2 = .ok (.iload_n 2, 1) := by decide +kernel
theorem dX12_ways_3 : decode cX12_ways 3 = .ok (.invokevirtual 445, 3) := by decide +kernel
theorem dX12_ways_6 : decode cX12_ways 6 = .ok (.ifCond .eq 15, 3) := by decide +kernel
theorem dX12_ways_21 : decode cX12_ways 21 = .ok (.iconst (-1), 1) := by decide +kernel
theorem dX12_ways_22 : decode cX12_ways 22 = .ok (.ireturn, 1) := by decide +kernel
theorem dX12_pieces_0 : decode cX12_pieces 0 = .ok (.iconst 1, 1) := by decide +kernel
theorem dX12_pieces_1 : decode cX12_pieces 1 = .ok (.aload_n 0, 1) := by decide +kernel
theorem dX12_pieces_2 : decode cX12_pieces 2 = .ok (.invokevirtual 378, 3) := by decide +kernel
theorem dX12_pieces_5 : decode cX12_pieces 5 = .ok (.ishl, 1) := by decide +kernel
theorem dX12_pieces_6 : decode cX12_pieces 6 = .ok (.iconst 1, 1) := by decide +kernel
theorem dX12_pieces_7 : decode cX12_pieces 7 = .ok (.isub, 1) := by decide +kernel
theorem dX12_pieces_8 : decode cX12_pieces 8 = .ok (.istore_n 1, 1) := by decide +kernel
theorem dX12_pieces_9 : decode cX12_pieces 9 = .ok (.iconst 0, 1) := by decide +kernel
theorem dX12_pieces_10 : decode cX12_pieces 10 = .ok (.istore_n 2, 1) := by decide +kernel
theorem dX12_pieces_11 : decode cX12_pieces 11 = .ok (.iconst 0, 1) := by decide +kernel
theorem dX12_pieces_12 : decode cX12_pieces 12 = .ok (.istore_n 3, 1) := by decide +kernel
theorem dX12_pieces_13 : decode cX12_pieces 13 = .ok (.iload_n 3, 1) := by decide +kernel
theorem dX12_pieces_14 : decode cX12_pieces 14 = .ok (.aload_n 0, 1) := by decide +kernel
theorem dX12_pieces_15 : decode cX12_pieces 15 = .ok (.invokevirtual 378, 3) := by decide +kernel
theorem dX12_pieces_18 : decode cX12_pieces 18 = .ok (.if_icmp .ge 34, 3) := by decide +kernel
theorem dX12_pieces_52 : decode cX12_pieces 52 = .ok (.iload_n 2, 1) := by decide +kernel
theorem dX12_pieces_53 : decode cX12_pieces 53 = .ok (.ireturn, 1) := by decide +kernel
theorem dX12_parts_0 : decode cX12_parts 0 = .ok (.iconst 0, 1) := by decide +kernel
theorem dX12_parts_1 : decode cX12_parts 1 = .ok (.istore_n 1, 1) := by decide +kernel
theorem dX12_parts_2 : decode cX12_parts 2 = .ok (.iconst 0, 1) := by decide +kernel
theorem dX12_parts_3 : decode cX12_parts 3 = .ok (.istore_n 2, 1) := by decide +kernel
theorem dX12_parts_4 : decode cX12_parts 4 = .ok (.iload_n 2, 1) := by decide +kernel
theorem dX12_parts_5 : decode cX12_parts 5 = .ok (.aload_n 0, 1) := by decide +kernel
theorem dX12_parts_6 : decode cX12_parts 6 = .ok (.getfield 24, 3) := by decide +kernel
theorem dX12_parts_9 : decode cX12_parts 9 = .ok (.aload_n 0, 1) := by decide +kernel
theorem dX12_parts_10 : decode cX12_parts 10 = .ok (.getfield 280, 3) := by decide +kernel
theorem dX12_parts_13 : decode cX12_parts 13 = .ok (.iaload, 1) := by decide +kernel
theorem dX12_parts_14 : decode cX12_parts 14 = .ok (.if_icmp .ge 23, 3) := by decide +kernel
theorem dX12_parts_37 : decode cX12_parts 37 = .ok (.iload_n 1, 1) := by decide +kernel
theorem dX12_parts_38 : decode cX12_parts 38 = .ok (.ireturn, 1) := by decide +kernel
theorem dX12_hunt_0 : decode cX12_hunt 0 = .ok (.aload_n 0, 1) := by decide +kernel
theorem dX12_hunt_1 : decode cX12_hunt 1 = .ok (.iload_n 1, 1) := by decide +kernel
theorem dX12_hunt_2 : decode cX12_hunt 2 = .ok (.invokevirtual 472, 3) := by decide +kernel
theorem dX12_hunt_5 : decode cX12_hunt 5 = .ok (.ifCond .eq 7, 3) := by decide +kernel
theorem dX12_hunt_8 : decode cX12_hunt 8 = .ok (.iload_n 1, 1) := by decide +kernel
theorem dX12_hunt_9 : decode cX12_hunt 9 = .ok (.ifCond .ne 5, 3) := by decide +kernel
theorem dX12_hunt_12 : decode cX12_hunt 12 = .ok (.iconst (-1), 1) := by decide +kernel
theorem dX12_hunt_13 : decode cX12_hunt 13 = .ok (.ireturn, 1) := by decide +kernel
theorem dX12_first_0 : decode cX12_first 0 = .ok (.aload_n 0, 1) := by decide +kernel
theorem dX12_first_1 : decode cX12_first 1 = .ok (.iload_n 1, 1) := by decide +kernel
theorem dX12_first_2 : decode cX12_first 2 = .ok (.invokevirtual 472, 3) := by decide +kernel
theorem dX12_first_5 : decode cX12_first 5 = .ok (.ifCond .eq 7, 3) := by decide +kernel
theorem dX12_first_8 : decode cX12_first 8 = .ok (.iload_n 1, 1) := by decide +kernel
theorem dX12_first_9 : decode cX12_first 9 = .ok (.ifCond .ne 5, 3) := by decide +kernel
theorem dX12_first_12 : decode cX12_first 12 = .ok (.iconst (-1), 1) := by decide +kernel
theorem dX12_first_13 : decode cX12_first 13 = .ok (.ireturn, 1) := by decide +kernel
theorem dX12_meet_0 : decode cX12_meet 0 = .ok (.aload_n 0, 1) := by decide +kernel
theorem dX12_meet_1 : decode cX12_meet 1 = .ok (.iload_n 1, 1) := by decide +kernel
theorem dX12_meet_2 : decode cX12_meet 2 = .ok (.iload_n 2, 1) := by decide +kernel
theorem dX12_meet_3 : decode cX12_meet 3 = .ok (.invokevirtual 445, 3) := by decide +kernel
theorem dX12_meet_6 : decode cX12_meet 6 = .ok (.ifCond .eq 12, 3) := by decide +kernel
theorem dX12_meet_18 : decode cX12_meet 18 = .ok (.iconst (-1), 1) := by decide +kernel
theorem dX12_meet_19 : decode cX12_meet 19 = .ok (.ireturn, 1) := by decide +kernel
theorem dX12_bar_0 : decode cX12_bar 0 = .ok (.aload_n 0, 1) := by decide +kernel
theorem dX12_bar_1 : decode cX12_bar 1 = .ok (.iload_n 1, 1) := by decide +kernel
theorem dX12_bar_2 : decode cX12_bar 2 = .ok (.iload_n 2, 1) := by decide +kernel
theorem dX12_bar_3 : decode cX12_bar 3 = .ok (.invokevirtual 445, 3) := by decide +kernel
theorem dX12_bar_6 : decode cX12_bar 6 = .ok (.ifCond .eq 17, 3) := by decide +kernel
theorem dX12_bar_23 : decode cX12_bar 23 = .ok (.iconst (-1), 1) := by decide +kernel
theorem dX12_bar_24 : decode cX12_bar 24 = .ok (.ireturn, 1) := by decide +kernel
theorem dX12_centre_0 : decode cX12_centre 0 = .ok (.iconst (-1), 1) := by decide +kernel
theorem dX12_centre_1 : decode cX12_centre 1 = .ok (.istore_n 1, 1) := by decide +kernel
theorem dX12_centre_2 : decode cX12_centre 2 = .ok (.iconst 0, 1) := by decide +kernel
theorem dX12_centre_3 : decode cX12_centre 3 = .ok (.istore_n 2, 1) := by decide +kernel
theorem dX12_centre_4 : decode cX12_centre 4 = .ok (.iload_n 2, 1) := by decide +kernel
theorem dX12_centre_5 : decode cX12_centre 5 = .ok (.aload_n 0, 1) := by decide +kernel
theorem dX12_centre_6 : decode cX12_centre 6 = .ok (.invokevirtual 378, 3) := by decide +kernel
theorem dX12_centre_9 : decode cX12_centre 9 = .ok (.if_icmp .ge 28, 3) := by decide +kernel
theorem dX12_centre_37 : decode cX12_centre 37 = .ok (.iload_n 1, 1) := by decide +kernel
theorem dX12_centre_38 : decode cX12_centre 38 = .ok (.ireturn, 1) := by decide +kernel
theorem dX12_nooks_0 : decode cX12_nooks 0 = .ok (.iconst 0, 1) := by decide +kernel
theorem dX12_nooks_1 : decode cX12_nooks 1 = .ok (.istore_n 1, 1) := by decide +kernel
theorem dX12_nooks_2 : decode cX12_nooks 2 = .ok (.iconst 0, 1) := by decide +kernel
theorem dX12_nooks_3 : decode cX12_nooks 3 = .ok (.istore_n 2, 1) := by decide +kernel
theorem dX12_nooks_4 : decode cX12_nooks 4 = .ok (.iload_n 2, 1) := by decide +kernel
theorem dX12_nooks_5 : decode cX12_nooks 5 = .ok (.aload_n 0, 1) := by decide +kernel
theorem dX12_nooks_6 : decode cX12_nooks 6 = .ok (.invokevirtual 378, 3) := by decide +kernel
theorem dX12_nooks_9 : decode cX12_nooks 9 = .ok (.if_icmp .ge 28, 3) := by decide +kernel
theorem dX12_nooks_37 : decode cX12_nooks 37 = .ok (.iload_n 1, 1) := by decide +kernel
theorem dX12_nooks_38 : decode cX12_nooks 38 = .ok (.ireturn, 1) := by decide +kernel
theorem dX12_echo_0 : decode cX12_echo 0 = .ok (.aload_n 0, 1) := by decide +kernel
theorem dX12_echo_1 : decode cX12_echo 1 = .ok (.iload_n 1, 1) := by decide +kernel
theorem dX12_echo_2 : decode cX12_echo 2 = .ok (.invokevirtual 385, 3) := by decide +kernel
theorem dX12_echo_5 : decode cX12_echo 5 = .ok (.ifCond .eq 13, 3) := by decide +kernel
theorem dX12_echo_18 : decode cX12_echo 18 = .ok (.iconst (-1), 1) := by decide +kernel
theorem dX12_echo_19 : decode cX12_echo 19 = .ok (.ireturn, 1) := by decide +kernel
theorem dX12_mend_0 : decode cX12_mend 0 = .ok (.iload_n 1, 1) := by decide +kernel
theorem dX12_mend_1 : decode cX12_mend 1 = .ok (.iconst 0, 1) := by decide +kernel
theorem dX12_mend_2 : decode cX12_mend 2 = .ok (.bipush 99, 2) := by decide +kernel
theorem dX12_mend_4 : decode cX12_mend 4 = .ok (.invokestatic 381, 3) := by decide +kernel
theorem dX12_mend_7 : decode cX12_mend 7 = .ok (.ifCond .ne 5, 3) := by decide +kernel
theorem dX12_mend_10 : decode cX12_mend 10 = .ok (.iconst (-1), 1) := by decide +kernel
theorem dX12_mend_11 : decode cX12_mend 11 = .ok (.ireturn, 1) := by decide +kernel
theorem dX12_mend_12 : decode cX12_mend 12 = .ok (.iload_n 1, 1) := by decide +kernel
theorem dX12_mend_13 : decode cX12_mend 13 = .ok (.istore_n 2, 1) := by decide +kernel
theorem dX12_mend_14 : decode cX12_mend 14 = .ok (.iconst 0, 1) := by decide +kernel
theorem dX12_mend_15 : decode cX12_mend 15 = .ok (.istore_n 3, 1) := by decide +kernel
theorem dX12_mend_16 : decode cX12_mend 16 = .ok (.iconst 0, 1) := by decide +kernel
theorem dX12_mend_17 : decode cX12_mend 17 = .ok (.istore 4, 2) := by decide +kernel
theorem dX12_mend_19 : decode cX12_mend 19 = .ok (.iload 4, 2) := by decide +kernel
theorem dX12_mend_21 : decode cX12_mend 21 = .ok (.bipush 8, 2) := by decide +kernel
theorem dX12_mend_23 : decode cX12_mend 23 = .ok (.if_icmp .ge 72, 3) := by decide +kernel
theorem dX12_mend_26 : decode cX12_mend 26 = .ok (.iconst 0, 1) := by decide +kernel
theorem dX12_mend_27 : decode cX12_mend 27 = .ok (.istore 5, 2) := by decide +kernel
theorem dX12_mend_29 : decode cX12_mend 29 = .ok (.iload 5, 2) := by decide +kernel
theorem dX12_mend_31 : decode cX12_mend 31 = .ok (.aload_n 0, 1) := by decide +kernel
theorem dX12_mend_32 : decode cX12_mend 32 = .ok (.invokevirtual 388, 3) := by decide +kernel
theorem dX12_mend_35 : decode cX12_mend 35 = .ok (.if_icmp .ge 54, 3) := by decide +kernel
theorem dX12_mend_89 : decode cX12_mend 89 = .ok (.iinc 4 1, 3) := by decide +kernel
theorem dX12_mend_92 : decode cX12_mend 92 = .ok (.goto (-73), 3) := by decide +kernel
theorem dX12_mend_95 : decode cX12_mend 95 = .ok (.iload_n 3, 1) := by decide +kernel
theorem dX12_mend_96 : decode cX12_mend 96 = .ok (.ireturn, 1) := by decide +kernel
theorem dX12_regret_0 : decode cX12_regret 0 = .ok (.iconst 0, 1) := by decide +kernel
theorem dX12_regret_1 : decode cX12_regret 1 = .ok (.istore_n 1, 1) := by decide +kernel
theorem dX12_regret_2 : decode cX12_regret 2 = .ok (.iconst 0, 1) := by decide +kernel
theorem dX12_regret_3 : decode cX12_regret 3 = .ok (.istore_n 2, 1) := by decide +kernel
theorem dX12_regret_4 : decode cX12_regret 4 = .ok (.iload_n 2, 1) := by decide +kernel
theorem dX12_regret_5 : decode cX12_regret 5 = .ok (.aload_n 0, 1) := by decide +kernel
theorem dX12_regret_6 : decode cX12_regret 6 = .ok (.invokevirtual 388, 3) := by decide +kernel
theorem dX12_regret_9 : decode cX12_regret 9 = .ok (.if_icmp .ge 48, 3) := by decide +kernel
theorem dX12_regret_57 : decode cX12_regret 57 = .ok (.iload_n 1, 1) := by decide +kernel
theorem dX12_regret_58 : decode cX12_regret 58 = .ok (.ireturn, 1) := by decide +kernel
theorem dX12_trade_0 : decode cX12_trade 0 = .ok (.iload_n 1, 1) := by decide +kernel
theorem dX12_trade_1 : decode cX12_trade 1 = .ok (.iconst 0, 1) := by decide +kernel
theorem dX12_trade_2 : decode cX12_trade 2 = .ok (.iconst 2, 1) := by decide +kernel
theorem dX12_trade_3 : decode cX12_trade 3 = .ok (.invokestatic 381, 3) := by decide +kernel
theorem dX12_trade_6 : decode cX12_trade 6 = .ok (.ifCond .ne 5, 3) := by decide +kernel
theorem dX12_trade_9 : decode cX12_trade 9 = .ok (.iconst (-1), 1) := by decide +kernel
theorem dX12_trade_10 : decode cX12_trade 10 = .ok (.ireturn, 1) := by decide +kernel
theorem dX12_trade_11 : decode cX12_trade 11 = .ok (.iconst (-1), 1) := by decide +kernel
theorem dX12_trade_12 : decode cX12_trade 12 = .ok (.istore_n 2, 1) := by decide +kernel
theorem dX12_trade_13 : decode cX12_trade 13 = .ok (.iconst (-1), 1) := by decide +kernel
theorem dX12_trade_14 : decode cX12_trade 14 = .ok (.istore_n 3, 1) := by decide +kernel
theorem dX12_trade_15 : decode cX12_trade 15 = .ok (.iconst 0, 1) := by decide +kernel
theorem dX12_trade_16 : decode cX12_trade 16 = .ok (.istore 4, 2) := by decide +kernel
theorem dX12_trade_18 : decode cX12_trade 18 = .ok (.iload 4, 2) := by decide +kernel
theorem dX12_trade_20 : decode cX12_trade 20 = .ok (.bipush 36, 2) := by decide +kernel
theorem dX12_trade_22 : decode cX12_trade 22 = .ok (.if_icmp .ge 72, 3) := by decide +kernel
theorem dX12_trade_25 : decode cX12_trade 25 = .ok (.iload 4, 2) := by decide +kernel
theorem dX12_trade_27 : decode cX12_trade 27 = .ok (.bipush 6, 2) := by decide +kernel
theorem dX12_trade_29 : decode cX12_trade 29 = .ok (.idiv, 1) := by decide +kernel
theorem dX12_trade_30 : decode cX12_trade 30 = .ok (.aload_n 0, 1) := by decide +kernel
theorem dX12_trade_31 : decode cX12_trade 31 = .ok (.invokevirtual 388, 3) := by decide +kernel
theorem dX12_trade_34 : decode cX12_trade 34 = .ok (.if_icmp .ge 54, 3) := by decide +kernel
theorem dX12_trade_88 : decode cX12_trade 88 = .ok (.iinc 4 1, 3) := by decide +kernel
theorem dX12_trade_91 : decode cX12_trade 91 = .ok (.goto (-73), 3) := by decide +kernel
theorem dX12_trade_94 : decode cX12_trade 94 = .ok (.iload_n 2, 1) := by decide +kernel
theorem dX12_trade_95 : decode cX12_trade 95 = .ok (.ifCond .ge 7, 3) := by decide +kernel
theorem dX12_trade_98 : decode cX12_trade 98 = .ok (.iconst (-1), 1) := by decide +kernel
theorem dX12_trade_99 : decode cX12_trade 99 = .ok (.goto 27, 3) := by decide +kernel
theorem dX12_trade_126 : decode cX12_trade 126 = .ok (.ireturn, 1) := by decide +kernel
theorem dX12_wealth_0 : decode cX12_wealth 0 = .ok (.iload_n 1, 1) := by decide +kernel
theorem dX12_wealth_1 : decode cX12_wealth 1 = .ok (.iconst 0, 1) := by decide +kernel
theorem dX12_wealth_2 : decode cX12_wealth 2 = .ok (.iconst 1, 1) := by decide +kernel
theorem dX12_wealth_3 : decode cX12_wealth 3 = .ok (.invokestatic 381, 3) := by decide +kernel
theorem dX12_wealth_6 : decode cX12_wealth 6 = .ok (.ifCond .ne 5, 3) := by decide +kernel
theorem dX12_wealth_9 : decode cX12_wealth 9 = .ok (.iconst (-1), 1) := by decide +kernel
theorem dX12_wealth_10 : decode cX12_wealth 10 = .ok (.ireturn, 1) := by decide +kernel
theorem dX12_wealth_11 : decode cX12_wealth 11 = .ok (.iconst 0, 1) := by decide +kernel
theorem dX12_wealth_12 : decode cX12_wealth 12 = .ok (.istore_n 2, 1) := by decide +kernel
theorem dX12_wealth_13 : decode cX12_wealth 13 = .ok (.iconst 0, 1) := by decide +kernel
theorem dX12_wealth_14 : decode cX12_wealth 14 = .ok (.istore_n 3, 1) := by decide +kernel
theorem dX12_wealth_15 : decode cX12_wealth 15 = .ok (.iload_n 3, 1) := by decide +kernel
theorem dX12_wealth_16 : decode cX12_wealth 16 = .ok (.aload_n 0, 1) := by decide +kernel
theorem dX12_wealth_17 : decode cX12_wealth 17 = .ok (.invokevirtual 388, 3) := by decide +kernel
theorem dX12_wealth_20 : decode cX12_wealth 20 = .ok (.if_icmp .ge 37, 3) := by decide +kernel
theorem dX12_wealth_57 : decode cX12_wealth 57 = .ok (.iload_n 2, 1) := by decide +kernel
theorem dX12_wealth_58 : decode cX12_wealth 58 = .ok (.ireturn, 1) := by decide +kernel
theorem dX12_off_0 : decode cX12_off 0 = .ok (.iconst 0, 1) := by decide +kernel
theorem dX12_off_1 : decode cX12_off 1 = .ok (.istore_n 1, 1) := by decide +kernel
theorem dX12_off_2 : decode cX12_off 2 = .ok (.iconst 0, 1) := by decide +kernel
theorem dX12_off_3 : decode cX12_off 3 = .ok (.istore_n 2, 1) := by decide +kernel
theorem dX12_off_4 : decode cX12_off 4 = .ok (.iload_n 2, 1) := by decide +kernel
theorem dX12_off_5 : decode cX12_off 5 = .ok (.aload_n 0, 1) := by decide +kernel
theorem dX12_off_6 : decode cX12_off 6 = .ok (.invokevirtual 388, 3) := by decide +kernel
theorem dX12_off_9 : decode cX12_off 9 = .ok (.if_icmp .ge 17, 3) := by decide +kernel
theorem dX12_off_26 : decode cX12_off 26 = .ok (.iload_n 1, 1) := by decide +kernel
theorem dX12_off_27 : decode cX12_off 27 = .ok (.ireturn, 1) := by decide +kernel
theorem dX12_rightOnes_0 : decode cX12_rightOnes 0 = .ok (.iconst 0, 1) := by decide +kernel
theorem dX12_rightOnes_1 : decode cX12_rightOnes 1 = .ok (.istore_n 1, 1) := by decide +kernel
theorem dX12_rightOnes_2 : decode cX12_rightOnes 2 = .ok (.iconst 0, 1) := by decide +kernel
theorem dX12_rightOnes_3 : decode cX12_rightOnes 3 = .ok (.istore_n 2, 1) := by decide +kernel
theorem dX12_rightOnes_4 : decode cX12_rightOnes 4 = .ok (.iload_n 2, 1) := by decide +kernel
theorem dX12_rightOnes_5 : decode cX12_rightOnes 5 = .ok (.aload_n 0, 1) := by decide +kernel
theorem dX12_rightOnes_6 : decode cX12_rightOnes 6 = .ok (.invokevirtual 388, 3) := by decide +kernel
theorem dX12_rightOnes_9 : decode cX12_rightOnes 9 = .ok (.if_icmp .ge 35, 3) := by decide +kernel
theorem dX12_rightOnes_44 : decode cX12_rightOnes 44 = .ok (.iload_n 1, 1) := by decide +kernel
theorem dX12_rightOnes_45 : decode cX12_rightOnes 45 = .ok (.ireturn, 1) := by decide +kernel
theorem dX12_right_0 : decode cX12_right 0 = .ok (.aload_n 0, 1) := by decide +kernel
theorem dX12_right_1 : decode cX12_right 1 = .ok (.invokevirtual 493, 3) := by decide +kernel
theorem dX12_right_4 : decode cX12_right 4 = .ok (.ireturn, 1) := by decide +kernel
theorem dX12_deep_0 : decode cX12_deep 0 = .ok (.iload_n 1, 1) := by decide +kernel
theorem dX12_deep_1 : decode cX12_deep 1 = .ok (.iconst 0, 1) := by decide +kernel
theorem dX12_deep_2 : decode cX12_deep 2 = .ok (.bipush 99, 2) := by decide +kernel
theorem dX12_deep_4 : decode cX12_deep 4 = .ok (.invokestatic 381, 3) := by decide +kernel
theorem dX12_deep_7 : decode cX12_deep 7 = .ok (.ifCond .ne 5, 3) := by decide +kernel
theorem dX12_deep_10 : decode cX12_deep 10 = .ok (.iconst (-1), 1) := by decide +kernel
theorem dX12_deep_11 : decode cX12_deep 11 = .ok (.ireturn, 1) := by decide +kernel
theorem dX12_deep_12 : decode cX12_deep 12 = .ok (.iconst 0, 1) := by decide +kernel
theorem dX12_deep_13 : decode cX12_deep 13 = .ok (.istore_n 2, 1) := by decide +kernel
theorem dX12_deep_14 : decode cX12_deep 14 = .ok (.iconst 0, 1) := by decide +kernel
theorem dX12_deep_15 : decode cX12_deep 15 = .ok (.istore_n 3, 1) := by decide +kernel
theorem dX12_deep_16 : decode cX12_deep 16 = .ok (.iload_n 3, 1) := by decide +kernel
theorem dX12_deep_17 : decode cX12_deep 17 = .ok (.aload_n 0, 1) := by decide +kernel
theorem dX12_deep_18 : decode cX12_deep 18 = .ok (.invokevirtual 388, 3) := by decide +kernel
theorem dX12_deep_21 : decode cX12_deep 21 = .ok (.if_icmp .ge 28, 3) := by decide +kernel
theorem dX12_deep_49 : decode cX12_deep 49 = .ok (.iload_n 2, 1) := by decide +kernel
theorem dX12_deep_50 : decode cX12_deep 50 = .ok (.ireturn, 1) := by decide +kernel
theorem dX12_stay_0 : decode cX12_stay 0 = .ok (.aload_n 0, 1) := by decide +kernel
theorem dX12_stay_1 : decode cX12_stay 1 = .ok (.iload_n 1, 1) := by decide +kernel
theorem dX12_stay_2 : decode cX12_stay 2 = .ok (.invokevirtual 436, 3) := by decide +kernel
theorem dX12_stay_5 : decode cX12_stay 5 = .ok (.ifCond .eq 21, 3) := by decide +kernel
theorem dX12_stay_26 : decode cX12_stay 26 = .ok (.iconst (-1), 1) := by decide +kernel
theorem dX12_stay_27 : decode cX12_stay 27 = .ok (.ireturn, 1) := by decide +kernel
theorem dX12_will_0 : decode cX12_will 0 = .ok (.aload_n 0, 1) := by decide +kernel
theorem dX12_will_1 : decode cX12_will 1 = .ok (.iload_n 1, 1) := by decide +kernel
theorem dX12_will_2 : decode cX12_will 2 = .ok (.invokevirtual 436, 3) := by decide +kernel
theorem dX12_will_5 : decode cX12_will 5 = .ok (.ifCond .eq 13, 3) := by decide +kernel
theorem dX12_will_18 : decode cX12_will 18 = .ok (.iconst (-1), 1) := by decide +kernel
theorem dX12_will_19 : decode cX12_will 19 = .ok (.ireturn, 1) := by decide +kernel
theorem dX12_lost_0 : decode cX12_lost 0 = .ok (.aload_n 0, 1) := by decide +kernel
theorem dX12_lost_1 : decode cX12_lost 1 = .ok (.invokevirtual 388, 3) := by decide +kernel
theorem dX12_lost_4 : decode cX12_lost 4 = .ok (.ifCond .ne 5, 3) := by decide +kernel
theorem dX12_lost_7 : decode cX12_lost 7 = .ok (.iconst (-1), 1) := by decide +kernel
theorem dX12_lost_8 : decode cX12_lost 8 = .ok (.ireturn, 1) := by decide +kernel
theorem dX12_seen_0 : decode cX12_seen 0 = .ok (.aload_n 0, 1) := by decide +kernel
theorem dX12_seen_1 : decode cX12_seen 1 = .ok (.iload_n 2, 1) := by decide +kernel
theorem dX12_seen_2 : decode cX12_seen 2 = .ok (.invokevirtual 385, 3) := by decide +kernel
theorem dX12_seen_5 : decode cX12_seen 5 = .ok (.ifCond .eq 14, 3) := by decide +kernel
theorem dX12_seen_19 : decode cX12_seen 19 = .ok (.iconst (-1), 1) := by decide +kernel
theorem dX12_seen_20 : decode cX12_seen 20 = .ok (.ireturn, 1) := by decide +kernel
theorem dX12_untell_0 : decode cX12_untell 0 = .ok (.iload_n 1, 1) := by decide +kernel
theorem dX12_untell_1 : decode cX12_untell 1 = .ok (.iconst 0, 1) := by decide +kernel
theorem dX12_untell_2 : decode cX12_untell 2 = .ok (.aload_n 0, 1) := by decide +kernel
theorem dX12_untell_3 : decode cX12_untell 3 = .ok (.getfield 415, 3) := by decide +kernel
theorem dX12_untell_6 : decode cX12_untell 6 = .ok (.iconst 1, 1) := by decide +kernel
theorem dX12_untell_7 : decode cX12_untell 7 = .ok (.isub, 1) := by decide +kernel
theorem dX12_untell_8 : decode cX12_untell 8 = .ok (.invokestatic 381, 3) := by decide +kernel
theorem dX12_untell_11 : decode cX12_untell 11 = .ok (.ifCond .eq 12, 3) := by decide +kernel
theorem dX12_untell_23 : decode cX12_untell 23 = .ok (.iconst 0, 1) := by decide +kernel
theorem dX12_untell_24 : decode cX12_untell 24 = .ok (.ireturn, 1) := by decide +kernel
theorem dX12_openAt_0 : decode cX12_openAt 0 = .ok (.iconst 1, 1) := by decide +kernel
theorem dX12_openAt_1 : decode cX12_openAt 1 = .ok (.aload_n 0, 1) := by decide +kernel
theorem dX12_openAt_2 : decode cX12_openAt 2 = .ok (.invokevirtual 378, 3) := by decide +kernel
theorem dX12_openAt_5 : decode cX12_openAt 5 = .ok (.ishl, 1) := by decide +kernel
theorem dX12_openAt_6 : decode cX12_openAt 6 = .ok (.iconst 1, 1) := by decide +kernel
theorem dX12_openAt_7 : decode cX12_openAt 7 = .ok (.isub, 1) := by decide +kernel
theorem dX12_openAt_8 : decode cX12_openAt 8 = .ok (.istore_n 3, 1) := by decide +kernel
theorem dX12_openAt_9 : decode cX12_openAt 9 = .ok (.iconst 0, 1) := by decide +kernel
theorem dX12_openAt_10 : decode cX12_openAt 10 = .ok (.istore 4, 2) := by decide +kernel
theorem dX12_openAt_12 : decode cX12_openAt 12 = .ok (.iload 4, 2) := by decide +kernel
theorem dX12_openAt_14 : decode cX12_openAt 14 = .ok (.aload_n 0, 1) := by decide +kernel
theorem dX12_openAt_15 : decode cX12_openAt 15 = .ok (.getfield 415, 3) := by decide +kernel
theorem dX12_openAt_18 : decode cX12_openAt 18 = .ok (.if_icmp .ge 156, 3) := by decide +kernel
theorem dX12_openAt_174 : decode cX12_openAt 174 = .ok (.iload_n 3, 1) := by decide +kernel
theorem dX12_openAt_175 : decode cX12_openAt 175 = .ok (.ireturn, 1) := by decide +kernel
theorem dX12_stepOn_0 : decode cX12_stepOn 0 = .ok (.iconst 0, 1) := by decide +kernel
theorem dX12_stepOn_1 : decode cX12_stepOn 1 = .ok (.istore_n 2, 1) := by decide +kernel
theorem dX12_stepOn_2 : decode cX12_stepOn 2 = .ok (.iload_n 2, 1) := by decide +kernel
theorem dX12_stepOn_3 : decode cX12_stepOn 3 = .ok (.aload_n 0, 1) := by decide +kernel
theorem dX12_stepOn_4 : decode cX12_stepOn 4 = .ok (.invokevirtual 378, 3) := by decide +kernel
theorem dX12_stepOn_7 : decode cX12_stepOn 7 = .ok (.if_icmp .ge 78, 3) := by decide +kernel
theorem dX12_stepOn_85 : decode cX12_stepOn 85 = .ok (.iconst 0, 1) := by decide +kernel
theorem dX12_stepOn_86 : decode cX12_stepOn 86 = .ok (.istore_n 2, 1) := by decide +kernel
theorem dX12_stepOn_87 : decode cX12_stepOn 87 = .ok (.iload_n 2, 1) := by decide +kernel
theorem dX12_stepOn_88 : decode cX12_stepOn 88 = .ok (.aload_n 0, 1) := by decide +kernel
theorem dX12_stepOn_89 : decode cX12_stepOn 89 = .ok (.invokevirtual 378, 3) := by decide +kernel
theorem dX12_stepOn_92 : decode cX12_stepOn 92 = .ok (.if_icmp .ge 21, 3) := by decide +kernel
theorem dX12_stepOn_113 : decode cX12_stepOn 113 = .ok (.return_, 1) := by decide +kernel
theorem dX12_layWalks_0 : decode cX12_layWalks 0 = .ok (.iconst 0, 1) := by decide +kernel
theorem dX12_layWalks_1 : decode cX12_layWalks 1 = .ok (.istore_n 2, 1) := by decide +kernel
theorem dX12_layWalks_2 : decode cX12_layWalks 2 = .ok (.iload_n 2, 1) := by decide +kernel
theorem dX12_layWalks_3 : decode cX12_layWalks 3 = .ok (.aload_n 0, 1) := by decide +kernel
theorem dX12_layWalks_4 : decode cX12_layWalks 4 = .ok (.invokevirtual 378, 3) := by decide +kernel
theorem dX12_layWalks_7 : decode cX12_layWalks 7 = .ok (.if_icmp .ge 25, 3) := by decide +kernel
theorem dX12_layWalks_32 : decode cX12_layWalks 32 = .ok (.iconst 0, 1) := by decide +kernel
theorem dX12_layWalks_33 : decode cX12_layWalks 33 = .ok (.istore_n 2, 1) := by decide +kernel
theorem dX12_layWalks_34 : decode cX12_layWalks 34 = .ok (.iload_n 2, 1) := by decide +kernel
theorem dX12_layWalks_35 : decode cX12_layWalks 35 = .ok (.bipush 8, 2) := by decide +kernel
theorem dX12_layWalks_37 : decode cX12_layWalks 37 = .ok (.if_icmp .ge 56, 3) := by decide +kernel
theorem dX12_layWalks_40 : decode cX12_layWalks 40 = .ok (.iload_n 2, 1) := by decide +kernel
theorem dX12_layWalks_41 : decode cX12_layWalks 41 = .ok (.ifCond .le 13, 3) := by decide +kernel
theorem dX12_layWalks_44 : decode cX12_layWalks 44 = .ok (.aload_n 0, 1) := by decide +kernel
theorem dX12_layWalks_45 : decode cX12_layWalks 45 = .ok (.aload_n 0, 1) := by decide +kernel
theorem dX12_layWalks_46 : decode cX12_layWalks 46 = .ok (.iload_n 2, 1) := by decide +kernel
theorem dX12_layWalks_47 : decode cX12_layWalks 47 = .ok (.iload_n 1, 1) := by decide +kernel
theorem dX12_layWalks_48 : decode cX12_layWalks 48 = .ok (.invokevirtual 513, 3) := by decide +kernel
theorem dX12_layWalks_51 : decode cX12_layWalks 51 = .ok (.invokevirtual 516, 3) := by decide +kernel
theorem dX12_layWalks_54 : decode cX12_layWalks 54 = .ok (.iconst 0, 1) := by decide +kernel
theorem dX12_layWalks_55 : decode cX12_layWalks 55 = .ok (.istore_n 3, 1) := by decide +kernel
theorem dX12_layWalks_56 : decode cX12_layWalks 56 = .ok (.iload_n 3, 1) := by decide +kernel
theorem dX12_layWalks_57 : decode cX12_layWalks 57 = .ok (.aload_n 0, 1) := by decide +kernel
theorem dX12_layWalks_58 : decode cX12_layWalks 58 = .ok (.invokevirtual 378, 3) := by decide +kernel
theorem dX12_layWalks_61 : decode cX12_layWalks 61 = .ok (.if_icmp .ge 26, 3) := by decide +kernel
theorem dX12_layWalks_87 : decode cX12_layWalks 87 = .ok (.iinc 2 1, 3) := by decide +kernel
theorem dX12_layWalks_90 : decode cX12_layWalks 90 = .ok (.goto (-56), 3) := by decide +kernel
theorem dX12_layWalks_93 : decode cX12_layWalks 93 = .ok (.iconst 0, 1) := by decide +kernel
theorem dX12_layWalks_94 : decode cX12_layWalks 94 = .ok (.istore_n 2, 1) := by decide +kernel
theorem dX12_layWalks_95 : decode cX12_layWalks 95 = .ok (.iload_n 2, 1) := by decide +kernel
theorem dX12_layWalks_96 : decode cX12_layWalks 96 = .ok (.aload_n 0, 1) := by decide +kernel
theorem dX12_layWalks_97 : decode cX12_layWalks 97 = .ok (.invokevirtual 378, 3) := by decide +kernel
theorem dX12_layWalks_100 : decode cX12_layWalks 100 = .ok (.if_icmp .ge 16, 3) := by decide +kernel
theorem dX12_layWalks_116 : decode cX12_layWalks 116 = .ok (.bipush 7, 2) := by decide +kernel
theorem dX12_layWalks_118 : decode cX12_layWalks 118 = .ok (.istore_n 2, 1) := by decide +kernel
theorem dX12_layWalks_119 : decode cX12_layWalks 119 = .ok (.iload_n 2, 1) := by decide +kernel
theorem dX12_layWalks_120 : decode cX12_layWalks 120 = .ok (.ifCond .lt 76, 3) := by decide +kernel
theorem dX12_layWalks_123 : decode cX12_layWalks 123 = .ok (.iconst 0, 1) := by decide +kernel
theorem dX12_layWalks_124 : decode cX12_layWalks 124 = .ok (.istore_n 3, 1) := by decide +kernel
theorem dX12_layWalks_125 : decode cX12_layWalks 125 = .ok (.iload_n 3, 1) := by decide +kernel
theorem dX12_layWalks_126 : decode cX12_layWalks 126 = .ok (.aload_n 0, 1) := by decide +kernel
theorem dX12_layWalks_127 : decode cX12_layWalks 127 = .ok (.invokevirtual 378, 3) := by decide +kernel
theorem dX12_layWalks_130 : decode cX12_layWalks 130 = .ok (.if_icmp .ge 55, 3) := by decide +kernel
theorem dX12_layWalks_185 : decode cX12_layWalks 185 = .ok (.aload_n 0, 1) := by decide +kernel
theorem dX12_layWalks_186 : decode cX12_layWalks 186 = .ok (.iconst (-1), 1) := by decide +kernel
theorem dX12_layWalks_187 : decode cX12_layWalks 187 = .ok (.invokevirtual 516, 3) := by decide +kernel
theorem dX12_layWalks_190 : decode cX12_layWalks 190 = .ok (.iinc 2 (-1), 3) := by decide +kernel
theorem dX12_layWalks_193 : decode cX12_layWalks 193 = .ok (.goto (-74), 3) := by decide +kernel
theorem dX12_layWalks_196 : decode cX12_layWalks 196 = .ok (.return_, 1) := by decide +kernel
theorem dX12_allWalks_0 : decode cX12_allWalks 0 = .ok (.iconst 0, 1) := by decide +kernel
theorem dX12_allWalks_1 : decode cX12_allWalks 1 = .ok (.istore_n 1, 1) := by decide +kernel
theorem dX12_allWalks_2 : decode cX12_allWalks 2 = .ok (.iconst 0, 1) := by decide +kernel
theorem dX12_allWalks_3 : decode cX12_allWalks 3 = .ok (.istore_n 2, 1) := by decide +kernel
theorem dX12_allWalks_4 : decode cX12_allWalks 4 = .ok (.iload_n 2, 1) := by decide +kernel
theorem dX12_allWalks_5 : decode cX12_allWalks 5 = .ok (.aload_n 0, 1) := by decide +kernel
theorem dX12_allWalks_6 : decode cX12_allWalks 6 = .ok (.invokevirtual 378, 3) := by decide +kernel
theorem dX12_allWalks_9 : decode cX12_allWalks 9 = .ok (.if_icmp .ge 18, 3) := by decide +kernel
theorem dX12_allWalks_27 : decode cX12_allWalks 27 = .ok (.iload_n 1, 1) := by decide +kernel
theorem dX12_allWalks_28 : decode cX12_allWalks 28 = .ok (.ireturn, 1) := by decide +kernel
theorem dX12_walks_0 : decode cX12_walks 0 = .ok (.aload_n 0, 1) := by decide +kernel
theorem dX12_walks_1 : decode cX12_walks 1 = .ok (.iload_n 1, 1) := by decide +kernel
theorem dX12_walks_2 : decode cX12_walks 2 = .ok (.invokevirtual 522, 3) := by decide +kernel
theorem dX12_walks_5 : decode cX12_walks 5 = .ok (.aload_n 0, 1) := by decide +kernel
theorem dX12_walks_6 : decode cX12_walks 6 = .ok (.invokevirtual 525, 3) := by decide +kernel
theorem dX12_walks_9 : decode cX12_walks 9 = .ok (.ireturn, 1) := by decide +kernel
theorem dX12_certain_0 : decode cX12_certain 0 = .ok (.iload_n 1, 1) := by decide +kernel
theorem dX12_certain_1 : decode cX12_certain 1 = .ok (.iconst 0, 1) := by decide +kernel
theorem dX12_certain_2 : decode cX12_certain 2 = .ok (.bipush 7, 2) := by decide +kernel
theorem dX12_certain_4 : decode cX12_certain 4 = .ok (.invokestatic 381, 3) := by decide +kernel
theorem dX12_certain_7 : decode cX12_certain 7 = .ok (.ifCond .ne 5, 3) := by decide +kernel
theorem dX12_certain_10 : decode cX12_certain 10 = .ok (.iconst (-1), 1) := by decide +kernel
theorem dX12_certain_11 : decode cX12_certain 11 = .ok (.ireturn, 1) := by decide +kernel
theorem dX12_certain_12 : decode cX12_certain 12 = .ok (.aload_n 0, 1) := by decide +kernel
theorem dX12_certain_13 : decode cX12_certain 13 = .ok (.iload_n 2, 1) := by decide +kernel
theorem dX12_certain_14 : decode cX12_certain 14 = .ok (.invokevirtual 522, 3) := by decide +kernel
theorem dX12_certain_17 : decode cX12_certain 17 = .ok (.aload_n 0, 1) := by decide +kernel
theorem dX12_certain_18 : decode cX12_certain 18 = .ok (.invokevirtual 525, 3) := by decide +kernel
theorem dX12_certain_21 : decode cX12_certain 21 = .ok (.istore_n 3, 1) := by decide +kernel
theorem dX12_certain_22 : decode cX12_certain 22 = .ok (.iload_n 3, 1) := by decide +kernel
theorem dX12_certain_23 : decode cX12_certain 23 = .ok (.ifCond .ne 5, 3) := by decide +kernel
theorem dX12_certain_26 : decode cX12_certain 26 = .ok (.iconst (-1), 1) := by decide +kernel
theorem dX12_certain_27 : decode cX12_certain 27 = .ok (.ireturn, 1) := by decide +kernel
theorem dX12_ask_0 : decode cX12_ask 0 = .ok (.iload_n 1, 1) := by decide +kernel
theorem dX12_ask_1 : decode cX12_ask 1 = .ok (.iconst 0, 1) := by decide +kernel
theorem dX12_ask_2 : decode cX12_ask 2 = .ok (.iconst 1, 1) := by decide +kernel
theorem dX12_ask_3 : decode cX12_ask 3 = .ok (.invokestatic 381, 3) := by decide +kernel
theorem dX12_ask_6 : decode cX12_ask 6 = .ok (.ifCond .ne 5, 3) := by decide +kernel
theorem dX12_ask_9 : decode cX12_ask 9 = .ok (.iconst (-1), 1) := by decide +kernel
theorem dX12_ask_10 : decode cX12_ask 10 = .ok (.ireturn, 1) := by decide +kernel
theorem dX12_ask_11 : decode cX12_ask 11 = .ok (.aload_n 0, 1) := by decide +kernel
theorem dX12_ask_12 : decode cX12_ask 12 = .ok (.iload_n 2, 1) := by decide +kernel
theorem dX12_ask_13 : decode cX12_ask 13 = .ok (.invokevirtual 522, 3) := by decide +kernel
theorem dX12_ask_16 : decode cX12_ask 16 = .ok (.aload_n 0, 1) := by decide +kernel
theorem dX12_ask_17 : decode cX12_ask 17 = .ok (.invokevirtual 525, 3) := by decide +kernel
theorem dX12_ask_20 : decode cX12_ask 20 = .ok (.ifCond .ne 5, 3) := by decide +kernel
theorem dX12_ask_23 : decode cX12_ask 23 = .ok (.iconst (-1), 1) := by decide +kernel
theorem dX12_ask_24 : decode cX12_ask 24 = .ok (.ireturn, 1) := by decide +kernel
theorem dX12_back_0 : decode cX12_back 0 = .ok (.iload_n 1, 1) := by decide +kernel
theorem dX12_back_1 : decode cX12_back 1 = .ok (.iconst 0, 1) := by decide +kernel
theorem dX12_back_2 : decode cX12_back 2 = .ok (.iconst 2, 1) := by decide +kernel
theorem dX12_back_3 : decode cX12_back 3 = .ok (.invokestatic 381, 3) := by decide +kernel
theorem dX12_back_6 : decode cX12_back 6 = .ok (.ifCond .eq 12, 3) := by decide +kernel
theorem dX12_back_9 : decode cX12_back 9 = .ok (.aload_n 0, 1) := by decide +kernel
theorem dX12_back_10 : decode cX12_back 10 = .ok (.getfield 164, 3) := by decide +kernel
theorem dX12_back_13 : decode cX12_back 13 = .ok (.iload_n 1, 1) := by decide +kernel
theorem dX12_back_14 : decode cX12_back 14 = .ok (.baload, 1) := by decide +kernel
theorem dX12_back_15 : decode cX12_back 15 = .ok (.ifCond .ne 5, 3) := by decide +kernel
theorem dX12_back_18 : decode cX12_back 18 = .ok (.iconst (-1), 1) := by decide +kernel
theorem dX12_back_19 : decode cX12_back 19 = .ok (.ireturn, 1) := by decide +kernel
theorem dX12_about_0 : decode cX12_about 0 = .ok (.iload_n 1, 1) := by decide +kernel
theorem dX12_about_1 : decode cX12_about 1 = .ok (.tableswitch 139 0 11 #[63, 68, 78, 83, 91, 99, 104, 109, 114, 119, 124, 134], 63) := by decide +kernel
theorem dX12_about_64 : decode cX12_about 64 = .ok (.aload_n 0, 1) := by decide +kernel
theorem dX12_about_65 : decode cX12_about 65 = .ok (.invokevirtual 378, 3) := by decide +kernel
theorem dX12_about_68 : decode cX12_about 68 = .ok (.ireturn, 1) := by decide +kernel
theorem dX12_about_69 : decode cX12_about 69 = .ok (.aload_n 0, 1) := by decide +kernel
theorem dX12_about_70 : decode cX12_about 70 = .ok (.getfield 24, 3) := by decide +kernel
theorem dX12_about_73 : decode cX12_about 73 = .ok (.aload_n 0, 1) := by decide +kernel
theorem dX12_about_74 : decode cX12_about 74 = .ok (.getfield 280, 3) := by decide +kernel
theorem dX12_about_77 : decode cX12_about 77 = .ok (.iaload, 1) := by decide +kernel
theorem dX12_about_78 : decode cX12_about 78 = .ok (.ireturn, 1) := by decide +kernel
theorem dX12_about_79 : decode cX12_about 79 = .ok (.aload_n 0, 1) := by decide +kernel
theorem dX12_about_80 : decode cX12_about 80 = .ok (.invokevirtual 388, 3) := by decide +kernel
theorem dX12_about_83 : decode cX12_about 83 = .ok (.ireturn, 1) := by decide +kernel
theorem dX12_about_84 : decode cX12_about 84 = .ok (.aload_n 0, 1) := by decide +kernel
theorem dX12_about_85 : decode cX12_about 85 = .ok (.getfield 95, 3) := by decide +kernel
theorem dX12_about_88 : decode cX12_about 88 = .ok (.bipush 30, 2) := by decide +kernel
theorem dX12_about_90 : decode cX12_about 90 = .ok (.iaload, 1) := by decide +kernel
theorem dX12_about_91 : decode cX12_about 91 = .ok (.ireturn, 1) := by decide +kernel
theorem dX12_about_92 : decode cX12_about 92 = .ok (.aload_n 0, 1) := by decide +kernel
theorem dX12_about_93 : decode cX12_about 93 = .ok (.getfield 95, 3) := by decide +kernel
theorem dX12_about_96 : decode cX12_about 96 = .ok (.bipush 31, 2) := by decide +kernel
theorem dX12_about_98 : decode cX12_about 98 = .ok (.iaload, 1) := by decide +kernel
theorem dX12_about_99 : decode cX12_about 99 = .ok (.ireturn, 1) := by decide +kernel
theorem dX12_about_100 : decode cX12_about 100 = .ok (.aload_n 0, 1) := by decide +kernel
theorem dX12_about_101 : decode cX12_about 101 = .ok (.getfield 409, 3) := by decide +kernel
theorem dX12_about_104 : decode cX12_about 104 = .ok (.ireturn, 1) := by decide +kernel
theorem dX12_about_105 : decode cX12_about 105 = .ok (.aload_n 0, 1) := by decide +kernel
theorem dX12_about_106 : decode cX12_about 106 = .ok (.getfield 412, 3) := by decide +kernel
theorem dX12_about_109 : decode cX12_about 109 = .ok (.ireturn, 1) := by decide +kernel
theorem dX12_about_110 : decode cX12_about 110 = .ok (.aload_n 0, 1) := by decide +kernel
theorem dX12_about_111 : decode cX12_about 111 = .ok (.getfield 415, 3) := by decide +kernel
theorem dX12_about_114 : decode cX12_about 114 = .ok (.ireturn, 1) := by decide +kernel
theorem dX12_about_115 : decode cX12_about 115 = .ok (.aload_n 0, 1) := by decide +kernel
theorem dX12_about_116 : decode cX12_about 116 = .ok (.getfield 505, 3) := by decide +kernel
theorem dX12_about_119 : decode cX12_about 119 = .ok (.ireturn, 1) := by decide +kernel
theorem dX12_about_120 : decode cX12_about 120 = .ok (.aload_n 0, 1) := by decide +kernel
theorem dX12_about_121 : decode cX12_about 121 = .ok (.getfield 277, 3) := by decide +kernel
theorem dX12_about_124 : decode cX12_about 124 = .ok (.ireturn, 1) := by decide +kernel
theorem dX12_about_125 : decode cX12_about 125 = .ok (.aload_n 0, 1) := by decide +kernel
theorem dX12_about_126 : decode cX12_about 126 = .ok (.getfield 30, 3) := by decide +kernel
theorem dX12_about_129 : decode cX12_about 129 = .ok (.aload_n 0, 1) := by decide +kernel
theorem dX12_about_130 : decode cX12_about 130 = .ok (.getfield 280, 3) := by decide +kernel
theorem dX12_about_133 : decode cX12_about 133 = .ok (.iaload, 1) := by decide +kernel
theorem dX12_about_134 : decode cX12_about 134 = .ok (.ireturn, 1) := by decide +kernel
theorem dX12_about_135 : decode cX12_about 135 = .ok (.aload_n 0, 1) := by decide +kernel
theorem dX12_about_136 : decode cX12_about 136 = .ok (.getfield 418, 3) := by decide +kernel
theorem dX12_about_139 : decode cX12_about 139 = .ok (.ireturn, 1) := by decide +kernel
theorem dX12_about_140 : decode cX12_about 140 = .ok (.iconst (-1), 1) := by decide +kernel
theorem dX12_about_141 : decode cX12_about 141 = .ok (.ireturn, 1) := by decide +kernel
set_option maxRecDepth 20000 in
theorem ggX12_isRoom_X12_isIn : GoodIn wsX12_isRoom wsX12_isIn := goodIn_r _ [10] (by decide +kernel) (by decide +kernel)
set_option maxRecDepth 20000 in
theorem gX12_isRoom_X12_isIn : GoodIn wsX12_isRoom (va_wsS RX12 381 yX12_isIn wsX12_isIn) := goodIn_app (goodIn_of _ (by decide +kernel)) ggX12_isRoom_X12_isIn
set_option maxRecDepth 20000 in
theorem ggX12_isRoom_X12_places : GoodIn wsX12_isRoom wsX12_places := goodIn_r _ [5, 6, 7, 11, 12, 13, 14, 15, 16, 17, 18, 19, 20, 21, 22, 23, 24, 25, 26, 27, 28, 29, 30, 31, 32, 33, 34, 35, 36, 37, 38, 39, 40, 41, 42, 43, 44, 45, 46, 47, 48, 49, 50, 51, 52, 53, 54, 55, 56, 57, 58, 59, 60, 61, 62, 63, 64, 65, 66, 67, 68, 69, 70, 71, 72, 73, 74, 75, 76, 77, 78, 79, 80, 81] (by decide +kernel) (by decide +kernel)
set_option maxRecDepth 20000 in
theorem gX12_isRoom_X12_places : GoodIn wsX12_isRoom (wsV RX12 378 RX12 yX12_places wsX12_places) := goodIn_app (goodIn_of _ (by decide +kernel)) ggX12_isRoom_X12_places
set_option maxRecDepth 20000 in
theorem ggX12_areRooms_X12_isRoom : GoodIn wsX12_areRooms wsX12_isRoom := goodIn_r _ [5, 6, 7, 8, 4, 9, 10, 11, 12, 13, 14, 15, 16, 17, 18, 19, 20, 21, 22, 23, 24, 25, 26, 27, 28, 29, 30, 31, 32, 33, 34, 35, 36, 37, 38, 39, 40, 41, 42, 43, 44, 45, 46, 47, 48, 49, 50, 51, 52, 53, 54, 55, 56, 57, 58, 59, 60, 61, 62, 63, 64, 65, 66, 67, 68, 69, 70, 71, 72, 73, 74, 75, 76, 77, 78, 79, 80, 81, 82, 83, 84, 85] (by decide +kernel) (by decide +kernel)
set_option maxRecDepth 20000 in
theorem gX12_areRooms_X12_isRoom : GoodIn wsX12_areRooms (wsV RX12 385 RX12 yX12_isRoom wsX12_isRoom) := goodIn_app (goodIn_of _ (by decide +kernel)) ggX12_areRooms_X12_isRoom
set_option maxRecDepth 20000 in
theorem ggX12_isThing_X12_isIn : GoodIn wsX12_isThing wsX12_isIn := goodIn_r _ [10] (by decide +kernel) (by decide +kernel)
set_option maxRecDepth 20000 in
theorem gX12_isThing_X12_isIn : GoodIn wsX12_isThing (va_wsS RX12 381 yX12_isIn wsX12_isIn) := goodIn_app (goodIn_of _ (by decide +kernel)) ggX12_isThing_X12_isIn
set_option maxRecDepth 20000 in
theorem ggX12_isThing_X12_many : GoodIn wsX12_isThing wsX12_many := goodIn_r _ [5, 6, 7, 11, 12, 13, 14, 15, 16, 17, 18, 19, 20, 21, 22, 23, 24, 25, 26, 27, 28, 29, 30, 31, 32, 33, 34, 35, 36, 37, 38, 39, 40, 41, 42, 43, 44, 45, 46, 47, 48, 49, 50, 51, 52, 53, 54, 55, 56, 57, 58, 59, 60, 61, 62, 63, 64, 65, 66, 67, 68, 69, 70, 71, 72, 73, 74, 75, 76, 77, 78, 79, 80, 81] (by decide +kernel) (by decide +kernel)
set_option maxRecDepth 20000 in
theorem gX12_isThing_X12_many : GoodIn wsX12_isThing (wsV RX12 388 RX12 yX12_many wsX12_many) := goodIn_app (goodIn_of _ (by decide +kernel)) ggX12_isThing_X12_many
set_option maxRecDepth 20000 in
theorem ggX12_isSet_X12_isIn : GoodIn wsX12_isSet wsX12_isIn := goodIn_r _ [10] (by decide +kernel) (by decide +kernel)
set_option maxRecDepth 20000 in
theorem gX12_isSet_X12_isIn : GoodIn wsX12_isSet (va_wsS RX12 381 yX12_isIn wsX12_isIn) := goodIn_app (goodIn_of _ (by decide +kernel)) ggX12_isSet_X12_isIn
set_option maxRecDepth 20000 in
theorem ggX12_isSet_X12_places : GoodIn wsX12_isSet wsX12_places := goodIn_r _ [5, 6, 7, 11, 12, 13, 14, 15, 16, 17, 18, 19, 20, 21, 22, 23, 24, 25, 26, 27, 28, 29, 30, 31, 32, 33, 34, 35, 36, 37, 38, 39, 40, 41, 42, 43, 44, 45, 46, 47, 48, 49, 50, 51, 52, 53, 54, 55, 56, 57, 58, 59, 60, 61, 62, 63, 64, 65, 66, 67, 68, 69, 70, 71, 72, 73, 74, 75, 76, 77, 78, 79, 80, 81] (by decide +kernel) (by decide +kernel)
set_option maxRecDepth 20000 in
theorem gX12_isSet_X12_places : GoodIn wsX12_isSet (wsV RX12 378 RX12 yX12_places wsX12_places) := goodIn_app (goodIn_of _ (by decide +kernel)) ggX12_isSet_X12_places
set_option maxRecDepth 20000 in
theorem ggX12_room_X12_isRoom : GoodIn wsX12_room wsX12_isRoom := goodIn_r _ [5, 6, 7, 8, 4, 9, 10, 11, 12, 13, 14, 45, 46, 47, 48, 49, 50, 51, 52, 53, 54, 55, 56, 57, 58, 59, 60, 61, 62, 63, 64, 65, 66, 67, 68, 69, 70, 71, 72, 73, 74, 75, 76, 77, 78, 79, 80, 81, 82, 83, 84, 85, 86, 87, 88, 89, 90, 91, 92, 93, 94, 95, 96, 97, 98, 99, 100, 101, 102, 103, 104, 105, 106, 107, 108, 109, 110, 111, 112, 113, 114, 115] (by decide +kernel) (by decide +kernel)
set_option maxRecDepth 20000 in
theorem gX12_room_X12_isRoom : GoodIn wsX12_room (wsV RX12 385 RX12 yX12_isRoom wsX12_isRoom) := goodIn_app (goodIn_of _ (by decide +kernel)) ggX12_room_X12_isRoom
set_option maxRecDepth 20000 in
theorem ggX12_thing_X12_isThing : GoodIn wsX12_thing wsX12_isThing := goodIn_r _ [9, 10, 11, 12, 8, 13, 14, 3, 15, 16, 17, 55, 56, 57, 58, 59, 60, 61, 62, 63, 64, 65, 66, 67, 68, 69, 70, 71, 72, 73, 74, 75, 76, 77, 78, 79, 80, 81, 82, 83, 84, 85, 86, 87, 88, 89, 90, 91, 92, 93, 94, 95, 96, 97, 98, 99, 100, 101, 102, 103, 104, 105, 106, 107, 108, 109, 110, 111, 112, 113, 114, 115, 116, 117, 118, 119, 120, 121, 122, 123, 124, 125] (by decide +kernel) (by decide +kernel)
set_option maxRecDepth 20000 in
theorem gX12_thing_X12_isThing : GoodIn wsX12_thing (wsV RX12 436 RX12 yX12_isThing wsX12_isThing) := goodIn_app (goodIn_of _ (by decide +kernel)) ggX12_thing_X12_isThing
set_option maxRecDepth 20000 in
theorem ggX12_door_X12_isIn : GoodIn wsX12_door wsX12_isIn := goodIn_r _ [7] (by decide +kernel) (by decide +kernel)
set_option maxRecDepth 20000 in
theorem gX12_door_X12_isIn : GoodIn wsX12_door (va_wsS RX12 381 yX12_isIn wsX12_isIn) := goodIn_app (goodIn_of _ (by decide +kernel)) ggX12_door_X12_isIn
set_option maxRecDepth 20000 in
theorem ggX12_far_X12_areRooms : GoodIn wsX12_far wsX12_areRooms := goodIn_r _ [5, 6, 7, 8, 4, 9, 10, 11, 12, 13, 14, 15, 16, 17, 18, 24, 25, 26, 27, 28, 29, 30, 31, 32, 33, 34, 35, 36, 37, 38, 39, 40, 41, 42, 43, 44, 45, 46, 47, 48, 49, 50, 51, 52, 53, 54, 55, 56, 57, 58, 59, 60, 61, 62, 63, 64, 65, 66, 67, 68, 69, 70, 71, 72, 73, 74, 75, 76, 77, 78, 79, 80, 81, 82, 83, 84, 85, 86, 87, 88, 89, 90, 91, 92, 93, 94] (by decide +kernel) (by decide +kernel)
set_option maxRecDepth 20000 in
theorem gX12_far_X12_areRooms : GoodIn wsX12_far (wsV RX12 445 RX12 yX12_areRooms wsX12_areRooms) := goodIn_app (goodIn_of _ (by decide +kernel)) ggX12_far_X12_areRooms
set_option maxRecDepth 20000 in
theorem ggX12_tell_X12_isThing : GoodIn wsX12_tell wsX12_isThing := goodIn_r _ [6, 7, 8, 9, 5, 10, 11, 12, 13, 14, 15, 30, 31, 32, 33, 34, 35, 36, 37, 38, 39, 40, 41, 42, 43, 44, 45, 46, 47, 48, 49, 50, 51, 52, 53, 54, 55, 56, 57, 58, 59, 60, 61, 62, 63, 64, 65, 66, 67, 68, 69, 70, 71, 72, 73, 74, 75, 76, 77, 78, 79, 80, 81, 82, 83, 84, 85, 86, 87, 88, 89, 90, 91, 92, 93, 94, 95, 96, 97, 98, 99, 100] (by decide +kernel) (by decide +kernel)
set_option maxRecDepth 20000 in
theorem gX12_tell_X12_isThing : GoodIn wsX12_tell (wsV RX12 436 RX12 yX12_isThing wsX12_isThing) := goodIn_app (goodIn_of _ (by decide +kernel)) ggX12_tell_X12_isThing
set_option maxRecDepth 20000 in
theorem ggX12_hear_X12_isThing : GoodIn wsX12_hear wsX12_isThing := goodIn_r _ [6, 7, 8, 9, 5, 10, 11, 12, 13, 14, 15, 30, 31, 32, 33, 34, 35, 36, 37, 38, 39, 40, 41, 42, 43, 44, 45, 46, 47, 48, 49, 50, 51, 52, 53, 54, 55, 56, 57, 58, 59, 60, 61, 62, 63, 64, 65, 66, 67, 68, 69, 70, 71, 72, 73, 74, 75, 76, 77, 78, 79, 80, 81, 82, 83, 84, 85, 86, 87, 88, 89, 90, 91, 92, 93, 94, 95, 96, 97, 98, 99, 100] (by decide +kernel) (by decide +kernel)
set_option maxRecDepth 20000 in
theorem gX12_hear_X12_isThing : GoodIn wsX12_hear (wsV RX12 436 RX12 yX12_isThing wsX12_isThing) := goodIn_app (goodIn_of _ (by decide +kernel)) ggX12_hear_X12_isThing
set_option maxRecDepth 20000 in
theorem ggX12_send_X12_isThing : GoodIn wsX12_send wsX12_isThing := goodIn_r _ [6, 7, 8, 9, 5, 10, 11, 12, 13, 14, 15, 23, 24, 25, 26, 27, 28, 29, 30, 31, 32, 33, 34, 35, 36, 37, 38, 39, 40, 41, 42, 43, 44, 45, 46, 47, 48, 49, 50, 51, 52, 53, 54, 55, 56, 57, 58, 59, 60, 61, 62, 63, 64, 65, 66, 67, 68, 69, 70, 71, 72, 73, 74, 75, 76, 77, 78, 79, 80, 81, 82, 83, 84, 85, 86, 87, 88, 89, 90, 91, 92, 93] (by decide +kernel) (by decide +kernel)
set_option maxRecDepth 20000 in
theorem gX12_send_X12_isThing : GoodIn wsX12_send (wsV RX12 436 RX12 yX12_isThing wsX12_isThing) := goodIn_app (goodIn_of _ (by decide +kernel)) ggX12_send_X12_isThing
set_option maxRecDepth 20000 in
theorem ggX12_carry_X12_isThing : GoodIn wsX12_carry wsX12_isThing := goodIn_r _ [8, 9, 10, 11, 7, 12, 13, 2, 14, 15, 16, 34, 35, 36, 37, 38, 39, 40, 41, 42, 43, 44, 45, 46, 47, 48, 49, 50, 51, 52, 53, 54, 55, 56, 57, 58, 59, 60, 61, 62, 63, 64, 65, 66, 67, 68, 69, 70, 71, 72, 73, 74, 75, 76, 77, 78, 79, 80, 81, 82, 83, 84, 85, 86, 87, 88, 89, 90, 91, 92, 93, 94, 95, 96, 97, 98, 99, 100, 101, 102, 103, 104] (by decide +kernel) (by decide +kernel)
set_option maxRecDepth 20000 in
theorem gX12_carry_X12_isThing : GoodIn wsX12_carry (wsV RX12 436 RX12 yX12_isThing wsX12_isThing) := goodIn_app (goodIn_of _ (by decide +kernel)) ggX12_carry_X12_isThing
set_option maxRecDepth 20000 in
theorem ggX12_lies_X12_isIn : GoodIn wsX12_lies wsX12_isIn := goodIn_r _ [6] (by decide +kernel) (by decide +kernel)
set_option maxRecDepth 20000 in
theorem gX12_lies_X12_isIn : GoodIn wsX12_lies (va_wsS RX12 381 yX12_isIn wsX12_isIn) := goodIn_app (goodIn_of _ (by decide +kernel)) ggX12_lies_X12_isIn
set_option maxRecDepth 20000 in
theorem ggX12_ways_X12_areRooms : GoodIn wsX12_ways wsX12_areRooms := goodIn_r _ [6, 7, 8, 9, 5, 10, 11, 12, 13, 14, 15, 16, 17, 18, 19, 43, 44, 45, 46, 47, 48, 49, 50, 51, 52, 53, 54, 55, 56, 57, 58, 59, 60, 61, 62, 63, 64, 65, 66, 67, 68, 69, 70, 71, 72, 73, 74, 75, 76, 77, 78, 79, 80, 81, 82, 83, 84, 85, 86, 87, 88, 89, 90, 91, 92, 93, 94, 95, 96, 97, 98, 99, 100, 101, 102, 103, 104, 105, 106, 107, 108, 109, 110, 111, 112, 113] (by decide +kernel) (by decide +kernel)
set_option maxRecDepth 20000 in
theorem gX12_ways_X12_areRooms : GoodIn wsX12_ways (wsV RX12 445 RX12 yX12_areRooms wsX12_areRooms) := goodIn_app (goodIn_of _ (by decide +kernel)) ggX12_ways_X12_areRooms
set_option maxRecDepth 20000 in
theorem ggX12_pieces_X12_places : GoodIn wsX12_pieces wsX12_places := goodIn_r _ [5, 6, 7, 30, 31, 32, 33, 34, 35, 36, 37, 38, 39, 40, 41, 42, 43, 44, 45, 46, 47, 48, 49, 50, 51, 52, 53, 54, 55, 56, 57, 58, 59, 60, 61, 62, 63, 64, 65, 66, 67, 68, 69, 70, 71, 72, 73, 74, 75, 76, 77, 78, 79, 80, 81, 82, 83, 84, 85, 86, 87, 88, 89, 90, 91, 92, 93, 94, 95, 96, 97, 98, 99, 100] (by decide +kernel) (by decide +kernel)
set_option maxRecDepth 20000 in
theorem gX12_pieces_X12_places : GoodIn wsX12_pieces (wsV RX12 378 RX12 yX12_places wsX12_places) := goodIn_app (goodIn_of _ (by decide +kernel)) ggX12_pieces_X12_places
set_option maxRecDepth 20000 in
theorem ggX12_hunt_X12_isSet : GoodIn wsX12_hunt wsX12_isSet := goodIn_r _ [6, 7, 8, 9, 5, 10, 11, 12, 13, 14, 15, 38, 39, 40, 41, 42, 43, 44, 45, 46, 47, 48, 49, 50, 51, 52, 53, 54, 55, 56, 57, 58, 59, 60, 61, 62, 63, 64, 65, 66, 67, 68, 69, 70, 71, 72, 73, 74, 75, 76, 77, 78, 79, 80, 81, 82, 83, 84, 85, 86, 87, 88, 89, 90, 91, 92, 93, 94, 95, 96, 97, 98, 99, 100, 101, 102, 103, 104, 105, 106, 107, 108] (by decide +kernel) (by decide +kernel)
set_option maxRecDepth 20000 in
theorem gX12_hunt_X12_isSet : GoodIn wsX12_hunt (wsV RX12 472 RX12 yX12_isSet wsX12_isSet) := goodIn_app (goodIn_of _ (by decide +kernel)) ggX12_hunt_X12_isSet
set_option maxRecDepth 20000 in
theorem ggX12_first_X12_isSet : GoodIn wsX12_first wsX12_isSet := goodIn_r _ [7, 8, 9, 10, 6, 11, 12, 13, 14, 15, 16, 38, 39, 40, 41, 42, 43, 44, 45, 46, 47, 48, 49, 50, 51, 52, 53, 54, 55, 56, 57, 58, 59, 60, 61, 62, 63, 64, 65, 66, 67, 68, 69, 70, 71, 72, 73, 74, 75, 76, 77, 78, 79, 80, 81, 82, 83, 84, 85, 86, 87, 88, 89, 90, 91, 92, 93, 94, 95, 96, 97, 98, 99, 100, 101, 102, 103, 104, 105, 106, 107, 108] (by decide +kernel) (by decide +kernel)
set_option maxRecDepth 20000 in
theorem gX12_first_X12_isSet : GoodIn wsX12_first (wsV RX12 472 RX12 yX12_isSet wsX12_isSet) := goodIn_app (goodIn_of _ (by decide +kernel)) ggX12_first_X12_isSet
set_option maxRecDepth 20000 in
theorem ggX12_meet_X12_areRooms : GoodIn wsX12_meet wsX12_areRooms := goodIn_r _ [5, 6, 7, 8, 4, 9, 10, 11, 12, 13, 14, 15, 16, 17, 18, 24, 25, 26, 27, 28, 29, 30, 31, 32, 33, 34, 35, 36, 37, 38, 39, 40, 41, 42, 43, 44, 45, 46, 47, 48, 49, 50, 51, 52, 53, 54, 55, 56, 57, 58, 59, 60, 61, 62, 63, 64, 65, 66, 67, 68, 69, 70, 71, 72, 73, 74, 75, 76, 77, 78, 79, 80, 81, 82, 83, 84, 85, 86, 87, 88, 89, 90, 91, 92, 93, 94] (by decide +kernel) (by decide +kernel)
set_option maxRecDepth 20000 in
theorem gX12_meet_X12_areRooms : GoodIn wsX12_meet (wsV RX12 445 RX12 yX12_areRooms wsX12_areRooms) := goodIn_app (goodIn_of _ (by decide +kernel)) ggX12_meet_X12_areRooms
set_option maxRecDepth 20000 in
theorem ggX12_bar_X12_areRooms : GoodIn wsX12_bar wsX12_areRooms := goodIn_r _ [5, 6, 7, 8, 4, 9, 10, 11, 12, 13, 14, 15, 16, 17, 18, 50, 51, 52, 53, 54, 55, 56, 57, 58, 59, 60, 61, 62, 63, 64, 65, 66, 67, 68, 69, 70, 71, 72, 73, 74, 75, 76, 77, 78, 79, 80, 81, 82, 83, 84, 85, 86, 87, 88, 89, 90, 91, 92, 93, 94, 95, 96, 97, 98, 99, 100, 101, 102, 103, 104, 105, 106, 107, 108, 109, 110, 111, 112, 113, 114, 115, 116, 117, 118, 119, 120] (by decide +kernel) (by decide +kernel)
set_option maxRecDepth 20000 in
theorem gX12_bar_X12_areRooms : GoodIn wsX12_bar (wsV RX12 445 RX12 yX12_areRooms wsX12_areRooms) := goodIn_app (goodIn_of _ (by decide +kernel)) ggX12_bar_X12_areRooms
set_option maxRecDepth 20000 in
theorem ggX12_centre_X12_places : GoodIn wsX12_centre wsX12_places := goodIn_r _ [5, 6, 7, 17, 18, 19, 20, 21, 22, 23, 24, 25, 26, 27, 28, 29, 30, 31, 32, 33, 34, 35, 36, 37, 38, 39, 40, 41, 42, 43, 44, 45, 46, 47, 48, 49, 50, 51, 52, 53, 54, 55, 56, 57, 58, 59, 60, 61, 62, 63, 64, 65, 66, 67, 68, 69, 70, 71, 72, 73, 74, 75, 76, 77, 78, 79, 80, 81, 82, 83, 84, 85, 86, 87] (by decide +kernel) (by decide +kernel)
set_option maxRecDepth 20000 in
theorem gX12_centre_X12_places : GoodIn wsX12_centre (wsV RX12 378 RX12 yX12_places wsX12_places) := goodIn_app (goodIn_of _ (by decide +kernel)) ggX12_centre_X12_places
set_option maxRecDepth 20000 in
theorem ggX12_nooks_X12_places : GoodIn wsX12_nooks wsX12_places := goodIn_r _ [5, 6, 7, 26, 27, 28, 29, 30, 31, 32, 33, 34, 35, 36, 37, 38, 39, 40, 41, 42, 43, 44, 45, 46, 47, 48, 49, 50, 51, 52, 53, 54, 55, 56, 57, 58, 59, 60, 61, 62, 63, 64, 65, 66, 67, 68, 69, 70, 71, 72, 73, 74, 75, 76, 77, 78, 79, 80, 81, 82, 83, 84, 85, 86, 87, 88, 89, 90, 91, 92, 93, 94, 95, 96] (by decide +kernel) (by decide +kernel)
set_option maxRecDepth 20000 in
theorem gX12_nooks_X12_places : GoodIn wsX12_nooks (wsV RX12 378 RX12 yX12_places wsX12_places) := goodIn_app (goodIn_of _ (by decide +kernel)) ggX12_nooks_X12_places
set_option maxRecDepth 20000 in
theorem ggX12_echo_X12_isRoom : GoodIn wsX12_echo wsX12_isRoom := goodIn_r _ [5, 6, 7, 8, 4, 9, 10, 11, 12, 13, 14, 25, 26, 27, 28, 29, 30, 31, 32, 33, 34, 35, 36, 37, 38, 39, 40, 41, 42, 43, 44, 45, 46, 47, 48, 49, 50, 51, 52, 53, 54, 55, 56, 57, 58, 59, 60, 61, 62, 63, 64, 65, 66, 67, 68, 69, 70, 71, 72, 73, 74, 75, 76, 77, 78, 79, 80, 81, 82, 83, 84, 85, 86, 87, 88, 89, 90, 91, 92, 93, 94, 95] (by decide +kernel) (by decide +kernel)
set_option maxRecDepth 20000 in
theorem gX12_echo_X12_isRoom : GoodIn wsX12_echo (wsV RX12 385 RX12 yX12_isRoom wsX12_isRoom) := goodIn_app (goodIn_of _ (by decide +kernel)) ggX12_echo_X12_isRoom
set_option maxRecDepth 20000 in
theorem ggX12_mend_X12_isIn : GoodIn wsX12_mend wsX12_isIn := goodIn_r _ [5] (by decide +kernel) (by decide +kernel)
set_option maxRecDepth 20000 in
theorem gX12_mend_X12_isIn : GoodIn wsX12_mend (va_wsS RX12 381 yX12_isIn wsX12_isIn) := goodIn_app (goodIn_of _ (by decide +kernel)) ggX12_mend_X12_isIn
set_option maxRecDepth 20000 in
theorem ggX12_mend_X12_many : GoodIn wsX12_mend wsX12_many := goodIn_r _ [9, 10, 11, 17, 18, 19, 20, 21, 22, 23, 24, 25, 26, 27, 28, 29, 30, 31, 32, 33, 34, 35, 36, 37, 38, 39, 40, 41, 42, 43, 44, 45, 46, 47, 48, 49, 50, 51, 52, 53, 54, 55, 56, 57, 58, 59, 60, 61, 62, 63, 64, 65, 66, 67, 68, 69, 70, 71, 72, 73, 74, 75, 76, 77, 78, 79, 80, 81, 82, 83, 84, 85, 86, 87] (by decide +kernel) (by decide +kernel)
set_option maxRecDepth 20000 in
theorem gX12_mend_X12_many : GoodIn wsX12_mend (wsV RX12 388 RX12 yX12_many wsX12_many) := goodIn_app (goodIn_of _ (by decide +kernel)) ggX12_mend_X12_many
set_option maxRecDepth 20000 in
theorem ggX12_regret_X12_many : GoodIn wsX12_regret wsX12_many := goodIn_r _ [6, 7, 8, 15, 16, 17, 18, 19, 20, 21, 22, 23, 24, 25, 26, 27, 28, 29, 30, 31, 32, 33, 34, 35, 36, 37, 38, 39, 40, 41, 42, 43, 44, 45, 46, 47, 48, 49, 50, 51, 52, 53, 54, 55, 56, 57, 58, 59, 60, 61, 62, 63, 64, 65, 66, 67, 68, 69, 70, 71, 72, 73, 74, 75, 76, 77, 78, 79, 80, 81, 82, 83, 84, 85] (by decide +kernel) (by decide +kernel)
set_option maxRecDepth 20000 in
theorem gX12_regret_X12_many : GoodIn wsX12_regret (wsV RX12 388 RX12 yX12_many wsX12_many) := goodIn_app (goodIn_of _ (by decide +kernel)) ggX12_regret_X12_many
set_option maxRecDepth 20000 in
theorem ggX12_trade_X12_isIn : GoodIn wsX12_trade wsX12_isIn := goodIn_r _ [4] (by decide +kernel) (by decide +kernel)
set_option maxRecDepth 20000 in
theorem gX12_trade_X12_isIn : GoodIn wsX12_trade (va_wsS RX12 381 yX12_isIn wsX12_isIn) := goodIn_app (goodIn_of _ (by decide +kernel)) ggX12_trade_X12_isIn
set_option maxRecDepth 20000 in
theorem ggX12_trade_X12_many : GoodIn wsX12_trade wsX12_many := goodIn_r _ [8, 9, 10, 22, 23, 24, 25, 26, 27, 28, 29, 30, 31, 32, 33, 34, 35, 36, 37, 38, 39, 40, 41, 42, 43, 44, 45, 46, 47, 48, 49, 50, 51, 52, 53, 54, 55, 56, 57, 58, 59, 60, 61, 62, 63, 64, 65, 66, 67, 68, 69, 70, 71, 72, 73, 74, 75, 76, 77, 78, 79, 80, 81, 82, 83, 84, 85, 86, 87, 88, 89, 90, 91, 92] (by decide +kernel) (by decide +kernel)
set_option maxRecDepth 20000 in
theorem gX12_trade_X12_many : GoodIn wsX12_trade (wsV RX12 388 RX12 yX12_many wsX12_many) := goodIn_app (goodIn_of _ (by decide +kernel)) ggX12_trade_X12_many
set_option maxRecDepth 20000 in
theorem ggX12_wealth_X12_isIn : GoodIn wsX12_wealth wsX12_isIn := goodIn_r _ [5] (by decide +kernel) (by decide +kernel)
set_option maxRecDepth 20000 in
theorem gX12_wealth_X12_isIn : GoodIn wsX12_wealth (va_wsS RX12 381 yX12_isIn wsX12_isIn) := goodIn_app (goodIn_of _ (by decide +kernel)) ggX12_wealth_X12_isIn
set_option maxRecDepth 20000 in
theorem ggX12_wealth_X12_many : GoodIn wsX12_wealth wsX12_many := goodIn_r _ [9, 10, 11, 18, 19, 20, 21, 22, 23, 24, 25, 26, 27, 28, 29, 30, 31, 32, 33, 34, 35, 36, 37, 38, 39, 40, 41, 42, 43, 44, 45, 46, 47, 48, 49, 50, 51, 52, 53, 54, 55, 56, 57, 58, 59, 60, 61, 62, 63, 64, 65, 66, 67, 68, 69, 70, 71, 72, 73, 74, 75, 76, 77, 78, 79, 80, 81, 82, 83, 84, 85, 86, 87, 88] (by decide +kernel) (by decide +kernel)
set_option maxRecDepth 20000 in
theorem gX12_wealth_X12_many : GoodIn wsX12_wealth (wsV RX12 388 RX12 yX12_many wsX12_many) := goodIn_app (goodIn_of _ (by decide +kernel)) ggX12_wealth_X12_many
set_option maxRecDepth 20000 in
theorem ggX12_off_X12_many : GoodIn wsX12_off wsX12_many := goodIn_r _ [5, 6, 7, 21, 22, 23, 24, 25, 26, 27, 28, 29, 30, 31, 32, 33, 34, 35, 36, 37, 38, 39, 40, 41, 42, 43, 44, 45, 46, 47, 48, 49, 50, 51, 52, 53, 54, 55, 56, 57, 58, 59, 60, 61, 62, 63, 64, 65, 66, 67, 68, 69, 70, 71, 72, 73, 74, 75, 76, 77, 78, 79, 80, 81, 82, 83, 84, 85, 86, 87, 88, 89, 90, 91] (by decide +kernel) (by decide +kernel)
set_option maxRecDepth 20000 in
theorem gX12_off_X12_many : GoodIn wsX12_off (wsV RX12 388 RX12 yX12_many wsX12_many) := goodIn_app (goodIn_of _ (by decide +kernel)) ggX12_off_X12_many
set_option maxRecDepth 20000 in
theorem ggX12_rightOnes_X12_many : GoodIn wsX12_rightOnes wsX12_many := goodIn_r _ [6, 7, 8, 9, 10, 11, 12, 13, 14, 15, 16, 17, 18, 19, 20, 21, 22, 23, 24, 25, 26, 27, 28, 29, 30, 31, 32, 33, 34, 35, 36, 37, 38, 39, 40, 41, 42, 43, 44, 45, 46, 47, 48, 49, 50, 51, 52, 53, 54, 55, 56, 57, 58, 59, 60, 61, 62, 63, 64, 65, 66, 67, 68, 69, 70, 71, 72, 73, 74, 75, 76, 77, 78, 79] (by decide +kernel) (by decide +kernel)
set_option maxRecDepth 20000 in
theorem gX12_rightOnes_X12_many : GoodIn wsX12_rightOnes (wsV RX12 388 RX12 yX12_many wsX12_many) := goodIn_app (goodIn_of _ (by decide +kernel)) ggX12_rightOnes_X12_many
set_option maxRecDepth 20000 in
theorem ggX12_right_X12_rightOnes : GoodIn wsX12_right wsX12_rightOnes := goodIn_r _ [5, 6, 7, 8, 9, 4, 10, 11, 12, 13, 14, 15, 16, 17, 18, 19, 20, 21, 22, 23, 24, 25, 26, 27, 28, 29, 30, 31, 32, 33, 34, 35, 36, 37, 38, 39, 40, 41, 42, 43, 44, 45, 46, 47, 48, 49, 50, 51, 52, 53, 54, 55, 56, 57, 58, 59, 60, 61, 62, 63, 64, 65, 66, 67, 68, 69, 70, 71, 72, 73, 74, 75, 76, 77, 78, 79, 80, 81, 82, 83] (by decide +kernel) (by decide +kernel)
set_option maxRecDepth 20000 in
theorem gX12_right_X12_rightOnes : GoodIn wsX12_right (wsV RX12 493 RX12 yX12_rightOnes wsX12_rightOnes) := goodIn_app (goodIn_of _ (by decide +kernel)) ggX12_right_X12_rightOnes
set_option maxRecDepth 20000 in
theorem ggX12_deep_X12_isIn : GoodIn wsX12_deep wsX12_isIn := goodIn_r _ [5] (by decide +kernel) (by decide +kernel)
set_option maxRecDepth 20000 in
theorem gX12_deep_X12_isIn : GoodIn wsX12_deep (va_wsS RX12 381 yX12_isIn wsX12_isIn) := goodIn_app (goodIn_of _ (by decide +kernel)) ggX12_deep_X12_isIn
set_option maxRecDepth 20000 in
theorem ggX12_deep_X12_many : GoodIn wsX12_deep wsX12_many := goodIn_r _ [9, 10, 11, 12, 13, 14, 15, 16, 17, 18, 19, 20, 21, 22, 23, 24, 25, 26, 27, 28, 29, 30, 31, 32, 33, 34, 35, 36, 37, 38, 39, 40, 41, 42, 43, 44, 45, 46, 47, 48, 49, 50, 51, 52, 53, 54, 55, 56, 57, 58, 59, 60, 61, 62, 63, 64, 65, 66, 67, 68, 69, 70, 71, 72, 73, 74, 75, 76, 77, 78, 79, 80, 81, 82] (by decide +kernel) (by decide +kernel)
set_option maxRecDepth 20000 in
theorem gX12_deep_X12_many : GoodIn wsX12_deep (wsV RX12 388 RX12 yX12_many wsX12_many) := goodIn_app (goodIn_of _ (by decide +kernel)) ggX12_deep_X12_many
set_option maxRecDepth 20000 in
theorem ggX12_stay_X12_isThing : GoodIn wsX12_stay wsX12_isThing := goodIn_r _ [6, 7, 8, 9, 5, 10, 11, 12, 13, 14, 15, 58, 59, 60, 61, 62, 63, 64, 65, 66, 67, 68, 69, 70, 71, 72, 73, 74, 75, 76, 77, 78, 79, 80, 81, 82, 83, 84, 85, 86, 87, 88, 89, 90, 91, 92, 93, 94, 95, 96, 97, 98, 99, 100, 101, 102, 103, 104, 105, 106, 107, 108, 109, 110, 111, 112, 113, 114, 115, 116, 117, 118, 119, 120, 121, 122, 123, 124, 125, 126, 127, 128] (by decide +kernel) (by decide +kernel)
set_option maxRecDepth 20000 in
theorem gX12_stay_X12_isThing : GoodIn wsX12_stay (wsV RX12 436 RX12 yX12_isThing wsX12_isThing) := goodIn_app (goodIn_of _ (by decide +kernel)) ggX12_stay_X12_isThing
set_option maxRecDepth 20000 in
theorem ggX12_will_X12_isThing : GoodIn wsX12_will wsX12_isThing := goodIn_r _ [6, 7, 8, 9, 5, 10, 11, 12, 13, 14, 15, 73, 74, 75, 76, 77, 78, 79, 80, 81, 82, 83, 84, 85, 86, 87, 88, 89, 90, 91, 92, 93, 94, 95, 96, 97, 98, 99, 100, 101, 102, 103, 104, 105, 106, 107, 108, 109, 110, 111, 112, 113, 114, 115, 116, 117, 118, 119, 120, 121, 122, 123, 124, 125, 126, 127, 128, 129, 130, 131, 132, 133, 134, 135, 136, 137, 138, 139, 140, 141, 142, 143] (by decide +kernel) (by decide +kernel)
set_option maxRecDepth 20000 in
theorem gX12_will_X12_isThing : GoodIn wsX12_will (wsV RX12 436 RX12 yX12_isThing wsX12_isThing) := goodIn_app (goodIn_of _ (by decide +kernel)) ggX12_will_X12_isThing
set_option maxRecDepth 20000 in
theorem ggX12_lost_X12_many : GoodIn wsX12_lost wsX12_many := goodIn_r _ [5, 6, 7, 70, 71, 72, 73, 74, 75, 76, 77, 78, 79, 80, 81, 82, 83, 84, 85, 86, 87, 88, 89, 90, 91, 92, 93, 94, 95, 96, 97, 98, 99, 100, 101, 102, 103, 104, 105, 106, 107, 108, 109, 110, 111, 112, 113, 114, 115, 116, 117, 118, 119, 120, 121, 122, 123, 124, 125, 126, 127, 128, 129, 130, 131, 132, 133, 134, 135, 136, 137, 138, 139, 140] (by decide +kernel) (by decide +kernel)
set_option maxRecDepth 20000 in
theorem gX12_lost_X12_many : GoodIn wsX12_lost (wsV RX12 388 RX12 yX12_many wsX12_many) := goodIn_app (goodIn_of _ (by decide +kernel)) ggX12_lost_X12_many
set_option maxRecDepth 20000 in
theorem ggX12_seen_X12_isRoom : GoodIn wsX12_seen wsX12_isRoom := goodIn_r _ [5, 6, 7, 8, 4, 9, 10, 11, 12, 13, 14, 27, 28, 29, 30, 31, 32, 33, 34, 35, 36, 37, 38, 39, 40, 41, 42, 43, 44, 45, 46, 47, 48, 49, 50, 51, 52, 53, 54, 55, 56, 57, 58, 59, 60, 61, 62, 63, 64, 65, 66, 67, 68, 69, 70, 71, 72, 73, 74, 75, 76, 77, 78, 79, 80, 81, 82, 83, 84, 85, 86, 87, 88, 89, 90, 91, 92, 93, 94, 95, 96, 97] (by decide +kernel) (by decide +kernel)
set_option maxRecDepth 20000 in
theorem gX12_seen_X12_isRoom : GoodIn wsX12_seen (wsV RX12 385 RX12 yX12_isRoom wsX12_isRoom) := goodIn_app (goodIn_of _ (by decide +kernel)) ggX12_seen_X12_isRoom
set_option maxRecDepth 20000 in
theorem ggX12_untell_X12_isIn : GoodIn wsX12_untell wsX12_isIn := goodIn_r _ [7] (by decide +kernel) (by decide +kernel)
set_option maxRecDepth 20000 in
theorem gX12_untell_X12_isIn : GoodIn wsX12_untell (va_wsS RX12 381 yX12_isIn wsX12_isIn) := goodIn_app (goodIn_of _ (by decide +kernel)) ggX12_untell_X12_isIn
set_option maxRecDepth 20000 in
theorem ggX12_openAt_X12_places : GoodIn wsX12_openAt wsX12_places := goodIn_r _ [12, 13, 14, 20, 21, 22, 23, 24, 25, 26, 27, 28, 29, 30, 31, 32, 33, 34, 35, 36, 37, 38, 39, 40, 41, 42, 43, 44, 45, 46, 47, 48, 49, 50, 51, 52, 53, 54, 55, 56, 57, 58, 59, 60, 61, 62, 63, 64, 65, 66, 67, 68, 69, 70, 71, 72, 73, 74, 75, 76, 77, 78, 79, 80, 81, 82, 83, 84, 85, 86, 87, 88, 89, 90] (by decide +kernel) (by decide +kernel)
set_option maxRecDepth 20000 in
theorem gX12_openAt_X12_places : GoodIn wsX12_openAt (wsV RX12 378 RX12 yX12_places wsX12_places) := goodIn_app (goodIn_of _ (by decide +kernel)) ggX12_openAt_X12_places
set_option maxRecDepth 20000 in
theorem ggX12_stepOn_X12_places : GoodIn wsX12_stepOn wsX12_places := goodIn_r _ [7, 8, 9, 28, 29, 30, 31, 32, 33, 34, 35, 36, 37, 38, 39, 40, 41, 42, 43, 44, 45, 46, 47, 48, 49, 50, 51, 52, 53, 54, 55, 56, 57, 58, 59, 60, 61, 62, 63, 64, 65, 66, 67, 68, 69, 70, 71, 72, 73, 74, 75, 76, 77, 78, 79, 80, 81, 82, 83, 84, 85, 86, 87, 88, 89, 90, 91, 92, 93, 94, 95, 96, 97, 98] (by decide +kernel) (by decide +kernel)
set_option maxRecDepth 20000 in
theorem gX12_stepOn_X12_places : GoodIn wsX12_stepOn (wsV RX12 378 RX12 yX12_places wsX12_places) := goodIn_app (goodIn_of _ (by decide +kernel)) ggX12_stepOn_X12_places
set_option maxRecDepth 20000 in
theorem ggX12_layWalks_X12_openAt : GoodIn wsX12_layWalks wsX12_openAt := goodIn_r _ [14, 15, 16, 17, 18, 19, 20, 21, 4, 5, 6, 7, 8, 9, 10, 22, 23, 24, 25, 26, 50, 51, 52, 53, 54, 55, 56, 57, 58, 59, 60, 61, 62, 63, 64, 65, 66, 67, 68, 69, 70, 71, 72, 73, 74, 75, 76, 77, 78, 79, 80, 81, 82, 83, 84, 85, 86, 87, 88, 89, 90, 91, 92, 93, 94, 95, 96, 97, 98, 99, 100, 101, 102, 103, 104, 105, 106, 107, 108, 109, 110, 111, 112, 113, 114, 115, 116, 117, 118, 119, 120] (by decide +kernel) (by decide +kernel)
set_option maxRecDepth 20000 in
theorem gX12_layWalks_X12_openAt : GoodIn wsX12_layWalks (wsV RX12 513 RX12 yX12_openAt wsX12_openAt) := goodIn_app (goodIn_of _ (by decide +kernel)) ggX12_layWalks_X12_openAt
set_option maxRecDepth 20000 in
theorem ggX12_layWalks_X12_places : GoodIn wsX12_layWalks wsX12_places := goodIn_r _ [8, 9, 10, 50, 51, 52, 53, 54, 55, 56, 57, 58, 59, 60, 61, 62, 63, 64, 65, 66, 67, 68, 69, 70, 71, 72, 73, 74, 75, 76, 77, 78, 79, 80, 81, 82, 83, 84, 85, 86, 87, 88, 89, 90, 91, 92, 93, 94, 95, 96, 97, 98, 99, 100, 101, 102, 103, 104, 105, 106, 107, 108, 109, 110, 111, 112, 113, 114, 115, 116, 117, 118, 119, 120] (by decide +kernel) (by decide +kernel)
set_option maxRecDepth 20000 in
theorem gX12_layWalks_X12_places : GoodIn wsX12_layWalks (wsV RX12 378 RX12 yX12_places wsX12_places) := goodIn_app (goodIn_of _ (by decide +kernel)) ggX12_layWalks_X12_places
set_option maxRecDepth 20000 in
theorem ggX12_layWalks_X12_stepOn : GoodIn wsX12_layWalks wsX12_stepOn := goodIn_r _ [30, 31, 1, 4, 5, 6, 7, 8, 9, 10, 32, 33, 34, 35, 36, 37, 38, 39, 40, 41, 42, 43, 44, 45, 46, 47, 48, 49, 50, 51, 52, 53, 54, 55, 56, 57, 58, 59, 60, 61, 62, 63, 64, 65, 66, 67, 68, 69, 70, 71, 72, 73, 74, 75, 76, 77, 78, 79, 80, 81, 82, 83, 84, 85, 86, 87, 88, 89, 90, 91, 92, 93, 94, 95, 96, 97, 98, 99, 100, 101, 102, 103, 104, 105, 106, 107, 108, 109, 110, 111, 112, 113, 114, 115, 116, 117, 118, 119, 120] (by decide +kernel) (by decide +kernel)
set_option maxRecDepth 20000 in
theorem gX12_layWalks_X12_stepOn : GoodIn wsX12_layWalks (wsV RX12 516 RX12 yX12_stepOn wsX12_stepOn) := goodIn_app (goodIn_of _ (by decide +kernel)) ggX12_layWalks_X12_stepOn
set_option maxRecDepth 20000 in
theorem ggX12_allWalks_X12_places : GoodIn wsX12_allWalks wsX12_places := goodIn_r _ [5, 6, 7, 14, 15, 16, 17, 18, 19, 20, 21, 22, 23, 24, 25, 26, 27, 28, 29, 30, 31, 32, 33, 34, 35, 36, 37, 38, 39, 40, 41, 42, 43, 44, 45, 46, 47, 48, 49, 50, 51, 52, 53, 54, 55, 56, 57, 58, 59, 60, 61, 62, 63, 64, 65, 66, 67, 68, 69, 70, 71, 72, 73, 74, 75, 76, 77, 78, 79, 80, 81, 82, 83, 84] (by decide +kernel) (by decide +kernel)
set_option maxRecDepth 20000 in
theorem gX12_allWalks_X12_places : GoodIn wsX12_allWalks (wsV RX12 378 RX12 yX12_places wsX12_places) := goodIn_app (goodIn_of _ (by decide +kernel)) ggX12_allWalks_X12_places
set_option maxRecDepth 20000 in
theorem ggX12_walks_X12_allWalks : GoodIn wsX12_walks wsX12_allWalks := goodIn_r _ [57, 9, 10, 11, 4, 12, 13, 14, 58, 59, 60, 61, 7, 8, 62, 63, 64, 65, 66, 67, 68, 69, 70, 71, 72, 73, 74, 75, 76, 77, 78, 79, 80, 81, 82, 83, 84, 85, 86, 87, 88, 89, 90, 91, 92, 93, 94, 95, 96, 97, 98, 99, 100, 101, 102, 103, 104, 105, 106, 107, 108, 109, 110, 111, 112, 113, 114, 115, 116, 117, 118, 119, 120, 121, 122, 123, 124, 125, 126, 127, 128, 129, 130, 131, 132] (by decide +kernel) (by decide +kernel)
set_option maxRecDepth 20000 in
theorem gX12_walks_X12_allWalks : GoodIn wsX12_walks (wsV RX12 525 RX12 yX12_allWalks wsX12_allWalks) := goodIn_app (goodIn_of _ (by decide +kernel)) ggX12_walks_X12_allWalks
set_option maxRecDepth 20000 in
theorem ggX12_walks_X12_layWalks : GoodIn wsX12_walks wsX12_layWalks := goodIn_r _ [5, 6, 7, 8, 9, 10, 11, 4, 12, 13, 14, 15, 16, 17, 18, 19, 20, 21, 22, 23, 24, 25, 26, 27, 28, 29, 30, 31, 32, 33, 34, 35, 36, 37, 38, 39, 40, 41, 42, 43, 44, 45, 46, 47, 48, 49, 50, 51, 52, 53, 62, 63, 64, 65, 66, 67, 68, 69, 70, 71, 72, 73, 74, 75, 76, 77, 78, 79, 80, 81, 82, 83, 84, 85, 86, 87, 88, 89, 90, 91, 92, 93, 94, 95, 96, 97, 98, 99, 100, 101, 102, 103, 104, 105, 106, 107, 108, 109, 110, 111, 112, 113, 114, 115, 116, 117, 118, 119, 120, 121, 122, 123, 124, 125, 126, 127, 128, 129, 130, 131, 132] (by decide +kernel) (by decide +kernel)
set_option maxRecDepth 20000 in
theorem gX12_walks_X12_layWalks : GoodIn wsX12_walks (wsV RX12 522 RX12 yX12_layWalks wsX12_layWalks) := goodIn_app (goodIn_of _ (by decide +kernel)) ggX12_walks_X12_layWalks
set_option maxRecDepth 20000 in
theorem ggX12_certain_X12_allWalks : GoodIn wsX12_certain wsX12_allWalks := goodIn_r _ [60, 12, 13, 14, 3, 15, 16, 17, 61, 62, 63, 64, 10, 11, 65, 66, 67, 68, 69, 70, 71, 72, 73, 74, 75, 76, 77, 78, 79, 80, 81, 82, 83, 84, 85, 86, 87, 88, 89, 90, 91, 92, 93, 94, 95, 96, 97, 98, 99, 100, 101, 102, 103, 104, 105, 106, 107, 108, 109, 110, 111, 112, 113, 114, 115, 116, 117, 118, 119, 120, 121, 122, 123, 124, 125, 126, 127, 128, 129, 130, 131, 132, 133, 134, 135] (by decide +kernel) (by decide +kernel)
set_option maxRecDepth 20000 in
theorem gX12_certain_X12_allWalks : GoodIn wsX12_certain (wsV RX12 525 RX12 yX12_allWalks wsX12_allWalks) := goodIn_app (goodIn_of _ (by decide +kernel)) ggX12_certain_X12_allWalks
set_option maxRecDepth 20000 in
theorem ggX12_certain_X12_isIn : GoodIn wsX12_certain wsX12_isIn := goodIn_r _ [4] (by decide +kernel) (by decide +kernel)
set_option maxRecDepth 20000 in
theorem gX12_certain_X12_isIn : GoodIn wsX12_certain (va_wsS RX12 381 yX12_isIn wsX12_isIn) := goodIn_app (goodIn_of _ (by decide +kernel)) ggX12_certain_X12_isIn
set_option maxRecDepth 20000 in
theorem ggX12_certain_X12_layWalks : GoodIn wsX12_certain wsX12_layWalks := goodIn_r _ [8, 9, 10, 11, 12, 13, 14, 3, 15, 16, 17, 18, 19, 20, 21, 22, 23, 24, 25, 26, 27, 28, 29, 30, 31, 32, 33, 34, 35, 36, 37, 38, 39, 40, 41, 42, 43, 44, 45, 46, 47, 48, 49, 50, 51, 52, 53, 54, 55, 56, 65, 66, 67, 68, 69, 70, 71, 72, 73, 74, 75, 76, 77, 78, 79, 80, 81, 82, 83, 84, 85, 86, 87, 88, 89, 90, 91, 92, 93, 94, 95, 96, 97, 98, 99, 100, 101, 102, 103, 104, 105, 106, 107, 108, 109, 110, 111, 112, 113, 114, 115, 116, 117, 118, 119, 120, 121, 122, 123, 124, 125, 126, 127, 128, 129, 130, 131, 132, 133, 134, 135] (by decide +kernel) (by decide +kernel)
set_option maxRecDepth 20000 in
theorem gX12_certain_X12_layWalks : GoodIn wsX12_certain (wsV RX12 522 RX12 yX12_layWalks wsX12_layWalks) := goodIn_app (goodIn_of _ (by decide +kernel)) ggX12_certain_X12_layWalks
set_option maxRecDepth 20000 in
theorem ggX12_ask_X12_allWalks : GoodIn wsX12_ask wsX12_allWalks := goodIn_r _ [60, 12, 13, 14, 3, 15, 16, 17, 61, 62, 63, 64, 10, 11, 65, 66, 67, 68, 69, 70, 71, 72, 73, 74, 75, 76, 77, 78, 79, 80, 81, 82, 83, 84, 85, 86, 87, 88, 89, 90, 91, 92, 93, 94, 95, 96, 97, 98, 99, 100, 101, 102, 103, 104, 105, 106, 107, 108, 109, 110, 111, 112, 113, 114, 115, 116, 117, 118, 119, 120, 121, 122, 123, 124, 125, 126, 127, 128, 129, 130, 131, 132, 133, 134, 135] (by decide +kernel) (by decide +kernel)
set_option maxRecDepth 20000 in
theorem gX12_ask_X12_allWalks : GoodIn wsX12_ask (wsV RX12 525 RX12 yX12_allWalks wsX12_allWalks) := goodIn_app (goodIn_of _ (by decide +kernel)) ggX12_ask_X12_allWalks
set_option maxRecDepth 20000 in
theorem ggX12_ask_X12_isIn : GoodIn wsX12_ask wsX12_isIn := goodIn_r _ [4] (by decide +kernel) (by decide +kernel)
set_option maxRecDepth 20000 in
theorem gX12_ask_X12_isIn : GoodIn wsX12_ask (va_wsS RX12 381 yX12_isIn wsX12_isIn) := goodIn_app (goodIn_of _ (by decide +kernel)) ggX12_ask_X12_isIn
set_option maxRecDepth 20000 in
theorem ggX12_ask_X12_layWalks : GoodIn wsX12_ask wsX12_layWalks := goodIn_r _ [8, 9, 10, 11, 12, 13, 14, 3, 15, 16, 17, 18, 19, 20, 21, 22, 23, 24, 25, 26, 27, 28, 29, 30, 31, 32, 33, 34, 35, 36, 37, 38, 39, 40, 41, 42, 43, 44, 45, 46, 47, 48, 49, 50, 51, 52, 53, 54, 55, 56, 65, 66, 67, 68, 69, 70, 71, 72, 73, 74, 75, 76, 77, 78, 79, 80, 81, 82, 83, 84, 85, 86, 87, 88, 89, 90, 91, 92, 93, 94, 95, 96, 97, 98, 99, 100, 101, 102, 103, 104, 105, 106, 107, 108, 109, 110, 111, 112, 113, 114, 115, 116, 117, 118, 119, 120, 121, 122, 123, 124, 125, 126, 127, 128, 129, 130, 131, 132, 133, 134, 135] (by decide +kernel) (by decide +kernel)
set_option maxRecDepth 20000 in
theorem gX12_ask_X12_layWalks : GoodIn wsX12_ask (wsV RX12 522 RX12 yX12_layWalks wsX12_layWalks) := goodIn_app (goodIn_of _ (by decide +kernel)) ggX12_ask_X12_layWalks
set_option maxRecDepth 20000 in
theorem ggX12_back_X12_isIn : GoodIn wsX12_back wsX12_isIn := goodIn_r _ [9] (by decide +kernel) (by decide +kernel)
set_option maxRecDepth 20000 in
theorem gX12_back_X12_isIn : GoodIn wsX12_back (va_wsS RX12 381 yX12_isIn wsX12_isIn) := goodIn_app (goodIn_of _ (by decide +kernel)) ggX12_back_X12_isIn
set_option maxRecDepth 20000 in
theorem ggX12_about_X12_many : GoodIn wsX12_about wsX12_many := goodIn_r _ [20, 21, 2, 22, 23, 24, 25, 26, 27, 28, 29, 30, 31, 32, 33, 34, 35, 36, 37, 38, 39, 40, 41, 42, 43, 44, 45, 46, 47, 48, 49, 50, 51, 52, 53, 54, 55, 56, 57, 58, 59, 60, 61, 62, 63, 64, 65, 66, 67, 68, 69, 70, 71, 72, 73, 74, 75, 76, 77, 78, 79, 80, 81, 82, 83, 84, 85, 86, 87, 88, 89, 90, 91, 92] (by decide +kernel) (by decide +kernel)
set_option maxRecDepth 20000 in
theorem gX12_about_X12_many : GoodIn wsX12_about (wsV RX12 388 RX12 yX12_many wsX12_many) := goodIn_app (goodIn_of _ (by decide +kernel)) ggX12_about_X12_many
set_option maxRecDepth 20000 in
theorem ggX12_about_X12_places : GoodIn wsX12_about wsX12_places := goodIn_r _ [15, 16, 2, 22, 23, 24, 25, 26, 27, 28, 29, 30, 31, 32, 33, 34, 35, 36, 37, 38, 39, 40, 41, 42, 43, 44, 45, 46, 47, 48, 49, 50, 51, 52, 53, 54, 55, 56, 57, 58, 59, 60, 61, 62, 63, 64, 65, 66, 67, 68, 69, 70, 71, 72, 73, 74, 75, 76, 77, 78, 79, 80, 81, 82, 83, 84, 85, 86, 87, 88, 89, 90, 91, 92] (by decide +kernel) (by decide +kernel)
set_option maxRecDepth 20000 in
theorem gX12_about_X12_places : GoodIn wsX12_about (wsV RX12 378 RX12 yX12_places wsX12_places) := goodIn_app (goodIn_of _ (by decide +kernel)) ggX12_about_X12_places
theorem iw_X12_places_X12 : ∀ w ∈ wsX120, w ∈ wsX12_places := fun _ h => List.mem_cons_of_mem _ (List.mem_append_right _ h)
theorem iw_X12_many_X12 : ∀ w ∈ wsX120, w ∈ wsX12_many := fun _ h => List.mem_cons_of_mem _ (List.mem_append_right _ h)
theorem iw_X12_fault_X12 : ∀ w ∈ wsX120, w ∈ wsX12_fault := fun _ h => List.mem_cons_of_mem _ (List.mem_append_right _ h)
theorem iw_X12_door_X12 : ∀ w ∈ wsX120, w ∈ wsX12_door := fun _ h => List.mem_cons_of_mem _ (List.mem_append_right _ h)
theorem iw_X12_undo_X12 : ∀ w ∈ wsX120, w ∈ wsX12_undo := fun _ h => List.mem_cons_of_mem _ (List.mem_append_right _ h)
theorem iw_X12_redo_X12 : ∀ w ∈ wsX120, w ∈ wsX12_redo := fun _ h => List.mem_cons_of_mem _ (List.mem_append_right _ h)
theorem iw_X12_lies_X12 : ∀ w ∈ wsX120, w ∈ wsX12_lies := fun _ h => List.mem_cons_of_mem _ (List.mem_append_right _ h)
theorem iw_X12_parts_X12 : ∀ w ∈ wsX120, w ∈ wsX12_parts := fun _ h => List.mem_cons_of_mem _ (List.mem_append_right _ h)
theorem iw_X12_untell_X12 : ∀ w ∈ wsX120, w ∈ wsX12_untell := fun _ h => List.mem_cons_of_mem _ (List.mem_append_right _ h)
theorem iw_X12_openAt_X12 : ∀ w ∈ wsX120, w ∈ wsX12_openAt := fun _ h => List.mem_cons_of_mem _ (List.mem_append_right _ h)
theorem iw_X12_back_X12 : ∀ w ∈ wsX120, w ∈ wsX12_back := fun _ h => List.mem_cons_of_mem _ (List.mem_append_right _ h)
theorem iw_X12_about_X12 : ∀ w ∈ wsX120, w ∈ wsX12_about := fun _ h => List.mem_cons_of_mem _ (List.mem_append_right _ h)
