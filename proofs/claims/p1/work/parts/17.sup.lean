def wsX12_feed : List Cond := .code yX12_feed cX12_feed 8 (some .int) :: ([.fieldLink RX12 277 "SoldHouseModel" "taped" "I", .fieldLink RX12 7 "SoldHouseModel" "tape" "[B"] ++ wsX120)
def wsX12_end : List Cond := .code yX12_end cX12_end 2 (some .int) :: ([.fieldLink RX12 277 "SoldHouseModel" "taped" "I"] ++ wsX120)
def wsX12_way_r1 : List Cond := [Cond.fieldLink RX12 418 "SoldHouseModel" "laid" "I", Cond.methodLink RX12 445 yX12_areRooms, Cond.instanceMethod yX12_areRooms, Cond.selects RX12 yX12_areRooms yX12_areRooms, Cond.initialized RX12, Cond.code yX12_areRooms cX12_areRooms 3 (some .boolean), Cond.methodLink RX12 385 yX12_isRoom, Cond.instanceMethod yX12_isRoom, Cond.selects RX12 yX12_isRoom yX12_isRoom, Cond.code yX12_isRoom cX12_isRoom 2 (some .boolean), Cond.methodLink RX12 378 yX12_places, Cond.instanceMethod yX12_places, Cond.selects RX12 yX12_places yX12_places, Cond.code yX12_places cX12_places 1 (some .int), Cond.fieldLink RX12 20 "SoldHouseModel" "rooms" "[I", Cond.fieldLink RX12 280 "SoldHouseModel" "bank" "I", Cond.methodLink RX12 381 yX12_isIn, Cond.static yX12_isIn, Cond.code yX12_isIn cX12_isIn 3 (some .boolean), Cond.methodLink RX12 463 yX12_weighAlike, Cond.instanceMethod yX12_weighAlike, Cond.selects RX12 yX12_weighAlike yX12_weighAlike, Cond.code yX12_weighAlike cX12_weighAlike 2 none, Cond.fieldLink RX12 110 "SoldHouseModel" "weight" "[I"]
def wsX12_way_r2 : List Cond := [Cond.methodLink RX12 466 yX12_showWay, Cond.instanceMethod yX12_showWay, Cond.selects RX12 yX12_showWay yX12_showWay, Cond.code yX12_showWay cX12_showWay 5 (some .int), Cond.fieldLink RX12 107 "SoldHouseModel" "toGoal" "[I", Cond.fieldLink RX12 113 "SoldHouseModel" "laidRow" "[I", Cond.methodLink RX12 460 yX12_layGoal, Cond.instanceMethod yX12_layGoal, Cond.selects RX12 yX12_layGoal yX12_layGoal, Cond.code yX12_layGoal cX12_layGoal 7 none, Cond.fieldLink RX12 24 "SoldHouseModel" "doors" "[I", Cond.methodLink RX12 391 yX12_oneOf, Cond.instanceMethod yX12_oneOf, Cond.selects RX12 yX12_oneOf yX12_oneOf, Cond.code yX12_oneOf cX12_oneOf 2 (some .int), Cond.fieldLink RX12 39 "SoldHouseModel" "one" "[I", Cond.methodLink RX12 394 yX12_otherOf, Cond.instanceMethod yX12_otherOf, Cond.selects RX12 yX12_otherOf yX12_otherOf, Cond.code yX12_otherOf cX12_otherOf 2 (some .int), Cond.fieldLink RX12 42 "SoldHouseModel" "other" "[I", Cond.methodLink RX12 397 yX12_has, Cond.static yX12_has, Cond.code yX12_has cX12_has 2 (some .boolean)]
def wsX12_way_r3 : List Cond := [Cond.methodLink RX12 400 yX12_behind, Cond.instanceMethod yX12_behind, Cond.selects RX12 yX12_behind yX12_behind, Cond.code yX12_behind cX12_behind 5 (some .int)]
def wsX12_way : List Cond := .code yX12_way cX12_way 3 (some .int) :: ((wsX12_way_r1 ++ (wsX12_way_r2 ++ wsX12_way_r3)) ++ wsX120)
def wsX12_quiet_r1 : List Cond := [Cond.fieldLink RX12 418 "SoldHouseModel" "laid" "I", Cond.fieldLink RX12 110 "SoldHouseModel" "weight" "[I", Cond.methodLink RX12 445 yX12_areRooms, Cond.instanceMethod yX12_areRooms, Cond.selects RX12 yX12_areRooms yX12_areRooms, Cond.initialized RX12, Cond.code yX12_areRooms cX12_areRooms 3 (some .boolean), Cond.methodLink RX12 385 yX12_isRoom, Cond.instanceMethod yX12_isRoom, Cond.selects RX12 yX12_isRoom yX12_isRoom, Cond.code yX12_isRoom cX12_isRoom 2 (some .boolean), Cond.methodLink RX12 378 yX12_places, Cond.instanceMethod yX12_places, Cond.selects RX12 yX12_places yX12_places, Cond.code yX12_places cX12_places 1 (some .int), Cond.fieldLink RX12 20 "SoldHouseModel" "rooms" "[I", Cond.fieldLink RX12 280 "SoldHouseModel" "bank" "I", Cond.methodLink RX12 381 yX12_isIn, Cond.static yX12_isIn, Cond.code yX12_isIn cX12_isIn 3 (some .boolean), Cond.methodLink RX12 430 yX12_creakOf, Cond.instanceMethod yX12_creakOf, Cond.selects RX12 yX12_creakOf yX12_creakOf, Cond.code yX12_creakOf cX12_creakOf 2 (some .int)]
def wsX12_quiet_r2 : List Cond := [Cond.fieldLink RX12 36 "SoldHouseModel" "creaks" "[I", Cond.methodLink RX12 466 yX12_showWay, Cond.instanceMethod yX12_showWay, Cond.selects RX12 yX12_showWay yX12_showWay, Cond.code yX12_showWay cX12_showWay 5 (some .int), Cond.fieldLink RX12 107 "SoldHouseModel" "toGoal" "[I", Cond.fieldLink RX12 113 "SoldHouseModel" "laidRow" "[I", Cond.methodLink RX12 460 yX12_layGoal, Cond.instanceMethod yX12_layGoal, Cond.selects RX12 yX12_layGoal yX12_layGoal, Cond.code yX12_layGoal cX12_layGoal 7 none, Cond.fieldLink RX12 24 "SoldHouseModel" "doors" "[I", Cond.methodLink RX12 391 yX12_oneOf, Cond.instanceMethod yX12_oneOf, Cond.selects RX12 yX12_oneOf yX12_oneOf, Cond.code yX12_oneOf cX12_oneOf 2 (some .int), Cond.fieldLink RX12 39 "SoldHouseModel" "one" "[I", Cond.methodLink RX12 394 yX12_otherOf, Cond.instanceMethod yX12_otherOf, Cond.selects RX12 yX12_otherOf yX12_otherOf, Cond.code yX12_otherOf cX12_otherOf 2 (some .int), Cond.fieldLink RX12 42 "SoldHouseModel" "other" "[I", Cond.methodLink RX12 397 yX12_has, Cond.static yX12_has]
def wsX12_quiet_r3 : List Cond := [Cond.code yX12_has cX12_has 2 (some .boolean), Cond.methodLink RX12 400 yX12_behind, Cond.instanceMethod yX12_behind, Cond.selects RX12 yX12_behind yX12_behind, Cond.code yX12_behind cX12_behind 5 (some .int)]
def wsX12_quiet : List Cond := .code yX12_quiet cX12_quiet 4 (some .int) :: ((wsX12_quiet_r1 ++ (wsX12_quiet_r2 ++ wsX12_quiet_r3)) ++ wsX120)
def wsX12_tour_r1 : List Cond := [Cond.fieldLink RX12 418 "SoldHouseModel" "laid" "I", Cond.fieldLink RX12 128 "SoldHouseModel" "tours" "[I", Cond.fieldLink RX12 113 "SoldHouseModel" "laidRow" "[I", Cond.methodLink RX12 385 yX12_isRoom, Cond.instanceMethod yX12_isRoom, Cond.selects RX12 yX12_isRoom yX12_isRoom, Cond.initialized RX12, Cond.code yX12_isRoom cX12_isRoom 2 (some .boolean), Cond.methodLink RX12 378 yX12_places, Cond.instanceMethod yX12_places, Cond.selects RX12 yX12_places yX12_places, Cond.code yX12_places cX12_places 1 (some .int), Cond.fieldLink RX12 20 "SoldHouseModel" "rooms" "[I", Cond.fieldLink RX12 280 "SoldHouseModel" "bank" "I", Cond.methodLink RX12 381 yX12_isIn, Cond.static yX12_isIn, Cond.code yX12_isIn cX12_isIn 3 (some .boolean), Cond.methodLink RX12 472 yX12_isSet, Cond.instanceMethod yX12_isSet, Cond.selects RX12 yX12_isSet yX12_isSet, Cond.code yX12_isSet cX12_isSet 2 (some .boolean), Cond.methodLink RX12 481 yX12_layTours, Cond.instanceMethod yX12_layTours, Cond.selects RX12 yX12_layTours yX12_layTours]
def wsX12_tour_r2 : List Cond := [Cond.code yX12_layTours cX12_layTours 6 none, Cond.methodLink RX12 397 yX12_has, Cond.static yX12_has, Cond.code yX12_has cX12_has 2 (some .boolean), Cond.methodLink RX12 421 yX12_farOf, Cond.instanceMethod yX12_farOf, Cond.selects RX12 yX12_farOf yX12_farOf, Cond.code yX12_farOf cX12_farOf 3 (some .int), Cond.fieldLink RX12 98 "SoldHouseModel" "table" "[I", Cond.methodLink RX12 424 yX12_lesser, Cond.static yX12_lesser, Cond.code yX12_lesser cX12_lesser 2 (some .int)]
def wsX12_tour : List Cond := .code yX12_tour cX12_tour 7 (some .int) :: ((wsX12_tour_r1 ++ wsX12_tour_r2) ++ wsX120)
def wsX12_later : List Cond := .code yX12_later cX12_later 2 (some .int) :: ([.fieldLink RX12 505 "SoldHouseModel" "time" "I", .constant RX12 512 (100000), .methodLink RX12 381 yX12_isIn, .static yX12_isIn, .initialized RX12, .code yX12_isIn cX12_isIn 3 (some .boolean)] ++ wsX120)
def wsX12_told : List Cond := .code yX12_told cX12_told 5 (some .int) :: ([.fieldLink RX12 415 "SoldHouseModel" "heards" "I", .fieldLink RX12 137 "SoldHouseModel" "hMinute" "[I", .fieldLink RX12 140 "SoldHouseModel" "hCreaks" "[I", .fieldLink RX12 143 "SoldHouseModel" "hRoom" "[I", .fieldLink RX12 146 "SoldHouseModel" "hIs" "[I", .fieldLink RX12 149 "SoldHouseModel" "hTold" "[I", .fieldLink RX12 505 "SoldHouseModel" "time" "I", .fieldLink RX12 152 "SoldHouseModel" "hUntold" "[I", .methodLink RX12 381 yX12_isIn, .static yX12_isIn, .initialized RX12, .code yX12_isIn cX12_isIn 3 (some .boolean)] ++ wsX120)
def wsX12_heard : List Cond := .code yX12_heard cX12_heard 4 (some .int) :: ([.methodLink RX12 381 yX12_isIn, .static yX12_isIn, .initialized RX12, .code yX12_isIn cX12_isIn 3 (some .boolean), .methodLink RX12 508 yX12_told, .instanceMethod yX12_told, .selects RX12 yX12_told yX12_told, .code yX12_told cX12_told 5 (some .int), .fieldLink RX12 415 "SoldHouseModel" "heards" "I", .fieldLink RX12 137 "SoldHouseModel" "hMinute" "[I", .fieldLink RX12 140 "SoldHouseModel" "hCreaks" "[I", .fieldLink RX12 143 "SoldHouseModel" "hRoom" "[I", .fieldLink RX12 146 "SoldHouseModel" "hIs" "[I", .fieldLink RX12 149 "SoldHouseModel" "hTold" "[I", .fieldLink RX12 505 "SoldHouseModel" "time" "I", .fieldLink RX12 152 "SoldHouseModel" "hUntold" "[I"] ++ wsX120)
def wsX12_trades : List Cond := .code yX12_trades cX12_trades 5 (some .int) :: ([.fieldLink RX12 131 "SoldHouseModel" "taken" "[I", .methodLink RX12 388 yX12_many, .instanceMethod yX12_many, .selects RX12 yX12_many yX12_many, .initialized RX12, .code yX12_many cX12_many 1 (some .int), .fieldLink RX12 27 "SoldHouseModel" "things" "[I", .fieldLink RX12 280 "SoldHouseModel" "bank" "I", .methodLink RX12 397 yX12_has, .static yX12_has, .code yX12_has cX12_has 2 (some .boolean), .methodLink RX12 490 yX12_gainOf, .instanceMethod yX12_gainOf, .selects RX12 yX12_gainOf yX12_gainOf, .code yX12_gainOf cX12_gainOf 5 (some .int), .fieldLink RX12 95 "SoldHouseModel" "all" "[I", .methodLink RX12 487 yX12_worthOf, .instanceMethod yX12_worthOf, .selects RX12 yX12_worthOf yX12_worthOf, .code yX12_worthOf cX12_worthOf 3 (some .int), .fieldLink RX12 54 "SoldHouseModel" "toUs" "[I", .fieldLink RX12 57 "SoldHouseModel" "toThem" "[I"] ++ wsX120)
def wsX12_keepAct : List Cond := .code yX12_keepAct cX12_keepAct 2 none :: ([.fieldLink RX12 409 "SoldHouseModel" "acts" "I", .fieldLink RX12 104 "SoldHouseModel" "was" "[I", .fieldLink RX12 95 "SoldHouseModel" "all" "[I", .fieldLink RX12 412 "SoldHouseModel" "undone" "I"] ++ wsX120)
def wsX12_goDay_r1 : List Cond := [Cond.fieldLink RX12 95 "SoldHouseModel" "all" "[I", Cond.methodLink RX12 388 yX12_many, Cond.instanceMethod yX12_many, Cond.selects RX12 yX12_many yX12_many, Cond.initialized RX12, Cond.code yX12_many cX12_many 1 (some .int), Cond.fieldLink RX12 27 "SoldHouseModel" "things" "[I", Cond.fieldLink RX12 280 "SoldHouseModel" "bank" "I", Cond.methodLink RX12 439 yX12_sureOf, Cond.instanceMethod yX12_sureOf, Cond.selects RX12 yX12_sureOf yX12_sureOf, Cond.code yX12_sureOf cX12_sureOf 3 (some .int), Cond.fieldLink RX12 66 "SoldHouseModel" "hasSure" "[Z", Cond.fieldLink RX12 365 "SoldHouseModel" "askThing" "I", Cond.methodLink RX12 427 yX12_comes, Cond.instanceMethod yX12_comes, Cond.selects RX12 yX12_comes yX12_comes, Cond.code yX12_comes cX12_comes 4 (some .int), Cond.fieldLink RX12 60 "SoldHouseModel" "ruleFrom" "[I", Cond.fieldLink RX12 63 "SoldHouseModel" "ruleTo" "[I", Cond.fieldLink RX12 80 "SoldHouseModel" "code" "[I", Cond.fieldLink RX12 92 "SoldHouseModel" "pile" "[I", Cond.fieldLink RX12 83 "SoldHouseModel" "codeNumber" "[I", Cond.methodLink RX12 226 yX12_isLetter]
def wsX12_goDay_r2 : List Cond := [Cond.static yX12_isLetter, Cond.code yX12_isLetter cX12_isLetter 1 (some .boolean), Cond.methodLink RX12 371 yX12_asked, Cond.instanceMethod yX12_asked, Cond.selects RX12 yX12_asked yX12_asked, Cond.code yX12_asked cX12_asked 3 (some .int), Cond.fieldLink RX12 54 "SoldHouseModel" "toUs" "[I", Cond.fieldLink RX12 57 "SoldHouseModel" "toThem" "[I", Cond.methodLink RX12 368 yX12_offOf, Cond.instanceMethod yX12_offOf, Cond.selects RX12 yX12_offOf yX12_offOf, Cond.code yX12_offOf cX12_offOf 2 (some .int), Cond.methodLink RX12 421 yX12_farOf, Cond.instanceMethod yX12_farOf, Cond.selects RX12 yX12_farOf yX12_farOf, Cond.code yX12_farOf cX12_farOf 3 (some .int), Cond.fieldLink RX12 98 "SoldHouseModel" "table" "[I", Cond.methodLink RX12 424 yX12_lesser, Cond.static yX12_lesser, Cond.code yX12_lesser cX12_lesser 2 (some .int), Cond.methodLink RX12 374 yX12_two, Cond.static yX12_two, Cond.code yX12_two cX12_two 3 (some .int), Cond.methodLink RX12 378 yX12_places]
def wsX12_goDay_r3 : List Cond := [Cond.instanceMethod yX12_places, Cond.selects RX12 yX12_places yX12_places, Cond.code yX12_places cX12_places 1 (some .int), Cond.fieldLink RX12 20 "SoldHouseModel" "rooms" "[I"]
def wsX12_goDay : List Cond := .code yX12_goDay cX12_goDay 3 (some .int) :: ((wsX12_goDay_r1 ++ (wsX12_goDay_r2 ++ wsX12_goDay_r3)) ++ wsX120)
def wsX12_day_r1 : List Cond := [Cond.fieldLink RX12 95 "SoldHouseModel" "all" "[I", Cond.methodLink RX12 448 yX12_keepAct, Cond.instanceMethod yX12_keepAct, Cond.selects RX12 yX12_keepAct yX12_keepAct, Cond.initialized RX12, Cond.code yX12_keepAct cX12_keepAct 2 none, Cond.fieldLink RX12 409 "SoldHouseModel" "acts" "I", Cond.fieldLink RX12 104 "SoldHouseModel" "was" "[I", Cond.fieldLink RX12 412 "SoldHouseModel" "undone" "I", Cond.methodLink RX12 454 yX12_goDay, Cond.instanceMethod yX12_goDay, Cond.selects RX12 yX12_goDay yX12_goDay, Cond.code yX12_goDay cX12_goDay 3 (some .int), Cond.methodLink RX12 388 yX12_many, Cond.instanceMethod yX12_many, Cond.selects RX12 yX12_many yX12_many, Cond.code yX12_many cX12_many 1 (some .int), Cond.fieldLink RX12 27 "SoldHouseModel" "things" "[I", Cond.fieldLink RX12 280 "SoldHouseModel" "bank" "I", Cond.methodLink RX12 439 yX12_sureOf, Cond.instanceMethod yX12_sureOf, Cond.selects RX12 yX12_sureOf yX12_sureOf, Cond.code yX12_sureOf cX12_sureOf 3 (some .int), Cond.fieldLink RX12 66 "SoldHouseModel" "hasSure" "[Z"]
def wsX12_day_r2 : List Cond := [Cond.fieldLink RX12 365 "SoldHouseModel" "askThing" "I", Cond.methodLink RX12 427 yX12_comes, Cond.instanceMethod yX12_comes, Cond.selects RX12 yX12_comes yX12_comes, Cond.code yX12_comes cX12_comes 4 (some .int), Cond.fieldLink RX12 60 "SoldHouseModel" "ruleFrom" "[I", Cond.fieldLink RX12 63 "SoldHouseModel" "ruleTo" "[I", Cond.fieldLink RX12 80 "SoldHouseModel" "code" "[I", Cond.fieldLink RX12 92 "SoldHouseModel" "pile" "[I", Cond.fieldLink RX12 83 "SoldHouseModel" "codeNumber" "[I", Cond.methodLink RX12 226 yX12_isLetter, Cond.static yX12_isLetter, Cond.code yX12_isLetter cX12_isLetter 1 (some .boolean), Cond.methodLink RX12 371 yX12_asked, Cond.instanceMethod yX12_asked, Cond.selects RX12 yX12_asked yX12_asked, Cond.code yX12_asked cX12_asked 3 (some .int), Cond.fieldLink RX12 54 "SoldHouseModel" "toUs" "[I", Cond.fieldLink RX12 57 "SoldHouseModel" "toThem" "[I", Cond.methodLink RX12 368 yX12_offOf, Cond.instanceMethod yX12_offOf, Cond.selects RX12 yX12_offOf yX12_offOf, Cond.code yX12_offOf cX12_offOf 2 (some .int), Cond.methodLink RX12 421 yX12_farOf]
def wsX12_day_r3 : List Cond := [Cond.instanceMethod yX12_farOf, Cond.selects RX12 yX12_farOf yX12_farOf, Cond.code yX12_farOf cX12_farOf 3 (some .int), Cond.fieldLink RX12 98 "SoldHouseModel" "table" "[I", Cond.methodLink RX12 424 yX12_lesser, Cond.static yX12_lesser, Cond.code yX12_lesser cX12_lesser 2 (some .int), Cond.methodLink RX12 374 yX12_two, Cond.static yX12_two, Cond.code yX12_two cX12_two 3 (some .int), Cond.methodLink RX12 378 yX12_places, Cond.instanceMethod yX12_places, Cond.selects RX12 yX12_places yX12_places, Cond.code yX12_places cX12_places 1 (some .int), Cond.fieldLink RX12 20 "SoldHouseModel" "rooms" "[I"]
def wsX12_day : List Cond := .code yX12_day cX12_day 1 (some .int) :: ((wsX12_day_r1 ++ (wsX12_day_r2 ++ wsX12_day_r3)) ++ wsX120)
def wsX12_image : List Cond := .code yX12_image cX12_image 3 (some .int) :: ([.fieldLink RX12 161 "SoldHouseModel" "boxAll" "[I", .fieldLink RX12 95 "SoldHouseModel" "all" "[I", .fieldLink RX12 164 "SoldHouseModel" "isBoxed" "[Z", .methodLink RX12 381 yX12_isIn, .static yX12_isIn, .initialized RX12, .code yX12_isIn cX12_isIn 3 (some .boolean)] ++ wsX120)
def wsX12_clearBank : List Cond := .code yX12_clearBank cX12_clearBank 1 none :: ([.fieldLink RX12 20 "SoldHouseModel" "rooms" "[I", .fieldLink RX12 271 "SoldHouseModel" "rb" "I", .fieldLink RX12 24 "SoldHouseModel" "doors" "[I", .fieldLink RX12 27 "SoldHouseModel" "things" "[I", .fieldLink RX12 30 "SoldHouseModel" "units" "[I", .fieldLink RX12 33 "SoldHouseModel" "draw" "[I", .fieldLink RX12 66 "SoldHouseModel" "hasSure" "[Z", .fieldLink RX12 70 "SoldHouseModel" "isDraw" "[Z", .fieldLink RX12 274 "SoldHouseModel" "codes" "I"] ++ wsX120)
def wsX12_layTable_r1 : List Cond := [Cond.fieldLink RX12 98 "SoldHouseModel" "table" "[I", Cond.fieldLink RX12 24 "SoldHouseModel" "doors" "[I", Cond.fieldLink RX12 280 "SoldHouseModel" "bank" "I", Cond.fieldLink RX12 101 "SoldHouseModel" "nearSide" "[I", Cond.methodLink RX12 378 yX12_places, Cond.instanceMethod yX12_places, Cond.selects RX12 yX12_places yX12_places, Cond.initialized RX12, Cond.code yX12_places cX12_places 1 (some .int), Cond.fieldLink RX12 20 "SoldHouseModel" "rooms" "[I", Cond.methodLink RX12 397 yX12_has, Cond.static yX12_has, Cond.code yX12_has cX12_has 2 (some .boolean), Cond.methodLink RX12 400 yX12_behind, Cond.instanceMethod yX12_behind, Cond.selects RX12 yX12_behind yX12_behind, Cond.code yX12_behind cX12_behind 5 (some .int), Cond.methodLink RX12 391 yX12_oneOf, Cond.instanceMethod yX12_oneOf, Cond.selects RX12 yX12_oneOf yX12_oneOf, Cond.code yX12_oneOf cX12_oneOf 2 (some .int), Cond.fieldLink RX12 39 "SoldHouseModel" "one" "[I", Cond.methodLink RX12 394 yX12_otherOf, Cond.instanceMethod yX12_otherOf]
def wsX12_layTable_r2 : List Cond := [Cond.selects RX12 yX12_otherOf yX12_otherOf, Cond.code yX12_otherOf cX12_otherOf 2 (some .int), Cond.fieldLink RX12 42 "SoldHouseModel" "other" "[I", Cond.methodLink RX12 403 yX12_joined, Cond.instanceMethod yX12_joined, Cond.selects RX12 yX12_joined yX12_joined, Cond.code yX12_joined cX12_joined 7 (some .int)]
def wsX12_layTable : List Cond := .code yX12_layTable cX12_layTable 7 none :: ((wsX12_layTable_r1 ++ wsX12_layTable_r2) ++ wsX120)
def wsX12_startAnew_r1 : List Cond := [Cond.fieldLink RX12 95 "SoldHouseModel" "all" "[I", Cond.fieldLink RX12 45 "SoldHouseModel" "inTold" "[I", Cond.fieldLink RX12 280 "SoldHouseModel" "bank" "I", Cond.fieldLink RX12 48 "SoldHouseModel" "wasTold" "[I", Cond.fieldLink RX12 51 "SoldHouseModel" "isOurs" "[I", Cond.fieldLink RX12 33 "SoldHouseModel" "draw" "[I", Cond.fieldLink RX12 409 "SoldHouseModel" "acts" "I", Cond.fieldLink RX12 412 "SoldHouseModel" "undone" "I", Cond.fieldLink RX12 415 "SoldHouseModel" "heards" "I", Cond.fieldLink RX12 418 "SoldHouseModel" "laid" "I", Cond.fieldLink RX12 164 "SoldHouseModel" "isBoxed" "[Z", Cond.methodLink RX12 388 yX12_many, Cond.instanceMethod yX12_many, Cond.selects RX12 yX12_many yX12_many, Cond.initialized RX12, Cond.code yX12_many cX12_many 1 (some .int), Cond.fieldLink RX12 27 "SoldHouseModel" "things" "[I", Cond.methodLink RX12 406 yX12_layTable, Cond.instanceMethod yX12_layTable, Cond.selects RX12 yX12_layTable yX12_layTable, Cond.code yX12_layTable cX12_layTable 7 none, Cond.fieldLink RX12 98 "SoldHouseModel" "table" "[I", Cond.fieldLink RX12 24 "SoldHouseModel" "doors" "[I", Cond.fieldLink RX12 101 "SoldHouseModel" "nearSide" "[I"]
def wsX12_startAnew_r2 : List Cond := [Cond.methodLink RX12 378 yX12_places, Cond.instanceMethod yX12_places, Cond.selects RX12 yX12_places yX12_places, Cond.code yX12_places cX12_places 1 (some .int), Cond.fieldLink RX12 20 "SoldHouseModel" "rooms" "[I", Cond.methodLink RX12 397 yX12_has, Cond.static yX12_has, Cond.code yX12_has cX12_has 2 (some .boolean), Cond.methodLink RX12 400 yX12_behind, Cond.instanceMethod yX12_behind, Cond.selects RX12 yX12_behind yX12_behind, Cond.code yX12_behind cX12_behind 5 (some .int), Cond.methodLink RX12 391 yX12_oneOf, Cond.instanceMethod yX12_oneOf, Cond.selects RX12 yX12_oneOf yX12_oneOf, Cond.code yX12_oneOf cX12_oneOf 2 (some .int), Cond.fieldLink RX12 39 "SoldHouseModel" "one" "[I", Cond.methodLink RX12 394 yX12_otherOf, Cond.instanceMethod yX12_otherOf, Cond.selects RX12 yX12_otherOf yX12_otherOf, Cond.code yX12_otherOf cX12_otherOf 2 (some .int), Cond.fieldLink RX12 42 "SoldHouseModel" "other" "[I", Cond.methodLink RX12 403 yX12_joined, Cond.instanceMethod yX12_joined]
def wsX12_startAnew_r3 : List Cond := [Cond.selects RX12 yX12_joined yX12_joined, Cond.code yX12_joined cX12_joined 7 (some .int)]
def wsX12_startAnew : List Cond := .code yX12_startAnew cX12_startAnew 2 none :: ((wsX12_startAnew_r1 ++ (wsX12_startAnew_r2 ++ wsX12_startAnew_r3)) ++ wsX120)
def wsX12_sign : List Cond := .code yX12_sign cX12_sign 2 (some .int) :: ([.fieldLink RX12 173 "SoldHouseModel" "size" "I", .fieldLink RX12 13 "SoldHouseModel" "text" "[B"] ++ wsX120)
def wsX12_isGood : List Cond := .code yX12_isGood cX12_isGood 1 (some .boolean) :: ([.fieldLink RX12 176 "SoldHouseModel" "faultKind" "I"] ++ wsX120)
def wsX12_goOn_r1 : List Cond := [Cond.fieldLink RX12 213 "SoldHouseModel" "end" "I", Cond.fieldLink RX12 216 "SoldHouseModel" "at" "I", Cond.fieldLink RX12 173 "SoldHouseModel" "size" "I", Cond.fieldLink RX12 223 "SoldHouseModel" "token" "I", Cond.fieldLink RX12 230 "SoldHouseModel" "name" "J", Cond.fieldLink RX12 241 "SoldHouseModel" "number" "I", Cond.methodLink RX12 219 yX12_sign, Cond.instanceMethod yX12_sign, Cond.selects RX12 yX12_sign yX12_sign, Cond.initialized RX12, Cond.code yX12_sign cX12_sign 2 (some .int), Cond.fieldLink RX12 13 "SoldHouseModel" "text" "[B", Cond.methodLink RX12 226 yX12_isLetter, Cond.static yX12_isLetter, Cond.code yX12_isLetter cX12_isLetter 1 (some .boolean), Cond.methodLink RX12 234 yX12_isKept, Cond.static yX12_isKept, Cond.code yX12_isKept cX12_isKept 3 (some .boolean), Cond.constantLong RX12 179 (1919905645), Cond.constantLong RX12 181 (109342978304883), Cond.constantLong RX12 183 (1685024626), Cond.constantLong RX12 185 (499967946343), Cond.constantLong RX12 187 (26990), Cond.constantLong RX12 189 (7823731)]
def wsX12_goOn_r2 : List Cond := [Cond.constantLong RX12 191 (1869967987), Cond.constantLong RX12 193 (30067), Cond.constantLong RX12 195 (1952998765), Cond.constantLong RX12 197 (1937076837), Cond.constantLong RX12 199 (1685217655), Cond.constantLong RX12 201 (6709618), Cond.constantLong RX12 203 (1953459300), Cond.constantLong RX12 205 (6578553), Cond.constantLong RX12 207 (28530), Cond.constantLong RX12 209 (6385252), Cond.constantLong RX12 211 (7237492), Cond.methodLink RX12 238 yX12_isDigit, Cond.static yX12_isDigit, Cond.code yX12_isDigit cX12_isDigit 1 (some .boolean), Cond.methodLink RX12 244 yX12_isSign, Cond.static yX12_isSign, Cond.code yX12_isSign cX12_isSign 1 (some .boolean)]
def wsX12_goOn : List Cond := .code yX12_goOn cX12_goOn 3 none :: ((wsX12_goOn_r1 ++ wsX12_goOn_r2) ++ wsX120)
def wsX12_house_r1 : List Cond := [Cond.fieldLink RX12 176 "SoldHouseModel" "faultKind" "I", Cond.fieldLink RX12 16 "SoldHouseModel" "faultPlace" "I", Cond.fieldLink RX12 277 "SoldHouseModel" "taped" "I", Cond.fieldLink RX12 173 "SoldHouseModel" "size" "I", Cond.fieldLink RX12 13 "SoldHouseModel" "text" "[B", Cond.fieldLink RX12 7 "SoldHouseModel" "tape" "[B", Cond.fieldLink RX12 213 "SoldHouseModel" "end" "I", Cond.fieldLink RX12 280 "SoldHouseModel" "bank" "I", Cond.fieldLink RX12 271 "SoldHouseModel" "rb" "I", Cond.fieldLink RX12 223 "SoldHouseModel" "token" "I", Cond.fieldLink RX12 20 "SoldHouseModel" "rooms" "[I", Cond.methodLink RX12 167 yX12_clearBank, Cond.instanceMethod yX12_clearBank, Cond.selects RX12 yX12_clearBank yX12_clearBank, Cond.initialized RX12, Cond.code yX12_clearBank cX12_clearBank 1 none, Cond.fieldLink RX12 24 "SoldHouseModel" "doors" "[I", Cond.fieldLink RX12 27 "SoldHouseModel" "things" "[I", Cond.fieldLink RX12 30 "SoldHouseModel" "units" "[I", Cond.fieldLink RX12 33 "SoldHouseModel" "draw" "[I", Cond.fieldLink RX12 66 "SoldHouseModel" "hasSure" "[Z", Cond.fieldLink RX12 70 "SoldHouseModel" "isDraw" "[Z", Cond.fieldLink RX12 274 "SoldHouseModel" "codes" "I", Cond.methodLink RX12 255 yX12_goOn]
def wsX12_house_r2 : List Cond := [Cond.instanceMethod yX12_goOn, Cond.selects RX12 yX12_goOn yX12_goOn, Cond.code yX12_goOn cX12_goOn 3 none, Cond.fieldLink RX12 216 "SoldHouseModel" "at" "I", Cond.fieldLink RX12 230 "SoldHouseModel" "name" "J", Cond.fieldLink RX12 241 "SoldHouseModel" "number" "I", Cond.methodLink RX12 219 yX12_sign, Cond.instanceMethod yX12_sign, Cond.selects RX12 yX12_sign yX12_sign, Cond.code yX12_sign cX12_sign 2 (some .int), Cond.methodLink RX12 226 yX12_isLetter, Cond.static yX12_isLetter, Cond.code yX12_isLetter cX12_isLetter 1 (some .boolean), Cond.methodLink RX12 234 yX12_isKept, Cond.static yX12_isKept, Cond.code yX12_isKept cX12_isKept 3 (some .boolean), Cond.constantLong RX12 179 (1919905645), Cond.constantLong RX12 181 (109342978304883), Cond.constantLong RX12 183 (1685024626), Cond.constantLong RX12 185 (499967946343), Cond.constantLong RX12 187 (26990), Cond.constantLong RX12 189 (7823731), Cond.constantLong RX12 191 (1869967987), Cond.constantLong RX12 193 (30067)]
def wsX12_house_r3 : List Cond := [Cond.constantLong RX12 195 (1952998765), Cond.constantLong RX12 197 (1937076837), Cond.constantLong RX12 199 (1685217655), Cond.constantLong RX12 201 (6709618), Cond.constantLong RX12 203 (1953459300), Cond.constantLong RX12 205 (6578553), Cond.constantLong RX12 207 (28530), Cond.constantLong RX12 209 (6385252), Cond.constantLong RX12 211 (7237492), Cond.methodLink RX12 238 yX12_isDigit, Cond.static yX12_isDigit, Cond.code yX12_isDigit cX12_isDigit 1 (some .boolean), Cond.methodLink RX12 244 yX12_isSign, Cond.static yX12_isSign, Cond.code yX12_isSign cX12_isSign 1 (some .boolean), Cond.methodLink RX12 251 yX12_isGood, Cond.instanceMethod yX12_isGood, Cond.selects RX12 yX12_isGood yX12_isGood, Cond.code yX12_isGood cX12_isGood 1 (some .boolean), Cond.methodLink RX12 283 yX12_readLine, Cond.instanceMethod yX12_readLine, Cond.selects RX12 yX12_readLine yX12_readLine, Cond.code yX12_readLine cX12_readLine 3 none, Cond.methodLink RX12 286 yX12_isFull]
def wsX12_house_r4 : List Cond := [Cond.instanceMethod yX12_isFull, Cond.selects RX12 yX12_isFull yX12_isFull, Cond.code yX12_isFull cX12_isFull 1 (some .boolean), Cond.methodLink RX12 261 yX12_isWord, Cond.instanceMethod yX12_isWord, Cond.selects RX12 yX12_isWord yX12_isWord, Cond.code yX12_isWord cX12_isWord 3 (some .boolean), Cond.methodLink RX12 258 yX12_misplaced, Cond.instanceMethod yX12_misplaced, Cond.selects RX12 yX12_misplaced yX12_misplaced, Cond.code yX12_misplaced cX12_misplaced 1 none, Cond.methodLink RX12 247 yX12_fails, Cond.instanceMethod yX12_fails, Cond.selects RX12 yX12_fails yX12_fails, Cond.code yX12_fails cX12_fails 3 none, Cond.methodLink RX12 289 yX12_readRoom, Cond.instanceMethod yX12_readRoom, Cond.selects RX12 yX12_readRoom yX12_readRoom, Cond.code yX12_readRoom cX12_readRoom 2 none, Cond.fieldLink RX12 73 "SoldHouseModel" "rName" "[J", Cond.fieldLink RX12 36 "SoldHouseModel" "creaks" "[I", Cond.methodLink RX12 313 yX12_roomHere, Cond.instanceMethod yX12_roomHere, Cond.selects RX12 yX12_roomHere yX12_roomHere]
def wsX12_house_r5 : List Cond := [Cond.code yX12_roomHere cX12_roomHere 1 (some .int), Cond.methodLink RX12 309 yX12_here, Cond.instanceMethod yX12_here, Cond.selects RX12 yX12_here yX12_here, Cond.code yX12_here cX12_here 5 (some .int), Cond.methodLink RX12 317 yX12_fresh, Cond.instanceMethod yX12_fresh, Cond.selects RX12 yX12_fresh yX12_fresh, Cond.code yX12_fresh cX12_fresh 4 (some .long), Cond.methodLink RX12 321 yX12_perhaps, Cond.instanceMethod yX12_perhaps, Cond.selects RX12 yX12_perhaps yX12_perhaps, Cond.code yX12_perhaps cX12_perhaps 4 (some .int), Cond.methodLink RX12 264 yX12_passes, Cond.instanceMethod yX12_passes, Cond.selects RX12 yX12_passes yX12_passes, Cond.code yX12_passes cX12_passes 4 (some .boolean), Cond.methodLink RX12 267 yX12_numeral, Cond.instanceMethod yX12_numeral, Cond.selects RX12 yX12_numeral yX12_numeral, Cond.code yX12_numeral cX12_numeral 4 (some .int), Cond.methodLink RX12 292 yX12_readDoor, Cond.instanceMethod yX12_readDoor, Cond.selects RX12 yX12_readDoor yX12_readDoor]
def wsX12_house_r6 : List Cond := [Cond.code yX12_readDoor cX12_readDoor 3 none, Cond.fieldLink RX12 39 "SoldHouseModel" "one" "[I", Cond.fieldLink RX12 42 "SoldHouseModel" "other" "[I", Cond.methodLink RX12 325 yX12_known, Cond.instanceMethod yX12_known, Cond.selects RX12 yX12_known yX12_known, Cond.code yX12_known cX12_known 2 (some .int), Cond.methodLink RX12 328 yX12_isDoor, Cond.instanceMethod yX12_isDoor, Cond.selects RX12 yX12_isDoor yX12_isDoor, Cond.code yX12_isDoor cX12_isDoor 5 (some .boolean), Cond.methodLink RX12 295 yX12_readThing, Cond.instanceMethod yX12_readThing, Cond.selects RX12 yX12_readThing yX12_readThing, Cond.code yX12_readThing cX12_readThing 2 none, Cond.fieldLink RX12 77 "SoldHouseModel" "tName" "[J", Cond.fieldLink RX12 45 "SoldHouseModel" "inTold" "[I", Cond.fieldLink RX12 48 "SoldHouseModel" "wasTold" "[I", Cond.fieldLink RX12 51 "SoldHouseModel" "isOurs" "[I", Cond.fieldLink RX12 54 "SoldHouseModel" "toUs" "[I", Cond.fieldLink RX12 57 "SoldHouseModel" "toThem" "[I", Cond.methodLink RX12 305 yX12_must, Cond.instanceMethod yX12_must, Cond.selects RX12 yX12_must yX12_must]
def wsX12_house_r7 : List Cond := [Cond.code yX12_must cX12_must 2 none, Cond.methodLink RX12 298 yX12_readRule, Cond.instanceMethod yX12_readRule, Cond.selects RX12 yX12_readRule yX12_readRule, Cond.code yX12_readRule cX12_readRule 2 none, Cond.fieldLink RX12 332 "SoldHouseModel" "unitsInRule" "I", Cond.fieldLink RX12 60 "SoldHouseModel" "ruleFrom" "[I", Cond.fieldLink RX12 63 "SoldHouseModel" "ruleTo" "[I", Cond.methodLink RX12 335 yX12_e, Cond.instanceMethod yX12_e, Cond.selects RX12 yX12_e yX12_e, Cond.code yX12_e cX12_e 2 none, Cond.fieldLink RX12 338 "SoldHouseModel" "piled" "I", Cond.fieldLink RX12 341 "SoldHouseModel" "within" "I", Cond.methodLink RX12 344 yX12_pushE, Cond.instanceMethod yX12_pushE, Cond.selects RX12 yX12_pushE yX12_pushE, Cond.code yX12_pushE cX12_pushE 3 none, Cond.fieldLink RX12 86 "SoldHouseModel" "eWhat" "[I", Cond.fieldLink RX12 89 "SoldHouseModel" "eSign" "[I", Cond.methodLink RX12 347 yX12_unit, Cond.instanceMethod yX12_unit, Cond.selects RX12 yX12_unit yX12_unit, Cond.code yX12_unit cX12_unit 7 (some .boolean)]
def wsX12_house_r8 : List Cond := [Cond.methodLink RX12 302 yX12_isSignHere, Cond.instanceMethod yX12_isSignHere, Cond.selects RX12 yX12_isSignHere yX12_isSignHere, Cond.code yX12_isSignHere cX12_isSignHere 2 (some .boolean), Cond.methodLink RX12 353 yX12_wordHere, Cond.instanceMethod yX12_wordHere, Cond.selects RX12 yX12_wordHere yX12_wordHere, Cond.code yX12_wordHere cX12_wordHere 1 (some .int), Cond.methodLink RX12 356 yX12_emit, Cond.instanceMethod yX12_emit, Cond.selects RX12 yX12_emit yX12_emit, Cond.code yX12_emit cX12_emit 3 none, Cond.fieldLink RX12 80 "SoldHouseModel" "code" "[I", Cond.fieldLink RX12 83 "SoldHouseModel" "codeNumber" "[I", Cond.methodLink RX12 350 yX12_behindUnit, Cond.instanceMethod yX12_behindUnit, Cond.selects RX12 yX12_behindUnit yX12_behindUnit, Cond.code yX12_behindUnit cX12_behindUnit 2 (some .boolean), Cond.methodLink RX12 359 yX12_rankHere, Cond.instanceMethod yX12_rankHere, Cond.selects RX12 yX12_rankHere yX12_rankHere, Cond.code yX12_rankHere cX12_rankHere 1 (some .int), Cond.methodLink RX12 362 yX12_isCompared, Cond.instanceMethod yX12_isCompared]
def wsX12_house_r9 : List Cond := [Cond.selects RX12 yX12_isCompared yX12_isCompared, Cond.code yX12_isCompared cX12_isCompared 2 (some .boolean), Cond.methodLink RX12 170 yX12_startAnew, Cond.instanceMethod yX12_startAnew, Cond.selects RX12 yX12_startAnew yX12_startAnew, Cond.code yX12_startAnew cX12_startAnew 2 none, Cond.fieldLink RX12 95 "SoldHouseModel" "all" "[I", Cond.fieldLink RX12 409 "SoldHouseModel" "acts" "I", Cond.fieldLink RX12 412 "SoldHouseModel" "undone" "I", Cond.fieldLink RX12 415 "SoldHouseModel" "heards" "I", Cond.fieldLink RX12 418 "SoldHouseModel" "laid" "I", Cond.fieldLink RX12 164 "SoldHouseModel" "isBoxed" "[Z", Cond.methodLink RX12 388 yX12_many, Cond.instanceMethod yX12_many, Cond.selects RX12 yX12_many yX12_many, Cond.code yX12_many cX12_many 1 (some .int), Cond.methodLink RX12 406 yX12_layTable, Cond.instanceMethod yX12_layTable, Cond.selects RX12 yX12_layTable yX12_layTable, Cond.code yX12_layTable cX12_layTable 7 none, Cond.fieldLink RX12 98 "SoldHouseModel" "table" "[I", Cond.fieldLink RX12 101 "SoldHouseModel" "nearSide" "[I", Cond.methodLink RX12 378 yX12_places, Cond.instanceMethod yX12_places]
def wsX12_house_r10 : List Cond := [Cond.selects RX12 yX12_places yX12_places, Cond.code yX12_places cX12_places 1 (some .int), Cond.methodLink RX12 397 yX12_has, Cond.static yX12_has, Cond.code yX12_has cX12_has 2 (some .boolean), Cond.methodLink RX12 400 yX12_behind, Cond.instanceMethod yX12_behind, Cond.selects RX12 yX12_behind yX12_behind, Cond.code yX12_behind cX12_behind 5 (some .int), Cond.methodLink RX12 391 yX12_oneOf, Cond.instanceMethod yX12_oneOf, Cond.selects RX12 yX12_oneOf yX12_oneOf, Cond.code yX12_oneOf cX12_oneOf 2 (some .int), Cond.methodLink RX12 394 yX12_otherOf, Cond.instanceMethod yX12_otherOf, Cond.selects RX12 yX12_otherOf yX12_otherOf, Cond.code yX12_otherOf cX12_otherOf 2 (some .int), Cond.methodLink RX12 403 yX12_joined, Cond.instanceMethod yX12_joined, Cond.selects RX12 yX12_joined yX12_joined, Cond.code yX12_joined cX12_joined 7 (some .int)]
def wsX12_house : List Cond := .code yX12_house cX12_house 2 (some .int) :: ((wsX12_house_r1 ++ (wsX12_house_r2 ++ (wsX12_house_r3 ++ (wsX12_house_r4 ++ (wsX12_house_r5 ++ (wsX12_house_r6 ++ (wsX12_house_r7 ++ (wsX12_house_r8 ++ (wsX12_house_r9 ++ wsX12_house_r10))))))))) ++ wsX120)
theorem dX12_feed_0 : decode cX12_feed 0 = .ok (.aload_n 0, 1) := by decide +kernel
theorem dX12_feed_1 : decode cX12_feed 1 = .ok (.getfield 277, 3) := by decide +kernel
theorem dX12_feed_4 : decode cX12_feed 4 = .ok (.bipush 20, 2) := by decide +kernel
theorem dX12_feed_6 : decode cX12_feed 6 = .ok (.iadd, 1) := by decide +kernel
theorem dX12_feed_7 : decode cX12_feed 7 = .ok (.sipush 1600, 3) := by decide +kernel
theorem dX12_feed_10 : decode cX12_feed 10 = .ok (.if_icmp .le 5, 3) := by decide +kernel
theorem dX12_feed_15 : decode cX12_feed 15 = .ok (.iconst 0, 1) := by decide +kernel
theorem dX12_feed_16 : decode cX12_feed 16 = .ok (.istore 6, 2) := by decide +kernel
theorem dX12_feed_18 : decode cX12_feed 18 = .ok (.iload 6, 2) := by decide +kernel
theorem dX12_feed_20 : decode cX12_feed 20 = .ok (.bipush 20, 2) := by decide +kernel
theorem dX12_feed_22 : decode cX12_feed 22 = .ok (.if_icmp .ge 83, 3) := by decide +kernel
theorem dX12_feed_25 : decode cX12_feed 25 = .ok (.iload 6, 2) := by decide +kernel
theorem dX12_feed_27 : decode cX12_feed 27 = .ok (.iconst 4, 1) := by decide +kernel
theorem dX12_feed_28 : decode cX12_feed 28 = .ok (.if_icmp .ge 7, 3) := by decide +kernel
theorem dX12_feed_31 : decode cX12_feed 31 = .ok (.iload_n 1, 1) := by decide +kernel
theorem dX12_feed_32 : decode cX12_feed 32 = .ok (.goto 39, 3) := by decide +kernel
theorem dX12_feed_35 : decode cX12_feed 35 = .ok (.iload 6, 2) := by decide +kernel
theorem dX12_feed_37 : decode cX12_feed 37 = .ok (.bipush 8, 2) := by decide +kernel
theorem dX12_feed_39 : decode cX12_feed 39 = .ok (.if_icmp .ge 7, 3) := by decide +kernel
theorem dX12_feed_42 : decode cX12_feed 42 = .ok (.iload_n 2, 1) := by decide +kernel
theorem dX12_feed_43 : decode cX12_feed 43 = .ok (.goto 28, 3) := by decide +kernel
theorem dX12_feed_46 : decode cX12_feed 46 = .ok (.iload 6, 2) := by decide +kernel
theorem dX12_feed_48 : decode cX12_feed 48 = .ok (.bipush 12, 2) := by decide +kernel
theorem dX12_feed_50 : decode cX12_feed 50 = .ok (.if_icmp .ge 7, 3) := by decide +kernel
theorem dX12_feed_53 : decode cX12_feed 53 = .ok (.iload_n 3, 1) := by decide +kernel
theorem dX12_feed_54 : decode cX12_feed 54 = .ok (.goto 17, 3) := by decide +kernel
theorem dX12_feed_57 : decode cX12_feed 57 = .ok (.iload 6, 2) := by decide +kernel
theorem dX12_feed_59 : decode cX12_feed 59 = .ok (.bipush 16, 2) := by decide +kernel
theorem dX12_feed_61 : decode cX12_feed 61 = .ok (.if_icmp .ge 8, 3) := by decide +kernel
theorem dX12_feed_64 : decode cX12_feed 64 = .ok (.iload 4, 2) := by decide +kernel
theorem dX12_feed_66 : decode cX12_feed 66 = .ok (.goto 5, 3) := by decide +kernel
theorem dX12_feed_69 : decode cX12_feed 69 = .ok (.iload 5, 2) := by decide +kernel
theorem dX12_feed_71 : decode cX12_feed 71 = .ok (.istore 7, 2) := by decide +kernel
theorem dX12_feed_73 : decode cX12_feed 73 = .ok (.aload_n 0, 1) := by decide +kernel
theorem dX12_feed_74 : decode cX12_feed 74 = .ok (.getfield 7, 3) := by decide +kernel
theorem dX12_feed_77 : decode cX12_feed 77 = .ok (.aload_n 0, 1) := by decide +kernel
theorem dX12_feed_78 : decode cX12_feed 78 = .ok (.getfield 277, 3) := by decide +kernel
theorem dX12_feed_81 : decode cX12_feed 81 = .ok (.iload 6, 2) := by decide +kernel
theorem dX12_feed_83 : decode cX12_feed 83 = .ok (.iadd, 1) := by decide +kernel
theorem dX12_feed_84 : decode cX12_feed 84 = .ok (.iload 7, 2) := by decide +kernel
theorem dX12_feed_86 : decode cX12_feed 86 = .ok (.bipush 24, 2) := by decide +kernel
theorem dX12_feed_88 : decode cX12_feed 88 = .ok (.bipush 8, 2) := by decide +kernel
theorem dX12_feed_90 : decode cX12_feed 90 = .ok (.iload 6, 2) := by decide +kernel
theorem dX12_feed_92 : decode cX12_feed 92 = .ok (.iconst 3, 1) := by decide +kernel
theorem dX12_feed_93 : decode cX12_feed 93 = .ok (.iand, 1) := by decide +kernel
theorem dX12_feed_94 : decode cX12_feed 94 = .ok (.imul, 1) := by decide +kernel
theorem dX12_feed_95 : decode cX12_feed 95 = .ok (.isub, 1) := by decide +kernel
theorem dX12_feed_96 : decode cX12_feed 96 = .ok (.ishr, 1) := by decide +kernel
theorem dX12_feed_97 : decode cX12_feed 97 = .ok (.i2b, 1) := by decide +kernel
theorem dX12_feed_98 : decode cX12_feed 98 = .ok (.bastore, 1) := by decide +kernel
theorem dX12_feed_99 : decode cX12_feed 99 = .ok (.iinc 6 1, 3) := by decide +kernel
theorem dX12_feed_102 : decode cX12_feed 102 = .ok (.goto (-84), 3) := by decide +kernel
theorem dX12_feed_105 : decode cX12_feed 105 = .ok (.aload_n 0, 1) := by decide +kernel
theorem dX12_feed_106 : decode cX12_feed 106 = .ok (.dup, 1) := by decide +kernel
theorem dX12_feed_107 : decode cX12_feed 107 = .ok (.getfield 277, 3) := by decide +kernel
theorem dX12_feed_110 : decode cX12_feed 110 = .ok (.bipush 20, 2) := by decide +kernel
theorem dX12_feed_112 : decode cX12_feed 112 = .ok (.iadd, 1) := by decide +kernel
theorem dX12_feed_113 : decode cX12_feed 113 = .ok (.putfield 277, 3) := by decide +kernel
theorem dX12_feed_116 : decode cX12_feed 116 = .ok (.aload_n 0, 1) := by decide +kernel
theorem dX12_feed_117 : decode cX12_feed 117 = .ok (.getfield 277, 3) := by decide +kernel
theorem dX12_feed_120 : decode cX12_feed 120 = .ok (.ireturn, 1) := by decide +kernel
theorem dX12_end_0 : decode cX12_end 0 = .ok (.iload_n 1, 1) := by decide +kernel
theorem dX12_end_1 : decode cX12_end 1 = .ok (.ifCond .lt 11, 3) := by decide +kernel
theorem dX12_end_4 : decode cX12_end 4 = .ok (.iload_n 1, 1) := by decide +kernel
theorem dX12_end_5 : decode cX12_end 5 = .ok (.aload_n 0, 1) := by decide +kernel
theorem dX12_end_6 : decode cX12_end 6 = .ok (.getfield 277, 3) := by decide +kernel
theorem dX12_end_9 : decode cX12_end 9 = .ok (.if_icmp .le 5, 3) := by decide +kernel
theorem dX12_end_12 : decode cX12_end 12 = .ok (.iconst (-1), 1) := by decide +kernel
theorem dX12_end_13 : decode cX12_end 13 = .ok (.ireturn, 1) := by decide +kernel
theorem dX12_end_14 : decode cX12_end 14 = .ok (.aload_n 0, 1) := by decide +kernel
theorem dX12_end_15 : decode cX12_end 15 = .ok (.iload_n 1, 1) := by decide +kernel
theorem dX12_end_16 : decode cX12_end 16 = .ok (.putfield 277, 3) := by decide +kernel
theorem dX12_end_19 : decode cX12_end 19 = .ok (.iload_n 1, 1) := by decide +kernel
theorem dX12_end_20 : decode cX12_end 20 = .ok (.ireturn, 1) := by decide +kernel
theorem dX12_way_0 : decode cX12_way 0 = .ok (.aload_n 0, 1) := by decide +kernel
theorem dX12_way_1 : decode cX12_way 1 = .ok (.iconst 0, 1) := by decide +kernel
theorem dX12_way_2 : decode cX12_way 2 = .ok (.putfield 418, 3) := by decide +kernel
theorem dX12_way_5 : decode cX12_way 5 = .ok (.aload_n 0, 1) := by decide +kernel
theorem dX12_way_6 : decode cX12_way 6 = .ok (.iload_n 1, 1) := by decide +kernel
theorem dX12_way_7 : decode cX12_way 7 = .ok (.iload_n 2, 1) := by decide +kernel
theorem dX12_way_8 : decode cX12_way 8 = .ok (.invokevirtual 445, 3) := by decide +kernel
theorem dX12_way_11 : decode cX12_way 11 = .ok (.ifCond .ne 5, 3) := by decide +kernel
theorem dX12_way_14 : decode cX12_way 14 = .ok (.iconst (-1), 1) := by decide +kernel
theorem dX12_way_15 : decode cX12_way 15 = .ok (.ireturn, 1) := by decide +kernel
theorem dX12_quiet_0 : decode cX12_quiet 0 = .ok (.aload_n 0, 1) := by decide +kernel
theorem dX12_quiet_1 : decode cX12_quiet 1 = .ok (.iconst 0, 1) := by decide +kernel
theorem dX12_quiet_2 : decode cX12_quiet 2 = .ok (.putfield 418, 3) := by decide +kernel
theorem dX12_quiet_5 : decode cX12_quiet 5 = .ok (.aload_n 0, 1) := by decide +kernel
theorem dX12_quiet_6 : decode cX12_quiet 6 = .ok (.iload_n 1, 1) := by decide +kernel
theorem dX12_quiet_7 : decode cX12_quiet 7 = .ok (.iload_n 2, 1) := by decide +kernel
theorem dX12_quiet_8 : decode cX12_quiet 8 = .ok (.invokevirtual 445, 3) := by decide +kernel
theorem dX12_quiet_11 : decode cX12_quiet 11 = .ok (.ifCond .ne 5, 3) := by decide +kernel
theorem dX12_quiet_14 : decode cX12_quiet 14 = .ok (.iconst (-1), 1) := by decide +kernel
theorem dX12_quiet_15 : decode cX12_quiet 15 = .ok (.ireturn, 1) := by decide +kernel
theorem dX12_tour_0 : decode cX12_tour 0 = .ok (.aload_n 0, 1) := by decide +kernel
theorem dX12_tour_1 : decode cX12_tour 1 = .ok (.iconst 0, 1) := by decide +kernel
theorem dX12_tour_2 : decode cX12_tour 2 = .ok (.putfield 418, 3) := by decide +kernel
theorem dX12_tour_5 : decode cX12_tour 5 = .ok (.aload_n 0, 1) := by decide +kernel
theorem dX12_tour_6 : decode cX12_tour 6 = .ok (.iload_n 1, 1) := by decide +kernel
theorem dX12_tour_7 : decode cX12_tour 7 = .ok (.invokevirtual 385, 3) := by decide +kernel
theorem dX12_tour_10 : decode cX12_tour 10 = .ok (.ifCond .eq 11, 3) := by decide +kernel
theorem dX12_tour_21 : decode cX12_tour 21 = .ok (.iconst (-1), 1) := by decide +kernel
theorem dX12_tour_22 : decode cX12_tour 22 = .ok (.ireturn, 1) := by decide +kernel
theorem dX12_later_0 : decode cX12_later 0 = .ok (.iload_n 1, 1) := by decide +kernel
theorem dX12_later_1 : decode cX12_later 1 = .ok (.iconst 0, 1) := by decide +kernel
theorem dX12_later_2 : decode cX12_later 2 = .ok (.sipush 1000, 3) := by decide +kernel
theorem dX12_later_5 : decode cX12_later 5 = .ok (.invokestatic 381, 3) := by decide +kernel
theorem dX12_later_8 : decode cX12_later 8 = .ok (.ifCond .eq 15, 3) := by decide +kernel
theorem dX12_later_11 : decode cX12_later 11 = .ok (.aload_n 0, 1) := by decide +kernel
theorem dX12_later_12 : decode cX12_later 12 = .ok (.getfield 505, 3) := by decide +kernel
theorem dX12_later_15 : decode cX12_later 15 = .ok (.iload_n 1, 1) := by decide +kernel
theorem dX12_later_16 : decode cX12_later 16 = .ok (.iadd, 1) := by decide +kernel
theorem dX12_later_17 : decode cX12_later 17 = .ok (.ldc_w 512, 3) := by decide +kernel
theorem dX12_later_20 : decode cX12_later 20 = .ok (.if_icmp .le 5, 3) := by decide +kernel
theorem dX12_later_23 : decode cX12_later 23 = .ok (.iconst (-1), 1) := by decide +kernel
theorem dX12_later_24 : decode cX12_later 24 = .ok (.ireturn, 1) := by decide +kernel
theorem dX12_later_25 : decode cX12_later 25 = .ok (.aload_n 0, 1) := by decide +kernel
theorem dX12_later_26 : decode cX12_later 26 = .ok (.dup, 1) := by decide +kernel
theorem dX12_later_27 : decode cX12_later 27 = .ok (.getfield 505, 3) := by decide +kernel
theorem dX12_later_30 : decode cX12_later 30 = .ok (.iload_n 1, 1) := by decide +kernel
theorem dX12_later_31 : decode cX12_later 31 = .ok (.iadd, 1) := by decide +kernel
theorem dX12_later_32 : decode cX12_later 32 = .ok (.putfield 505, 3) := by decide +kernel
theorem dX12_later_35 : decode cX12_later 35 = .ok (.aload_n 0, 1) := by decide +kernel
theorem dX12_later_36 : decode cX12_later 36 = .ok (.getfield 505, 3) := by decide +kernel
theorem dX12_later_39 : decode cX12_later 39 = .ok (.ireturn, 1) := by decide +kernel
theorem dX12_told_0 : decode cX12_told 0 = .ok (.iload_n 1, 1) := by decide +kernel
theorem dX12_told_1 : decode cX12_told 1 = .ok (.iconst 0, 1) := by decide +kernel
theorem dX12_told_2 : decode cX12_told 2 = .ok (.bipush 7, 2) := by decide +kernel
theorem dX12_told_4 : decode cX12_told 4 = .ok (.invokestatic 381, 3) := by decide +kernel
theorem dX12_told_7 : decode cX12_told 7 = .ok (.ifCond .eq 12, 3) := by decide +kernel
theorem dX12_told_10 : decode cX12_told 10 = .ok (.aload_n 0, 1) := by decide +kernel
theorem dX12_told_11 : decode cX12_told 11 = .ok (.getfield 415, 3) := by decide +kernel
theorem dX12_told_14 : decode cX12_told 14 = .ok (.bipush 30, 2) := by decide +kernel
theorem dX12_told_16 : decode cX12_told 16 = .ok (.if_icmp .ne 5, 3) := by decide +kernel
theorem dX12_told_19 : decode cX12_told 19 = .ok (.iconst (-1), 1) := by decide +kernel
theorem dX12_told_20 : decode cX12_told 20 = .ok (.ireturn, 1) := by decide +kernel
theorem dX12_told_21 : decode cX12_told 21 = .ok (.aload_n 0, 1) := by decide +kernel
theorem dX12_told_22 : decode cX12_told 22 = .ok (.getfield 137, 3) := by decide +kernel
theorem dX12_told_25 : decode cX12_told 25 = .ok (.aload_n 0, 1) := by decide +kernel
theorem dX12_told_26 : decode cX12_told 26 = .ok (.getfield 415, 3) := by decide +kernel
theorem dX12_told_29 : decode cX12_told 29 = .ok (.iload_n 1, 1) := by decide +kernel
theorem dX12_told_30 : decode cX12_told 30 = .ok (.iastore, 1) := by decide +kernel
theorem dX12_told_31 : decode cX12_told 31 = .ok (.aload_n 0, 1) := by decide +kernel
theorem dX12_told_32 : decode cX12_told 32 = .ok (.getfield 140, 3) := by decide +kernel
theorem dX12_told_35 : decode cX12_told 35 = .ok (.aload_n 0, 1) := by decide +kernel
theorem dX12_told_36 : decode cX12_told 36 = .ok (.getfield 415, 3) := by decide +kernel
theorem dX12_told_39 : decode cX12_told 39 = .ok (.iload_n 2, 1) := by decide +kernel
theorem dX12_told_40 : decode cX12_told 40 = .ok (.iastore, 1) := by decide +kernel
theorem dX12_told_41 : decode cX12_told 41 = .ok (.aload_n 0, 1) := by decide +kernel
theorem dX12_told_42 : decode cX12_told 42 = .ok (.getfield 143, 3) := by decide +kernel
theorem dX12_told_45 : decode cX12_told 45 = .ok (.aload_n 0, 1) := by decide +kernel
theorem dX12_told_46 : decode cX12_told 46 = .ok (.getfield 415, 3) := by decide +kernel
theorem dX12_told_49 : decode cX12_told 49 = .ok (.iload_n 3, 1) := by decide +kernel
theorem dX12_told_50 : decode cX12_told 50 = .ok (.iastore, 1) := by decide +kernel
theorem dX12_told_51 : decode cX12_told 51 = .ok (.aload_n 0, 1) := by decide +kernel
theorem dX12_told_52 : decode cX12_told 52 = .ok (.getfield 146, 3) := by decide +kernel
theorem dX12_told_55 : decode cX12_told 55 = .ok (.aload_n 0, 1) := by decide +kernel
theorem dX12_told_56 : decode cX12_told 56 = .ok (.getfield 415, 3) := by decide +kernel
theorem dX12_told_59 : decode cX12_told 59 = .ok (.iload 4, 2) := by decide +kernel
theorem dX12_told_61 : decode cX12_told 61 = .ok (.ifCond .eq 7, 3) := by decide +kernel
theorem dX12_told_64 : decode cX12_told 64 = .ok (.iconst 1, 1) := by decide +kernel
theorem dX12_told_65 : decode cX12_told 65 = .ok (.goto 4, 3) := by decide +kernel
theorem dX12_told_68 : decode cX12_told 68 = .ok (.iconst 0, 1) := by decide +kernel
theorem dX12_told_69 : decode cX12_told 69 = .ok (.iastore, 1) := by decide +kernel
theorem dX12_told_70 : decode cX12_told 70 = .ok (.aload_n 0, 1) := by decide +kernel
theorem dX12_told_71 : decode cX12_told 71 = .ok (.getfield 149, 3) := by decide +kernel
theorem dX12_told_74 : decode cX12_told 74 = .ok (.aload_n 0, 1) := by decide +kernel
theorem dX12_told_75 : decode cX12_told 75 = .ok (.getfield 415, 3) := by decide +kernel
theorem dX12_told_78 : decode cX12_told 78 = .ok (.aload_n 0, 1) := by decide +kernel
theorem dX12_told_79 : decode cX12_told 79 = .ok (.getfield 505, 3) := by decide +kernel
theorem dX12_told_82 : decode cX12_told 82 = .ok (.iastore, 1) := by decide +kernel
theorem dX12_told_83 : decode cX12_told 83 = .ok (.aload_n 0, 1) := by decide +kernel
theorem dX12_told_84 : decode cX12_told 84 = .ok (.getfield 152, 3) := by decide +kernel
theorem dX12_told_87 : decode cX12_told 87 = .ok (.aload_n 0, 1) := by decide +kernel
theorem dX12_told_88 : decode cX12_told 88 = .ok (.getfield 415, 3) := by decide +kernel
theorem dX12_told_91 : decode cX12_told 91 = .ok (.iconst (-1), 1) := by decide +kernel
theorem dX12_told_92 : decode cX12_told 92 = .ok (.iastore, 1) := by decide +kernel
theorem dX12_told_93 : decode cX12_told 93 = .ok (.aload_n 0, 1) := by decide +kernel
theorem dX12_told_94 : decode cX12_told 94 = .ok (.dup, 1) := by decide +kernel
theorem dX12_told_95 : decode cX12_told 95 = .ok (.getfield 415, 3) := by decide +kernel
theorem dX12_told_98 : decode cX12_told 98 = .ok (.iconst 1, 1) := by decide +kernel
theorem dX12_told_99 : decode cX12_told 99 = .ok (.iadd, 1) := by decide +kernel
theorem dX12_told_100 : decode cX12_told 100 = .ok (.putfield 415, 3) := by decide +kernel
theorem dX12_told_103 : decode cX12_told 103 = .ok (.aload_n 0, 1) := by decide +kernel
theorem dX12_told_104 : decode cX12_told 104 = .ok (.getfield 415, 3) := by decide +kernel
theorem dX12_told_107 : decode cX12_told 107 = .ok (.iconst 1, 1) := by decide +kernel
theorem dX12_told_108 : decode cX12_told 108 = .ok (.isub, 1) := by decide +kernel
theorem dX12_told_109 : decode cX12_told 109 = .ok (.ireturn, 1) := by decide +kernel
theorem dX12_heard_0 : decode cX12_heard 0 = .ok (.iload_n 2, 1) := by decide +kernel
theorem dX12_heard_1 : decode cX12_heard 1 = .ok (.iconst 0, 1) := by decide +kernel
theorem dX12_heard_2 : decode cX12_heard 2 = .ok (.bipush 9, 2) := by decide +kernel
theorem dX12_heard_4 : decode cX12_heard 4 = .ok (.invokestatic 381, 3) := by decide +kernel
theorem dX12_heard_7 : decode cX12_heard 7 = .ok (.ifCond .eq 14, 3) := by decide +kernel
theorem dX12_heard_10 : decode cX12_heard 10 = .ok (.aload_n 0, 1) := by decide +kernel
theorem dX12_heard_11 : decode cX12_heard 11 = .ok (.iload_n 1, 1) := by decide +kernel
theorem dX12_heard_12 : decode cX12_heard 12 = .ok (.iload_n 2, 1) := by decide +kernel
theorem dX12_heard_13 : decode cX12_heard 13 = .ok (.iconst (-1), 1) := by decide +kernel
theorem dX12_heard_14 : decode cX12_heard 14 = .ok (.iload_n 3, 1) := by decide +kernel
theorem dX12_heard_15 : decode cX12_heard 15 = .ok (.invokevirtual 508, 3) := by decide +kernel
theorem dX12_heard_18 : decode cX12_heard 18 = .ok (.goto 4, 3) := by decide +kernel
theorem dX12_heard_21 : decode cX12_heard 21 = .ok (.iconst (-1), 1) := by decide +kernel
theorem dX12_heard_22 : decode cX12_heard 22 = .ok (.ireturn, 1) := by decide +kernel
theorem dX12_trades_0 : decode cX12_trades 0 = .ok (.iconst 0, 1) := by decide +kernel
theorem dX12_trades_1 : decode cX12_trades 1 = .ok (.istore_n 1, 1) := by decide +kernel
theorem dX12_trades_2 : decode cX12_trades 2 = .ok (.iload_n 1, 1) := by decide +kernel
theorem dX12_trades_3 : decode cX12_trades 3 = .ok (.bipush 64, 2) := by decide +kernel
theorem dX12_trades_5 : decode cX12_trades 5 = .ok (.if_icmp .ge 24, 3) := by decide +kernel
theorem dX12_trades_8 : decode cX12_trades 8 = .ok (.aload_n 0, 1) := by decide +kernel
theorem dX12_trades_9 : decode cX12_trades 9 = .ok (.getfield 131, 3) := by decide +kernel
theorem dX12_trades_12 : decode cX12_trades 12 = .ok (.iload_n 1, 1) := by decide +kernel
theorem dX12_trades_13 : decode cX12_trades 13 = .ok (.iload_n 1, 1) := by decide +kernel
theorem dX12_trades_14 : decode cX12_trades 14 = .ok (.ifCond .ne 7, 3) := by decide +kernel
theorem dX12_trades_17 : decode cX12_trades 17 = .ok (.iconst 0, 1) := by decide +kernel
theorem dX12_trades_18 : decode cX12_trades 18 = .ok (.goto 4, 3) := by decide +kernel
theorem dX12_trades_21 : decode cX12_trades 21 = .ok (.iconst (-1), 1) := by decide +kernel
theorem dX12_trades_22 : decode cX12_trades 22 = .ok (.iastore, 1) := by decide +kernel
theorem dX12_trades_23 : decode cX12_trades 23 = .ok (.iinc 1 1, 3) := by decide +kernel
theorem dX12_trades_26 : decode cX12_trades 26 = .ok (.goto (-24), 3) := by decide +kernel
theorem dX12_trades_29 : decode cX12_trades 29 = .ok (.iconst 0, 1) := by decide +kernel
theorem dX12_trades_30 : decode cX12_trades 30 = .ok (.istore_n 1, 1) := by decide +kernel
theorem dX12_trades_31 : decode cX12_trades 31 = .ok (.iload_n 1, 1) := by decide +kernel
theorem dX12_trades_32 : decode cX12_trades 32 = .ok (.aload_n 0, 1) := by decide +kernel
theorem dX12_trades_33 : decode cX12_trades 33 = .ok (.invokevirtual 388, 3) := by decide +kernel
theorem dX12_trades_36 : decode cX12_trades 36 = .ok (.if_icmp .ge 101, 3) := by decide +kernel
theorem dX12_trades_137 : decode cX12_trades 137 = .ok (.iconst 0, 1) := by decide +kernel
theorem dX12_trades_138 : decode cX12_trades 138 = .ok (.istore_n 1, 1) := by decide +kernel
theorem dX12_trades_139 : decode cX12_trades 139 = .ok (.iconst 0, 1) := by decide +kernel
theorem dX12_trades_140 : decode cX12_trades 140 = .ok (.istore_n 2, 1) := by decide +kernel
theorem dX12_trades_141 : decode cX12_trades 141 = .ok (.iload_n 2, 1) := by decide +kernel
theorem dX12_trades_142 : decode cX12_trades 142 = .ok (.bipush 64, 2) := by decide +kernel
theorem dX12_trades_144 : decode cX12_trades 144 = .ok (.if_icmp .ge 26, 3) := by decide +kernel
theorem dX12_trades_147 : decode cX12_trades 147 = .ok (.aload_n 0, 1) := by decide +kernel
theorem dX12_trades_148 : decode cX12_trades 148 = .ok (.getfield 131, 3) := by decide +kernel
theorem dX12_trades_151 : decode cX12_trades 151 = .ok (.iload_n 2, 1) := by decide +kernel
theorem dX12_trades_152 : decode cX12_trades 152 = .ok (.iaload, 1) := by decide +kernel
theorem dX12_trades_153 : decode cX12_trades 153 = .ok (.iload_n 1, 1) := by decide +kernel
theorem dX12_trades_154 : decode cX12_trades 154 = .ok (.if_icmp .le 10, 3) := by decide +kernel
theorem dX12_trades_164 : decode cX12_trades 164 = .ok (.iinc 2 1, 3) := by decide +kernel
theorem dX12_trades_167 : decode cX12_trades 167 = .ok (.goto (-26), 3) := by decide +kernel
theorem dX12_trades_170 : decode cX12_trades 170 = .ok (.iload_n 1, 1) := by decide +kernel
theorem dX12_trades_171 : decode cX12_trades 171 = .ok (.ireturn, 1) := by decide +kernel
theorem dX12_keepAct_0 : decode cX12_keepAct 0 = .ok (.aload_n 0, 1) := by decide +kernel
theorem dX12_keepAct_1 : decode cX12_keepAct 1 = .ok (.getfield 409, 3) := by decide +kernel
theorem dX12_keepAct_4 : decode cX12_keepAct 4 = .ok (.bipush 40, 2) := by decide +kernel
theorem dX12_keepAct_6 : decode cX12_keepAct 6 = .ok (.if_icmp .ne 43, 3) := by decide +kernel
theorem dX12_keepAct_49 : decode cX12_keepAct 49 = .ok (.iconst 0, 1) := by decide +kernel
theorem dX12_keepAct_50 : decode cX12_keepAct 50 = .ok (.istore_n 1, 1) := by decide +kernel
theorem dX12_keepAct_51 : decode cX12_keepAct 51 = .ok (.iload_n 1, 1) := by decide +kernel
theorem dX12_keepAct_52 : decode cX12_keepAct 52 = .ok (.bipush 32, 2) := by decide +kernel
theorem dX12_keepAct_54 : decode cX12_keepAct 54 = .ok (.if_icmp .ge 29, 3) := by decide +kernel
theorem dX12_keepAct_57 : decode cX12_keepAct 57 = .ok (.aload_n 0, 1) := by decide +kernel
theorem dX12_keepAct_58 : decode cX12_keepAct 58 = .ok (.getfield 104, 3) := by decide +kernel
theorem dX12_keepAct_61 : decode cX12_keepAct 61 = .ok (.bipush 32, 2) := by decide +kernel
theorem dX12_keepAct_63 : decode cX12_keepAct 63 = .ok (.aload_n 0, 1) := by decide +kernel
theorem dX12_keepAct_64 : decode cX12_keepAct 64 = .ok (.getfield 409, 3) := by decide +kernel
theorem dX12_keepAct_67 : decode cX12_keepAct 67 = .ok (.imul, 1) := by decide +kernel
theorem dX12_keepAct_68 : decode cX12_keepAct 68 = .ok (.iload_n 1, 1) := by decide +kernel
theorem dX12_keepAct_69 : decode cX12_keepAct 69 = .ok (.iadd, 1) := by decide +kernel
theorem dX12_keepAct_70 : decode cX12_keepAct 70 = .ok (.aload_n 0, 1) := by decide +kernel
theorem dX12_keepAct_71 : decode cX12_keepAct 71 = .ok (.getfield 95, 3) := by decide +kernel
theorem dX12_keepAct_74 : decode cX12_keepAct 74 = .ok (.iload_n 1, 1) := by decide +kernel
theorem dX12_keepAct_75 : decode cX12_keepAct 75 = .ok (.iaload, 1) := by decide +kernel
theorem dX12_keepAct_76 : decode cX12_keepAct 76 = .ok (.iastore, 1) := by decide +kernel
theorem dX12_keepAct_77 : decode cX12_keepAct 77 = .ok (.iinc 1 1, 3) := by decide +kernel
theorem dX12_keepAct_80 : decode cX12_keepAct 80 = .ok (.goto (-29), 3) := by decide +kernel
theorem dX12_keepAct_83 : decode cX12_keepAct 83 = .ok (.aload_n 0, 1) := by decide +kernel
theorem dX12_keepAct_84 : decode cX12_keepAct 84 = .ok (.dup, 1) := by decide +kernel
theorem dX12_keepAct_85 : decode cX12_keepAct 85 = .ok (.getfield 409, 3) := by decide +kernel
theorem dX12_keepAct_88 : decode cX12_keepAct 88 = .ok (.iconst 1, 1) := by decide +kernel
theorem dX12_keepAct_89 : decode cX12_keepAct 89 = .ok (.iadd, 1) := by decide +kernel
theorem dX12_keepAct_90 : decode cX12_keepAct 90 = .ok (.putfield 409, 3) := by decide +kernel
theorem dX12_keepAct_93 : decode cX12_keepAct 93 = .ok (.aload_n 0, 1) := by decide +kernel
theorem dX12_keepAct_94 : decode cX12_keepAct 94 = .ok (.iconst 0, 1) := by decide +kernel
theorem dX12_keepAct_95 : decode cX12_keepAct 95 = .ok (.putfield 412, 3) := by decide +kernel
theorem dX12_keepAct_98 : decode cX12_keepAct 98 = .ok (.return_, 1) := by decide +kernel
theorem dX12_goDay_0 : decode cX12_goDay 0 = .ok (.iconst 0, 1) := by decide +kernel
theorem dX12_goDay_1 : decode cX12_goDay 1 = .ok (.istore_n 1, 1) := by decide +kernel
theorem dX12_goDay_2 : decode cX12_goDay 2 = .ok (.iconst 0, 1) := by decide +kernel
theorem dX12_goDay_3 : decode cX12_goDay 3 = .ok (.istore_n 2, 1) := by decide +kernel
theorem dX12_goDay_4 : decode cX12_goDay 4 = .ok (.iload_n 2, 1) := by decide +kernel
theorem dX12_goDay_5 : decode cX12_goDay 5 = .ok (.aload_n 0, 1) := by decide +kernel
theorem dX12_goDay_6 : decode cX12_goDay 6 = .ok (.invokevirtual 388, 3) := by decide +kernel
theorem dX12_goDay_9 : decode cX12_goDay 9 = .ok (.if_icmp .ge 86, 3) := by decide +kernel
theorem dX12_goDay_95 : decode cX12_goDay 95 = .ok (.aload_n 0, 1) := by decide +kernel
theorem dX12_goDay_96 : decode cX12_goDay 96 = .ok (.getfield 95, 3) := by decide +kernel
theorem dX12_goDay_99 : decode cX12_goDay 99 = .ok (.bipush 30, 2) := by decide +kernel
theorem dX12_goDay_101 : decode cX12_goDay 101 = .ok (.dup2, 1) := by decide +kernel
theorem dX12_goDay_102 : decode cX12_goDay 102 = .ok (.iaload, 1) := by decide +kernel
theorem dX12_goDay_103 : decode cX12_goDay 103 = .ok (.iconst 1, 1) := by decide +kernel
theorem dX12_goDay_104 : decode cX12_goDay 104 = .ok (.iadd, 1) := by decide +kernel
theorem dX12_goDay_105 : decode cX12_goDay 105 = .ok (.iastore, 1) := by decide +kernel
theorem dX12_goDay_106 : decode cX12_goDay 106 = .ok (.iload_n 1, 1) := by decide +kernel
theorem dX12_goDay_107 : decode cX12_goDay 107 = .ok (.ireturn, 1) := by decide +kernel
theorem dX12_day_0 : decode cX12_day 0 = .ok (.aload_n 0, 1) := by decide +kernel
theorem dX12_day_1 : decode cX12_day 1 = .ok (.getfield 95, 3) := by decide +kernel
theorem dX12_day_4 : decode cX12_day 4 = .ok (.bipush 30, 2) := by decide +kernel
theorem dX12_day_6 : decode cX12_day 6 = .ok (.iaload, 1) := by decide +kernel
theorem dX12_day_7 : decode cX12_day 7 = .ok (.sipush 999, 3) := by decide +kernel
theorem dX12_day_10 : decode cX12_day 10 = .ok (.if_icmp .ne 5, 3) := by decide +kernel
theorem dX12_day_15 : decode cX12_day 15 = .ok (.aload_n 0, 1) := by decide +kernel
theorem dX12_day_16 : decode cX12_day 16 = .ok (.invokevirtual 448, 3) := by decide +kernel
theorem dX12_day_19 : decode cX12_day 19 = .ok (.aload_n 0, 1) := by decide +kernel
theorem dX12_day_20 : decode cX12_day 20 = .ok (.invokevirtual 454, 3) := by decide +kernel
theorem dX12_day_23 : decode cX12_day 23 = .ok (.ireturn, 1) := by decide +kernel
theorem dX12_image_0 : decode cX12_image 0 = .ok (.iload_n 1, 1) := by decide +kernel
theorem dX12_image_1 : decode cX12_image 1 = .ok (.iconst 0, 1) := by decide +kernel
theorem dX12_image_2 : decode cX12_image 2 = .ok (.iconst 2, 1) := by decide +kernel
theorem dX12_image_3 : decode cX12_image 3 = .ok (.invokestatic 381, 3) := by decide +kernel
theorem dX12_image_6 : decode cX12_image 6 = .ok (.ifCond .ne 5, 3) := by decide +kernel
theorem dX12_image_9 : decode cX12_image 9 = .ok (.iconst (-1), 1) := by decide +kernel
theorem dX12_image_10 : decode cX12_image 10 = .ok (.ireturn, 1) := by decide +kernel
theorem dX12_image_11 : decode cX12_image 11 = .ok (.iconst 0, 1) := by decide +kernel
theorem dX12_image_12 : decode cX12_image 12 = .ok (.istore_n 2, 1) := by decide +kernel
theorem dX12_image_13 : decode cX12_image 13 = .ok (.iload_n 2, 1) := by decide +kernel
theorem dX12_image_14 : decode cX12_image 14 = .ok (.bipush 32, 2) := by decide +kernel
theorem dX12_image_16 : decode cX12_image 16 = .ok (.if_icmp .ge 26, 3) := by decide +kernel
theorem dX12_image_19 : decode cX12_image 19 = .ok (.aload_n 0, 1) := by decide +kernel
theorem dX12_image_20 : decode cX12_image 20 = .ok (.getfield 161, 3) := by decide +kernel
theorem dX12_image_23 : decode cX12_image 23 = .ok (.bipush 32, 2) := by decide +kernel
theorem dX12_image_25 : decode cX12_image 25 = .ok (.iload_n 1, 1) := by decide +kernel
theorem dX12_image_26 : decode cX12_image 26 = .ok (.imul, 1) := by decide +kernel
theorem dX12_image_27 : decode cX12_image 27 = .ok (.iload_n 2, 1) := by decide +kernel
theorem dX12_image_28 : decode cX12_image 28 = .ok (.iadd, 1) := by decide +kernel
theorem dX12_image_29 : decode cX12_image 29 = .ok (.aload_n 0, 1) := by decide +kernel
theorem dX12_image_30 : decode cX12_image 30 = .ok (.getfield 95, 3) := by decide +kernel
theorem dX12_image_33 : decode cX12_image 33 = .ok (.iload_n 2, 1) := by decide +kernel
theorem dX12_image_34 : decode cX12_image 34 = .ok (.iaload, 1) := by decide +kernel
theorem dX12_image_35 : decode cX12_image 35 = .ok (.iastore, 1) := by decide +kernel
theorem dX12_image_36 : decode cX12_image 36 = .ok (.iinc 2 1, 3) := by decide +kernel
theorem dX12_image_39 : decode cX12_image 39 = .ok (.goto (-26), 3) := by decide +kernel
theorem dX12_image_42 : decode cX12_image 42 = .ok (.aload_n 0, 1) := by decide +kernel
theorem dX12_image_43 : decode cX12_image 43 = .ok (.getfield 164, 3) := by decide +kernel
theorem dX12_image_46 : decode cX12_image 46 = .ok (.iload_n 1, 1) := by decide +kernel
theorem dX12_image_47 : decode cX12_image 47 = .ok (.iconst 1, 1) := by decide +kernel
theorem dX12_image_48 : decode cX12_image 48 = .ok (.bastore, 1) := by decide +kernel
theorem dX12_image_49 : decode cX12_image 49 = .ok (.aload_n 0, 1) := by decide +kernel
theorem dX12_image_50 : decode cX12_image 50 = .ok (.getfield 95, 3) := by decide +kernel
theorem dX12_image_53 : decode cX12_image 53 = .ok (.bipush 30, 2) := by decide +kernel
theorem dX12_image_55 : decode cX12_image 55 = .ok (.iaload, 1) := by decide +kernel
theorem dX12_image_56 : decode cX12_image 56 = .ok (.ireturn, 1) := by decide +kernel
theorem dX12_clearBank_0 : decode cX12_clearBank 0 = .ok (.aload_n 0, 1) := by decide +kernel
theorem dX12_clearBank_1 : decode cX12_clearBank 1 = .ok (.getfield 20, 3) := by decide +kernel
theorem dX12_clearBank_4 : decode cX12_clearBank 4 = .ok (.aload_n 0, 1) := by decide +kernel
theorem dX12_clearBank_5 : decode cX12_clearBank 5 = .ok (.getfield 271, 3) := by decide +kernel
theorem dX12_clearBank_8 : decode cX12_clearBank 8 = .ok (.iconst 0, 1) := by decide +kernel
theorem dX12_clearBank_9 : decode cX12_clearBank 9 = .ok (.iastore, 1) := by decide +kernel
theorem dX12_clearBank_10 : decode cX12_clearBank 10 = .ok (.aload_n 0, 1) := by decide +kernel
theorem dX12_clearBank_11 : decode cX12_clearBank 11 = .ok (.getfield 24, 3) := by decide +kernel
theorem dX12_clearBank_14 : decode cX12_clearBank 14 = .ok (.aload_n 0, 1) := by decide +kernel
theorem dX12_clearBank_15 : decode cX12_clearBank 15 = .ok (.getfield 271, 3) := by decide +kernel
theorem dX12_clearBank_18 : decode cX12_clearBank 18 = .ok (.iconst 0, 1) := by decide +kernel
theorem dX12_clearBank_19 : decode cX12_clearBank 19 = .ok (.iastore, 1) := by decide +kernel
theorem dX12_clearBank_20 : decode cX12_clearBank 20 = .ok (.aload_n 0, 1) := by decide +kernel
theorem dX12_clearBank_21 : decode cX12_clearBank 21 = .ok (.getfield 27, 3) := by decide +kernel
theorem dX12_clearBank_24 : decode cX12_clearBank 24 = .ok (.aload_n 0, 1) := by decide +kernel
theorem dX12_clearBank_25 : decode cX12_clearBank 25 = .ok (.getfield 271, 3) := by decide +kernel
theorem dX12_clearBank_28 : decode cX12_clearBank 28 = .ok (.iconst 0, 1) := by decide +kernel
theorem dX12_clearBank_29 : decode cX12_clearBank 29 = .ok (.iastore, 1) := by decide +kernel
theorem dX12_clearBank_30 : decode cX12_clearBank 30 = .ok (.aload_n 0, 1) := by decide +kernel
theorem dX12_clearBank_31 : decode cX12_clearBank 31 = .ok (.getfield 30, 3) := by decide +kernel
theorem dX12_clearBank_34 : decode cX12_clearBank 34 = .ok (.aload_n 0, 1) := by decide +kernel
theorem dX12_clearBank_35 : decode cX12_clearBank 35 = .ok (.getfield 271, 3) := by decide +kernel
theorem dX12_clearBank_38 : decode cX12_clearBank 38 = .ok (.iconst 0, 1) := by decide +kernel
theorem dX12_clearBank_39 : decode cX12_clearBank 39 = .ok (.iastore, 1) := by decide +kernel
theorem dX12_clearBank_40 : decode cX12_clearBank 40 = .ok (.aload_n 0, 1) := by decide +kernel
theorem dX12_clearBank_41 : decode cX12_clearBank 41 = .ok (.getfield 33, 3) := by decide +kernel
theorem dX12_clearBank_44 : decode cX12_clearBank 44 = .ok (.aload_n 0, 1) := by decide +kernel
theorem dX12_clearBank_45 : decode cX12_clearBank 45 = .ok (.getfield 271, 3) := by decide +kernel
theorem dX12_clearBank_48 : decode cX12_clearBank 48 = .ok (.iconst 0, 1) := by decide +kernel
theorem dX12_clearBank_49 : decode cX12_clearBank 49 = .ok (.iastore, 1) := by decide +kernel
theorem dX12_clearBank_50 : decode cX12_clearBank 50 = .ok (.aload_n 0, 1) := by decide +kernel
theorem dX12_clearBank_51 : decode cX12_clearBank 51 = .ok (.getfield 66, 3) := by decide +kernel
theorem dX12_clearBank_54 : decode cX12_clearBank 54 = .ok (.aload_n 0, 1) := by decide +kernel
theorem dX12_clearBank_55 : decode cX12_clearBank 55 = .ok (.getfield 271, 3) := by decide +kernel
theorem dX12_clearBank_58 : decode cX12_clearBank 58 = .ok (.iconst 0, 1) := by decide +kernel
theorem dX12_clearBank_59 : decode cX12_clearBank 59 = .ok (.bastore, 1) := by decide +kernel
theorem dX12_clearBank_60 : decode cX12_clearBank 60 = .ok (.aload_n 0, 1) := by decide +kernel
theorem dX12_clearBank_61 : decode cX12_clearBank 61 = .ok (.getfield 70, 3) := by decide +kernel
theorem dX12_clearBank_64 : decode cX12_clearBank 64 = .ok (.aload_n 0, 1) := by decide +kernel
theorem dX12_clearBank_65 : decode cX12_clearBank 65 = .ok (.getfield 271, 3) := by decide +kernel
theorem dX12_clearBank_68 : decode cX12_clearBank 68 = .ok (.iconst 0, 1) := by decide +kernel
theorem dX12_clearBank_69 : decode cX12_clearBank 69 = .ok (.bastore, 1) := by decide +kernel
theorem dX12_clearBank_70 : decode cX12_clearBank 70 = .ok (.aload_n 0, 1) := by decide +kernel
theorem dX12_clearBank_71 : decode cX12_clearBank 71 = .ok (.sipush 560, 3) := by decide +kernel
theorem dX12_clearBank_74 : decode cX12_clearBank 74 = .ok (.aload_n 0, 1) := by decide +kernel
theorem dX12_clearBank_75 : decode cX12_clearBank 75 = .ok (.getfield 271, 3) := by decide +kernel
theorem dX12_clearBank_78 : decode cX12_clearBank 78 = .ok (.imul, 1) := by decide +kernel
theorem dX12_clearBank_79 : decode cX12_clearBank 79 = .ok (.putfield 274, 3) := by decide +kernel
theorem dX12_clearBank_82 : decode cX12_clearBank 82 = .ok (.return_, 1) := by decide +kernel
theorem dX12_layTable_0 : decode cX12_layTable 0 = .ok (.iconst 0, 1) := by decide +kernel
theorem dX12_layTable_1 : decode cX12_layTable 1 = .ok (.istore_n 1, 1) := by decide +kernel
theorem dX12_layTable_2 : decode cX12_layTable 2 = .ok (.iload_n 1, 1) := by decide +kernel
theorem dX12_layTable_3 : decode cX12_layTable 3 = .ok (.aload_n 0, 1) := by decide +kernel
theorem dX12_layTable_4 : decode cX12_layTable 4 = .ok (.invokevirtual 378, 3) := by decide +kernel
theorem dX12_layTable_7 : decode cX12_layTable 7 = .ok (.if_icmp .ge 134, 3) := by decide +kernel
theorem dX12_layTable_141 : decode cX12_layTable 141 = .ok (.iconst 0, 1) := by decide +kernel
theorem dX12_layTable_142 : decode cX12_layTable 142 = .ok (.istore_n 1, 1) := by decide +kernel
theorem dX12_layTable_143 : decode cX12_layTable 143 = .ok (.iload_n 1, 1) := by decide +kernel
theorem dX12_layTable_144 : decode cX12_layTable 144 = .ok (.aload_n 0, 1) := by decide +kernel
theorem dX12_layTable_145 : decode cX12_layTable 145 = .ok (.getfield 24, 3) := by decide +kernel
theorem dX12_layTable_148 : decode cX12_layTable 148 = .ok (.aload_n 0, 1) := by decide +kernel
theorem dX12_layTable_149 : decode cX12_layTable 149 = .ok (.getfield 280, 3) := by decide +kernel
theorem dX12_layTable_152 : decode cX12_layTable 152 = .ok (.iaload, 1) := by decide +kernel
theorem dX12_layTable_153 : decode cX12_layTable 153 = .ok (.if_icmp .ge 25, 3) := by decide +kernel
theorem dX12_layTable_178 : decode cX12_layTable 178 = .ok (.return_, 1) := by decide +kernel
theorem dX12_startAnew_0 : decode cX12_startAnew 0 = .ok (.iconst 0, 1) := by decide +kernel
theorem dX12_startAnew_1 : decode cX12_startAnew 1 = .ok (.istore_n 1, 1) := by decide +kernel
theorem dX12_startAnew_2 : decode cX12_startAnew 2 = .ok (.iload_n 1, 1) := by decide +kernel
theorem dX12_startAnew_3 : decode cX12_startAnew 3 = .ok (.bipush 32, 2) := by decide +kernel
theorem dX12_startAnew_5 : decode cX12_startAnew 5 = .ok (.if_icmp .ge 16, 3) := by decide +kernel
theorem dX12_startAnew_8 : decode cX12_startAnew 8 = .ok (.aload_n 0, 1) := by decide +kernel
theorem dX12_startAnew_9 : decode cX12_startAnew 9 = .ok (.getfield 95, 3) := by decide +kernel
theorem dX12_startAnew_12 : decode cX12_startAnew 12 = .ok (.iload_n 1, 1) := by decide +kernel
theorem dX12_startAnew_13 : decode cX12_startAnew 13 = .ok (.iconst 0, 1) := by decide +kernel
theorem dX12_startAnew_14 : decode cX12_startAnew 14 = .ok (.iastore, 1) := by decide +kernel
theorem dX12_startAnew_15 : decode cX12_startAnew 15 = .ok (.iinc 1 1, 3) := by decide +kernel
theorem dX12_startAnew_18 : decode cX12_startAnew 18 = .ok (.goto (-16), 3) := by decide +kernel
theorem dX12_startAnew_21 : decode cX12_startAnew 21 = .ok (.iconst 0, 1) := by decide +kernel
theorem dX12_startAnew_22 : decode cX12_startAnew 22 = .ok (.istore_n 1, 1) := by decide +kernel
theorem dX12_startAnew_23 : decode cX12_startAnew 23 = .ok (.iload_n 1, 1) := by decide +kernel
theorem dX12_startAnew_24 : decode cX12_startAnew 24 = .ok (.aload_n 0, 1) := by decide +kernel
theorem dX12_startAnew_25 : decode cX12_startAnew 25 = .ok (.invokevirtual 388, 3) := by decide +kernel
theorem dX12_startAnew_28 : decode cX12_startAnew 28 = .ok (.if_icmp .ge 77, 3) := by decide +kernel
theorem dX12_startAnew_105 : decode cX12_startAnew 105 = .ok (.iconst 0, 1) := by decide +kernel
theorem dX12_startAnew_106 : decode cX12_startAnew 106 = .ok (.istore_n 1, 1) := by decide +kernel
theorem dX12_startAnew_107 : decode cX12_startAnew 107 = .ok (.iload_n 1, 1) := by decide +kernel
theorem dX12_startAnew_108 : decode cX12_startAnew 108 = .ok (.bipush 6, 2) := by decide +kernel
theorem dX12_startAnew_110 : decode cX12_startAnew 110 = .ok (.if_icmp .ge 19, 3) := by decide +kernel
theorem dX12_startAnew_113 : decode cX12_startAnew 113 = .ok (.aload_n 0, 1) := by decide +kernel
theorem dX12_startAnew_114 : decode cX12_startAnew 114 = .ok (.getfield 95, 3) := by decide +kernel
theorem dX12_startAnew_117 : decode cX12_startAnew 117 = .ok (.bipush 24, 2) := by decide +kernel
theorem dX12_startAnew_119 : decode cX12_startAnew 119 = .ok (.iload_n 1, 1) := by decide +kernel
theorem dX12_startAnew_120 : decode cX12_startAnew 120 = .ok (.iadd, 1) := by decide +kernel
theorem dX12_startAnew_121 : decode cX12_startAnew 121 = .ok (.iconst (-1), 1) := by decide +kernel
theorem dX12_startAnew_122 : decode cX12_startAnew 122 = .ok (.iastore, 1) := by decide +kernel
theorem dX12_startAnew_123 : decode cX12_startAnew 123 = .ok (.iinc 1 1, 3) := by decide +kernel
theorem dX12_startAnew_126 : decode cX12_startAnew 126 = .ok (.goto (-19), 3) := by decide +kernel
theorem dX12_startAnew_129 : decode cX12_startAnew 129 = .ok (.aload_n 0, 1) := by decide +kernel
theorem dX12_startAnew_130 : decode cX12_startAnew 130 = .ok (.getfield 95, 3) := by decide +kernel
theorem dX12_startAnew_133 : decode cX12_startAnew 133 = .ok (.bipush 31, 2) := by decide +kernel
theorem dX12_startAnew_135 : decode cX12_startAnew 135 = .ok (.aload_n 0, 1) := by decide +kernel
theorem dX12_startAnew_136 : decode cX12_startAnew 136 = .ok (.getfield 33, 3) := by decide +kernel
theorem dX12_startAnew_139 : decode cX12_startAnew 139 = .ok (.aload_n 0, 1) := by decide +kernel
theorem dX12_startAnew_140 : decode cX12_startAnew 140 = .ok (.getfield 280, 3) := by decide +kernel
theorem dX12_startAnew_143 : decode cX12_startAnew 143 = .ok (.iaload, 1) := by decide +kernel
theorem dX12_startAnew_144 : decode cX12_startAnew 144 = .ok (.iastore, 1) := by decide +kernel
theorem dX12_startAnew_145 : decode cX12_startAnew 145 = .ok (.aload_n 0, 1) := by decide +kernel
theorem dX12_startAnew_146 : decode cX12_startAnew 146 = .ok (.invokevirtual 406, 3) := by decide +kernel
theorem dX12_startAnew_149 : decode cX12_startAnew 149 = .ok (.aload_n 0, 1) := by decide +kernel
theorem dX12_startAnew_150 : decode cX12_startAnew 150 = .ok (.iconst 0, 1) := by decide +kernel
theorem dX12_startAnew_151 : decode cX12_startAnew 151 = .ok (.putfield 409, 3) := by decide +kernel
theorem dX12_startAnew_154 : decode cX12_startAnew 154 = .ok (.aload_n 0, 1) := by decide +kernel
theorem dX12_startAnew_155 : decode cX12_startAnew 155 = .ok (.iconst 0, 1) := by decide +kernel
theorem dX12_startAnew_156 : decode cX12_startAnew 156 = .ok (.putfield 412, 3) := by decide +kernel
theorem dX12_startAnew_159 : decode cX12_startAnew 159 = .ok (.aload_n 0, 1) := by decide +kernel
theorem dX12_startAnew_160 : decode cX12_startAnew 160 = .ok (.iconst 0, 1) := by decide +kernel
theorem dX12_startAnew_161 : decode cX12_startAnew 161 = .ok (.putfield 415, 3) := by decide +kernel
theorem dX12_startAnew_164 : decode cX12_startAnew 164 = .ok (.aload_n 0, 1) := by decide +kernel
theorem dX12_startAnew_165 : decode cX12_startAnew 165 = .ok (.iconst 0, 1) := by decide +kernel
theorem dX12_startAnew_166 : decode cX12_startAnew 166 = .ok (.putfield 418, 3) := by decide +kernel
theorem dX12_startAnew_169 : decode cX12_startAnew 169 = .ok (.iconst 0, 1) := by decide +kernel
theorem dX12_startAnew_170 : decode cX12_startAnew 170 = .ok (.istore_n 1, 1) := by decide +kernel
theorem dX12_startAnew_171 : decode cX12_startAnew 171 = .ok (.iload_n 1, 1) := by decide +kernel
theorem dX12_startAnew_172 : decode cX12_startAnew 172 = .ok (.iconst 3, 1) := by decide +kernel
theorem dX12_startAnew_173 : decode cX12_startAnew 173 = .ok (.if_icmp .ge 16, 3) := by decide +kernel
theorem dX12_startAnew_176 : decode cX12_startAnew 176 = .ok (.aload_n 0, 1) := by decide +kernel
theorem dX12_startAnew_177 : decode cX12_startAnew 177 = .ok (.getfield 164, 3) := by decide +kernel
theorem dX12_startAnew_180 : decode cX12_startAnew 180 = .ok (.iload_n 1, 1) := by decide +kernel
theorem dX12_startAnew_181 : decode cX12_startAnew 181 = .ok (.iconst 0, 1) := by decide +kernel
theorem dX12_startAnew_182 : decode cX12_startAnew 182 = .ok (.bastore, 1) := by decide +kernel
theorem dX12_startAnew_183 : decode cX12_startAnew 183 = .ok (.iinc 1 1, 3) := by decide +kernel
theorem dX12_startAnew_186 : decode cX12_startAnew 186 = .ok (.goto (-15), 3) := by decide +kernel
theorem dX12_startAnew_189 : decode cX12_startAnew 189 = .ok (.return_, 1) := by decide +kernel
theorem dX12_sign_0 : decode cX12_sign 0 = .ok (.iload_n 1, 1) := by decide +kernel
theorem dX12_sign_1 : decode cX12_sign 1 = .ok (.aload_n 0, 1) := by decide +kernel
theorem dX12_sign_2 : decode cX12_sign 2 = .ok (.getfield 173, 3) := by decide +kernel
theorem dX12_sign_5 : decode cX12_sign 5 = .ok (.if_icmp .ge 16, 3) := by decide +kernel
theorem dX12_sign_21 : decode cX12_sign 21 = .ok (.iconst 0, 1) := by decide +kernel
theorem dX12_sign_22 : decode cX12_sign 22 = .ok (.ireturn, 1) := by decide +kernel
theorem dX12_isGood_0 : decode cX12_isGood 0 = .ok (.aload_n 0, 1) := by decide +kernel
theorem dX12_isGood_1 : decode cX12_isGood 1 = .ok (.getfield 176, 3) := by decide +kernel
theorem dX12_isGood_4 : decode cX12_isGood 4 = .ok (.ifCond .ne 7, 3) := by decide +kernel
theorem dX12_isGood_7 : decode cX12_isGood 7 = .ok (.iconst 1, 1) := by decide +kernel
theorem dX12_isGood_8 : decode cX12_isGood 8 = .ok (.goto 4, 3) := by decide +kernel
theorem dX12_isGood_12 : decode cX12_isGood 12 = .ok (.ireturn, 1) := by decide +kernel
theorem dX12_goOn_0 : decode cX12_goOn 0 = .ok (.aload_n 0, 1) := by decide +kernel
theorem dX12_goOn_1 : decode cX12_goOn 1 = .ok (.aload_n 0, 1) := by decide +kernel
theorem dX12_goOn_2 : decode cX12_goOn 2 = .ok (.getfield 213, 3) := by decide +kernel
theorem dX12_goOn_5 : decode cX12_goOn 5 = .ok (.putfield 216, 3) := by decide +kernel
theorem dX12_goOn_8 : decode cX12_goOn 8 = .ok (.aload_n 0, 1) := by decide +kernel
theorem dX12_goOn_9 : decode cX12_goOn 9 = .ok (.getfield 216, 3) := by decide +kernel
theorem dX12_goOn_12 : decode cX12_goOn 12 = .ok (.aload_n 0, 1) := by decide +kernel
theorem dX12_goOn_13 : decode cX12_goOn 13 = .ok (.getfield 173, 3) := by decide +kernel
theorem dX12_goOn_16 : decode cX12_goOn 16 = .ok (.if_icmp .ge 42, 3) := by decide +kernel
theorem dX12_goOn_58 : decode cX12_goOn 58 = .ok (.aload_n 0, 1) := by decide +kernel
theorem dX12_goOn_59 : decode cX12_goOn 59 = .ok (.aload_n 0, 1) := by decide +kernel
theorem dX12_goOn_60 : decode cX12_goOn 60 = .ok (.getfield 216, 3) := by decide +kernel
theorem dX12_goOn_63 : decode cX12_goOn 63 = .ok (.invokevirtual 219, 3) := by decide +kernel
theorem dX12_goOn_66 : decode cX12_goOn 66 = .ok (.istore_n 1, 1) := by decide +kernel
theorem dX12_goOn_67 : decode cX12_goOn 67 = .ok (.aload_n 0, 1) := by decide +kernel
theorem dX12_goOn_68 : decode cX12_goOn 68 = .ok (.aload_n 0, 1) := by decide +kernel
theorem dX12_goOn_69 : decode cX12_goOn 69 = .ok (.getfield 216, 3) := by decide +kernel
theorem dX12_goOn_72 : decode cX12_goOn 72 = .ok (.iconst 1, 1) := by decide +kernel
theorem dX12_goOn_73 : decode cX12_goOn 73 = .ok (.iadd, 1) := by decide +kernel
theorem dX12_goOn_74 : decode cX12_goOn 74 = .ok (.putfield 213, 3) := by decide +kernel
theorem dX12_goOn_77 : decode cX12_goOn 77 = .ok (.aload_n 0, 1) := by decide +kernel
theorem dX12_goOn_78 : decode cX12_goOn 78 = .ok (.getfield 216, 3) := by decide +kernel
theorem dX12_goOn_81 : decode cX12_goOn 81 = .ok (.aload_n 0, 1) := by decide +kernel
theorem dX12_goOn_82 : decode cX12_goOn 82 = .ok (.getfield 173, 3) := by decide +kernel
theorem dX12_goOn_85 : decode cX12_goOn 85 = .ok (.if_icmp .lt 27, 3) := by decide +kernel
theorem dX12_goOn_88 : decode cX12_goOn 88 = .ok (.aload_n 0, 1) := by decide +kernel
theorem dX12_goOn_89 : decode cX12_goOn 89 = .ok (.iconst 0, 1) := by decide +kernel
theorem dX12_goOn_90 : decode cX12_goOn 90 = .ok (.putfield 223, 3) := by decide +kernel
theorem dX12_goOn_93 : decode cX12_goOn 93 = .ok (.aload_n 0, 1) := by decide +kernel
theorem dX12_goOn_94 : decode cX12_goOn 94 = .ok (.aload_n 0, 1) := by decide +kernel
theorem dX12_goOn_95 : decode cX12_goOn 95 = .ok (.getfield 173, 3) := by decide +kernel
theorem dX12_goOn_98 : decode cX12_goOn 98 = .ok (.putfield 216, 3) := by decide +kernel
theorem dX12_goOn_101 : decode cX12_goOn 101 = .ok (.aload_n 0, 1) := by decide +kernel
theorem dX12_goOn_102 : decode cX12_goOn 102 = .ok (.aload_n 0, 1) := by decide +kernel
theorem dX12_goOn_103 : decode cX12_goOn 103 = .ok (.getfield 173, 3) := by decide +kernel
theorem dX12_goOn_106 : decode cX12_goOn 106 = .ok (.putfield 213, 3) := by decide +kernel
theorem dX12_goOn_109 : decode cX12_goOn 109 = .ok (.goto 268, 3) := by decide +kernel
theorem dX12_goOn_377 : decode cX12_goOn 377 = .ok (.return_, 1) := by decide +kernel
theorem dX12_house_0 : decode cX12_house 0 = .ok (.aload_n 0, 1) := by decide +kernel
theorem dX12_house_1 : decode cX12_house 1 = .ok (.iconst 0, 1) := by decide +kernel
theorem dX12_house_2 : decode cX12_house 2 = .ok (.putfield 176, 3) := by decide +kernel
theorem dX12_house_5 : decode cX12_house 5 = .ok (.aload_n 0, 1) := by decide +kernel
theorem dX12_house_6 : decode cX12_house 6 = .ok (.iconst (-1), 1) := by decide +kernel
theorem dX12_house_7 : decode cX12_house 7 = .ok (.putfield 16, 3) := by decide +kernel
theorem dX12_house_10 : decode cX12_house 10 = .ok (.aload_n 0, 1) := by decide +kernel
theorem dX12_house_11 : decode cX12_house 11 = .ok (.aload_n 0, 1) := by decide +kernel
theorem dX12_house_12 : decode cX12_house 12 = .ok (.getfield 277, 3) := by decide +kernel
theorem dX12_house_15 : decode cX12_house 15 = .ok (.putfield 173, 3) := by decide +kernel
theorem dX12_house_18 : decode cX12_house 18 = .ok (.iconst 0, 1) := by decide +kernel
theorem dX12_house_19 : decode cX12_house 19 = .ok (.istore_n 1, 1) := by decide +kernel
theorem dX12_house_20 : decode cX12_house 20 = .ok (.iload_n 1, 1) := by decide +kernel
theorem dX12_house_21 : decode cX12_house 21 = .ok (.aload_n 0, 1) := by decide +kernel
theorem dX12_house_22 : decode cX12_house 22 = .ok (.getfield 173, 3) := by decide +kernel
theorem dX12_house_25 : decode cX12_house 25 = .ok (.if_icmp .ge 21, 3) := by decide +kernel
theorem dX12_house_46 : decode cX12_house 46 = .ok (.aload_n 0, 1) := by decide +kernel
theorem dX12_house_47 : decode cX12_house 47 = .ok (.iconst 0, 1) := by decide +kernel
theorem dX12_house_48 : decode cX12_house 48 = .ok (.putfield 277, 3) := by decide +kernel
theorem dX12_house_51 : decode cX12_house 51 = .ok (.aload_n 0, 1) := by decide +kernel
theorem dX12_house_52 : decode cX12_house 52 = .ok (.iconst 0, 1) := by decide +kernel
theorem dX12_house_53 : decode cX12_house 53 = .ok (.putfield 213, 3) := by decide +kernel
theorem dX12_house_56 : decode cX12_house 56 = .ok (.aload_n 0, 1) := by decide +kernel
theorem dX12_house_57 : decode cX12_house 57 = .ok (.iconst 1, 1) := by decide +kernel
theorem dX12_house_58 : decode cX12_house 58 = .ok (.aload_n 0, 1) := by decide +kernel
theorem dX12_house_59 : decode cX12_house 59 = .ok (.getfield 280, 3) := by decide +kernel
theorem dX12_house_62 : decode cX12_house 62 = .ok (.isub, 1) := by decide +kernel
theorem dX12_house_63 : decode cX12_house 63 = .ok (.putfield 271, 3) := by decide +kernel
theorem dX12_house_66 : decode cX12_house 66 = .ok (.aload_n 0, 1) := by decide +kernel
theorem dX12_house_67 : decode cX12_house 67 = .ok (.invokevirtual 167, 3) := by decide +kernel
theorem dX12_house_70 : decode cX12_house 70 = .ok (.aload_n 0, 1) := by decide +kernel
theorem dX12_house_71 : decode cX12_house 71 = .ok (.invokevirtual 255, 3) := by decide +kernel
theorem dX12_house_74 : decode cX12_house 74 = .ok (.aload_n 0, 1) := by decide +kernel
theorem dX12_house_75 : decode cX12_house 75 = .ok (.invokevirtual 251, 3) := by decide +kernel
theorem dX12_house_78 : decode cX12_house 78 = .ok (.ifCond .eq 17, 3) := by decide +kernel
theorem dX12_house_81 : decode cX12_house 81 = .ok (.aload_n 0, 1) := by decide +kernel
theorem dX12_house_82 : decode cX12_house 82 = .ok (.getfield 223, 3) := by decide +kernel
theorem dX12_house_85 : decode cX12_house 85 = .ok (.ifCond .eq 10, 3) := by decide +kernel
theorem dX12_house_95 : decode cX12_house 95 = .ok (.aload_n 0, 1) := by decide +kernel
theorem dX12_house_96 : decode cX12_house 96 = .ok (.invokevirtual 251, 3) := by decide +kernel
theorem dX12_house_99 : decode cX12_house 99 = .ok (.ifCond .ne 5, 3) := by decide +kernel
theorem dX12_house_104 : decode cX12_house 104 = .ok (.aload_n 0, 1) := by decide +kernel
theorem dX12_house_105 : decode cX12_house 105 = .ok (.aload_n 0, 1) := by decide +kernel
theorem dX12_house_106 : decode cX12_house 106 = .ok (.getfield 271, 3) := by decide +kernel
theorem dX12_house_109 : decode cX12_house 109 = .ok (.putfield 280, 3) := by decide +kernel
theorem dX12_house_112 : decode cX12_house 112 = .ok (.aload_n 0, 1) := by decide +kernel
theorem dX12_house_113 : decode cX12_house 113 = .ok (.invokevirtual 170, 3) := by decide +kernel
theorem dX12_house_116 : decode cX12_house 116 = .ok (.aload_n 0, 1) := by decide +kernel
theorem dX12_house_117 : decode cX12_house 117 = .ok (.getfield 20, 3) := by decide +kernel
theorem dX12_house_120 : decode cX12_house 120 = .ok (.aload_n 0, 1) := by decide +kernel
theorem dX12_house_121 : decode cX12_house 121 = .ok (.getfield 280, 3) := by decide +kernel
theorem dX12_house_124 : decode cX12_house 124 = .ok (.iaload, 1) := by decide +kernel
theorem dX12_house_125 : decode cX12_house 125 = .ok (.ireturn, 1) := by decide +kernel
set_option maxRecDepth 20000 in
theorem ggX12_way_X12_areRooms : GoodIn wsX12_way wsX12_areRooms := goodIn_r _ [6, 7, 8, 9, 5, 10, 11, 12, 13, 14, 15, 16, 17, 18, 19, 53, 54, 55, 56, 57, 58, 59, 60, 61, 62, 63, 64, 65, 66, 67, 68, 69, 70, 71, 72, 73, 74, 75, 76, 77, 78, 79, 80, 81, 82, 83, 84, 85, 86, 87, 88, 89, 90, 91, 92, 93, 94, 95, 96, 97, 98, 99, 100, 101, 102, 103, 104, 105, 106, 107, 108, 109, 110, 111, 112, 113, 114, 115, 116, 117, 118, 119, 120, 121, 122, 123] (by decide +kernel) (by decide +kernel)
set_option maxRecDepth 20000 in
theorem gX12_way_X12_areRooms : GoodIn wsX12_way (wsV RX12 445 RX12 yX12_areRooms wsX12_areRooms) := goodIn_app (goodIn_of _ (by decide +kernel)) ggX12_way_X12_areRooms
set_option maxRecDepth 20000 in
theorem ggX12_quiet_X12_areRooms : GoodIn wsX12_quiet wsX12_areRooms := goodIn_r _ [7, 8, 9, 10, 6, 11, 12, 13, 14, 15, 16, 17, 18, 19, 20, 54, 55, 56, 57, 58, 59, 60, 61, 62, 63, 64, 65, 66, 67, 68, 69, 70, 71, 72, 73, 74, 75, 76, 77, 78, 79, 80, 81, 82, 83, 84, 85, 86, 87, 88, 89, 90, 91, 92, 93, 94, 95, 96, 97, 98, 99, 100, 101, 102, 103, 104, 105, 106, 107, 108, 109, 110, 111, 112, 113, 114, 115, 116, 117, 118, 119, 120, 121, 122, 123, 124] (by decide +kernel) (by decide +kernel)
set_option maxRecDepth 20000 in
theorem gX12_quiet_X12_areRooms : GoodIn wsX12_quiet (wsV RX12 445 RX12 yX12_areRooms wsX12_areRooms) := goodIn_app (goodIn_of _ (by decide +kernel)) ggX12_quiet_X12_areRooms
set_option maxRecDepth 20000 in
theorem ggX12_tour_X12_isRoom : GoodIn wsX12_tour wsX12_isRoom := goodIn_r _ [8, 9, 10, 11, 7, 12, 13, 14, 15, 16, 17, 37, 38, 39, 40, 41, 42, 43, 44, 45, 46, 47, 48, 49, 50, 51, 52, 53, 54, 55, 56, 57, 58, 59, 60, 61, 62, 63, 64, 65, 66, 67, 68, 69, 70, 71, 72, 73, 74, 75, 76, 77, 78, 79, 80, 81, 82, 83, 84, 85, 86, 87, 88, 89, 90, 91, 92, 93, 94, 95, 96, 97, 98, 99, 100, 101, 102, 103, 104, 105, 106, 107] (by decide +kernel) (by decide +kernel)
set_option maxRecDepth 20000 in
theorem gX12_tour_X12_isRoom : GoodIn wsX12_tour (wsV RX12 385 RX12 yX12_isRoom wsX12_isRoom) := goodIn_app (goodIn_of _ (by decide +kernel)) ggX12_tour_X12_isRoom
set_option maxRecDepth 20000 in
theorem ggX12_later_X12_isIn : GoodIn wsX12_later wsX12_isIn := goodIn_r _ [6] (by decide +kernel) (by decide +kernel)
set_option maxRecDepth 20000 in
theorem gX12_later_X12_isIn : GoodIn wsX12_later (va_wsS RX12 381 yX12_isIn wsX12_isIn) := goodIn_app (goodIn_of _ (by decide +kernel)) ggX12_later_X12_isIn
set_option maxRecDepth 20000 in
theorem ggX12_told_X12_isIn : GoodIn wsX12_told wsX12_isIn := goodIn_r _ [12] (by decide +kernel) (by decide +kernel)
set_option maxRecDepth 20000 in
theorem gX12_told_X12_isIn : GoodIn wsX12_told (va_wsS RX12 381 yX12_isIn wsX12_isIn) := goodIn_app (goodIn_of _ (by decide +kernel)) ggX12_told_X12_isIn
set_option maxRecDepth 20000 in
theorem ggX12_heard_X12_isIn : GoodIn wsX12_heard wsX12_isIn := goodIn_r _ [4] (by decide +kernel) (by decide +kernel)
set_option maxRecDepth 20000 in
theorem gX12_heard_X12_isIn : GoodIn wsX12_heard (va_wsS RX12 381 yX12_isIn wsX12_isIn) := goodIn_app (goodIn_of _ (by decide +kernel)) ggX12_heard_X12_isIn
set_option maxRecDepth 20000 in
theorem ggX12_heard_X12_told : GoodIn wsX12_heard wsX12_told := goodIn_r _ [8, 9, 10, 11, 12, 13, 14, 15, 16, 1, 2, 3, 4, 17, 18, 19, 20, 21, 22, 23, 24, 25, 26, 27, 28, 29, 30, 31, 32, 33, 34, 35, 36, 37, 38, 39, 40, 41, 42, 43, 44, 45, 46, 47, 48, 49, 50, 51, 52, 53, 54, 55, 56, 57, 58, 59, 60, 61, 62, 63, 64, 65, 66, 67, 68, 69, 70, 71, 72, 73, 74, 75, 76, 77, 78, 79, 80, 81, 82, 83, 84, 85, 86, 87] (by decide +kernel) (by decide +kernel)
set_option maxRecDepth 20000 in
theorem gX12_heard_X12_told : GoodIn wsX12_heard (wsV RX12 508 RX12 yX12_told wsX12_told) := goodIn_app (goodIn_of _ (by decide +kernel)) ggX12_heard_X12_told
set_option maxRecDepth 20000 in
theorem ggX12_trades_X12_many : GoodIn wsX12_trades wsX12_many := goodIn_r _ [6, 7, 8, 23, 24, 25, 26, 27, 28, 29, 30, 31, 32, 33, 34, 35, 36, 37, 38, 39, 40, 41, 42, 43, 44, 45, 46, 47, 48, 49, 50, 51, 52, 53, 54, 55, 56, 57, 58, 59, 60, 61, 62, 63, 64, 65, 66, 67, 68, 69, 70, 71, 72, 73, 74, 75, 76, 77, 78, 79, 80, 81, 82, 83, 84, 85, 86, 87, 88, 89, 90, 91, 92, 93] (by decide +kernel) (by decide +kernel)
set_option maxRecDepth 20000 in
theorem gX12_trades_X12_many : GoodIn wsX12_trades (wsV RX12 388 RX12 yX12_many wsX12_many) := goodIn_app (goodIn_of _ (by decide +kernel)) ggX12_trades_X12_many
set_option maxRecDepth 20000 in
theorem ggX12_goDay_X12_many : GoodIn wsX12_goDay wsX12_many := goodIn_r _ [6, 7, 8, 53, 54, 55, 56, 57, 58, 59, 60, 61, 62, 63, 64, 65, 66, 67, 68, 69, 70, 71, 72, 73, 74, 75, 76, 77, 78, 79, 80, 81, 82, 83, 84, 85, 86, 87, 88, 89, 90, 91, 92, 93, 94, 95, 96, 97, 98, 99, 100, 101, 102, 103, 104, 105, 106, 107, 108, 109, 110, 111, 112, 113, 114, 115, 116, 117, 118, 119, 120, 121, 122, 123] (by decide +kernel) (by decide +kernel)
set_option maxRecDepth 20000 in
theorem gX12_goDay_X12_many : GoodIn wsX12_goDay (wsV RX12 388 RX12 yX12_many wsX12_many) := goodIn_app (goodIn_of _ (by decide +kernel)) ggX12_goDay_X12_many
set_option maxRecDepth 20000 in
theorem ggX12_day_X12_goDay : GoodIn wsX12_day wsX12_goDay := goodIn_r _ [13, 1, 14, 15, 16, 5, 17, 18, 19, 20, 21, 22, 23, 24, 25, 26, 27, 28, 29, 30, 31, 32, 33, 34, 35, 36, 37, 38, 39, 40, 41, 42, 43, 44, 45, 46, 47, 48, 49, 50, 51, 52, 53, 54, 55, 56, 57, 58, 59, 60, 61, 62, 63, 64, 65, 66, 67, 68, 69, 70, 71, 72, 73, 74, 75, 76, 77, 78, 79, 80, 81, 82, 83, 84, 85, 86, 87, 88, 89, 90, 91, 92, 93, 94, 95, 96, 97, 98, 99, 100, 101, 102, 103, 104, 105, 106, 107, 108, 109, 110, 111, 112, 113, 114, 115, 116, 117, 118, 119, 120, 121, 122, 123, 124, 125, 126, 127, 128, 129, 130, 131, 132, 133, 134] (by decide +kernel) (by decide +kernel)
set_option maxRecDepth 20000 in
theorem gX12_day_X12_goDay : GoodIn wsX12_day (wsV RX12 454 RX12 yX12_goDay wsX12_goDay) := goodIn_app (goodIn_of _ (by decide +kernel)) ggX12_day_X12_goDay
set_option maxRecDepth 20000 in
theorem ggX12_day_X12_keepAct : GoodIn wsX12_day wsX12_keepAct := goodIn_r _ [6, 7, 8, 1, 9, 64, 65, 66, 67, 68, 69, 70, 71, 72, 73, 74, 75, 76, 77, 78, 79, 80, 81, 82, 83, 84, 85, 86, 87, 88, 89, 90, 91, 92, 93, 94, 95, 96, 97, 98, 99, 100, 101, 102, 103, 104, 105, 106, 107, 108, 109, 110, 111, 112, 113, 114, 115, 116, 117, 118, 119, 120, 121, 122, 123, 124, 125, 126, 127, 128, 129, 130, 131, 132, 133, 134] (by decide +kernel) (by decide +kernel)
set_option maxRecDepth 20000 in
theorem gX12_day_X12_keepAct : GoodIn wsX12_day (wsV RX12 448 RX12 yX12_keepAct wsX12_keepAct) := goodIn_app (goodIn_of _ (by decide +kernel)) ggX12_day_X12_keepAct
set_option maxRecDepth 20000 in
theorem ggX12_image_X12_isIn : GoodIn wsX12_image wsX12_isIn := goodIn_r _ [7] (by decide +kernel) (by decide +kernel)
set_option maxRecDepth 20000 in
theorem gX12_image_X12_isIn : GoodIn wsX12_image (va_wsS RX12 381 yX12_isIn wsX12_isIn) := goodIn_app (goodIn_of _ (by decide +kernel)) ggX12_image_X12_isIn
set_option maxRecDepth 20000 in
theorem ggX12_layTable_X12_places : GoodIn wsX12_layTable wsX12_places := goodIn_r _ [9, 10, 3, 32, 33, 34, 35, 36, 37, 38, 39, 40, 41, 42, 43, 44, 45, 46, 47, 48, 49, 50, 51, 52, 53, 54, 55, 56, 57, 58, 59, 60, 61, 62, 63, 64, 65, 66, 67, 68, 69, 70, 71, 72, 73, 74, 75, 76, 77, 78, 79, 80, 81, 82, 83, 84, 85, 86, 87, 88, 89, 90, 91, 92, 93, 94, 95, 96, 97, 98, 99, 100, 101, 102] (by decide +kernel) (by decide +kernel)
set_option maxRecDepth 20000 in
theorem gX12_layTable_X12_places : GoodIn wsX12_layTable (wsV RX12 378 RX12 yX12_places wsX12_places) := goodIn_app (goodIn_of _ (by decide +kernel)) ggX12_layTable_X12_places
set_option maxRecDepth 20000 in
theorem ggX12_startAnew_X12_layTable : GoodIn wsX12_startAnew wsX12_layTable := goodIn_r _ [21, 22, 23, 3, 24, 25, 26, 27, 15, 28, 29, 30, 31, 32, 33, 34, 35, 36, 37, 38, 39, 40, 41, 42, 43, 44, 45, 46, 47, 48, 49, 50, 51, 52, 53, 54, 55, 56, 57, 58, 59, 60, 61, 62, 63, 64, 65, 66, 67, 68, 69, 70, 71, 72, 73, 74, 75, 76, 77, 78, 79, 80, 81, 82, 83, 84, 85, 86, 87, 88, 89, 90, 91, 92, 93, 94, 95, 96, 97, 98, 99, 100, 101, 102, 103, 104, 105, 106, 107, 108, 109, 110, 111, 112, 113, 114, 115, 116, 117, 118, 119, 120, 121] (by decide +kernel) (by decide +kernel)
set_option maxRecDepth 20000 in
theorem gX12_startAnew_X12_layTable : GoodIn wsX12_startAnew (wsV RX12 406 RX12 yX12_layTable wsX12_layTable) := goodIn_app (goodIn_of _ (by decide +kernel)) ggX12_startAnew_X12_layTable
set_option maxRecDepth 20000 in
theorem ggX12_startAnew_X12_many : GoodIn wsX12_startAnew wsX12_many := goodIn_r _ [16, 17, 3, 51, 52, 53, 54, 55, 56, 57, 58, 59, 60, 61, 62, 63, 64, 65, 66, 67, 68, 69, 70, 71, 72, 73, 74, 75, 76, 77, 78, 79, 80, 81, 82, 83, 84, 85, 86, 87, 88, 89, 90, 91, 92, 93, 94, 95, 96, 97, 98, 99, 100, 101, 102, 103, 104, 105, 106, 107, 108, 109, 110, 111, 112, 113, 114, 115, 116, 117, 118, 119, 120, 121] (by decide +kernel) (by decide +kernel)
set_option maxRecDepth 20000 in
theorem gX12_startAnew_X12_many : GoodIn wsX12_startAnew (wsV RX12 388 RX12 yX12_many wsX12_many) := goodIn_app (goodIn_of _ (by decide +kernel)) ggX12_startAnew_X12_many
set_option maxRecDepth 20000 in
theorem ggX12_goOn_X12_sign : GoodIn wsX12_goOn wsX12_sign := goodIn_r _ [11, 3, 12, 42, 43, 44, 45, 46, 47, 48, 49, 50, 51, 52, 53, 54, 55, 56, 57, 58, 59, 60, 61, 62, 63, 64, 65, 66, 67, 68, 69, 70, 71, 72, 73, 74, 75, 76, 77, 78, 79, 80, 81, 82, 83, 84, 85, 86, 87, 88, 89, 90, 91, 92, 93, 94, 95, 96, 97, 98, 99, 100, 101, 102, 103, 104, 105, 106, 107, 108, 109, 110, 111, 112] (by decide +kernel) (by decide +kernel)
set_option maxRecDepth 20000 in
theorem gX12_goOn_X12_sign : GoodIn wsX12_goOn (wsV RX12 219 RX12 yX12_sign wsX12_sign) := goodIn_app (goodIn_of _ (by decide +kernel)) ggX12_goOn_X12_sign
set_option maxRecDepth 20000 in
theorem ggX12_house_X12_clearBank : GoodIn wsX12_house wsX12_clearBank := goodIn_r _ [16, 11, 9, 17, 18, 19, 20, 21, 22, 23, 238, 239, 240, 241, 242, 243, 244, 245, 246, 247, 248, 249, 250, 251, 252, 253, 254, 255, 256, 257, 258, 259, 260, 261, 262, 263, 264, 265, 266, 267, 268, 269, 270, 271, 272, 273, 274, 275, 276, 277, 278, 279, 280, 281, 282, 283, 284, 285, 286, 287, 288, 289, 290, 291, 292, 293, 294, 295, 296, 297, 298, 299, 300, 301, 302, 303, 304, 305, 306, 307, 308] (by decide +kernel) (by decide +kernel)
set_option maxRecDepth 20000 in
theorem gX12_house_X12_clearBank : GoodIn wsX12_house (wsV RX12 167 RX12 yX12_clearBank wsX12_clearBank) := goodIn_app (goodIn_of _ (by decide +kernel)) ggX12_house_X12_clearBank
set_option maxRecDepth 20000 in
theorem ggX12_house_X12_goOn : GoodIn wsX12_house wsX12_goOn := goodIn_r _ [27, 7, 28, 4, 10, 29, 30, 31, 32, 33, 15, 34, 5, 35, 36, 37, 38, 39, 40, 41, 42, 43, 44, 45, 46, 47, 48, 49, 50, 51, 52, 53, 54, 55, 56, 57, 58, 59, 60, 61, 62, 63, 238, 239, 240, 241, 242, 243, 244, 245, 246, 247, 248, 249, 250, 251, 252, 253, 254, 255, 256, 257, 258, 259, 260, 261, 262, 263, 264, 265, 266, 267, 268, 269, 270, 271, 272, 273, 274, 275, 276, 277, 278, 279, 280, 281, 282, 283, 284, 285, 286, 287, 288, 289, 290, 291, 292, 293, 294, 295, 296, 297, 298, 299, 300, 301, 302, 303, 304, 305, 306, 307, 308] (by decide +kernel) (by decide +kernel)
set_option maxRecDepth 20000 in
theorem gX12_house_X12_goOn : GoodIn wsX12_house (wsV RX12 255 RX12 yX12_goOn wsX12_goOn) := goodIn_app (goodIn_of _ (by decide +kernel)) ggX12_house_X12_goOn
set_option maxRecDepth 20000 in
theorem ggX12_house_X12_isGood : GoodIn wsX12_house wsX12_isGood := goodIn_r _ [67, 1, 238, 239, 240, 241, 242, 243, 244, 245, 246, 247, 248, 249, 250, 251, 252, 253, 254, 255, 256, 257, 258, 259, 260, 261, 262, 263, 264, 265, 266, 267, 268, 269, 270, 271, 272, 273, 274, 275, 276, 277, 278, 279, 280, 281, 282, 283, 284, 285, 286, 287, 288, 289, 290, 291, 292, 293, 294, 295, 296, 297, 298, 299, 300, 301, 302, 303, 304, 305, 306, 307, 308] (by decide +kernel) (by decide +kernel)
set_option maxRecDepth 20000 in
theorem gX12_house_X12_isGood : GoodIn wsX12_house (wsV RX12 251 RX12 yX12_isGood wsX12_isGood) := goodIn_app (goodIn_of _ (by decide +kernel)) ggX12_house_X12_isGood
set_option maxRecDepth 20000 in
theorem ggX12_house_X12_startAnew : GoodIn wsX12_house wsX12_startAnew := goodIn_r _ [198, 199, 137, 8, 138, 139, 20, 200, 201, 202, 203, 204, 205, 206, 207, 15, 208, 18, 209, 210, 211, 212, 213, 17, 214, 215, 216, 217, 218, 11, 219, 220, 221, 222, 223, 224, 225, 226, 227, 228, 229, 122, 230, 231, 232, 233, 123, 234, 235, 236, 237, 238, 239, 240, 241, 242, 243, 244, 245, 246, 247, 248, 249, 250, 251, 252, 253, 254, 255, 256, 257, 258, 259, 260, 261, 262, 263, 264, 265, 266, 267, 268, 269, 270, 271, 272, 273, 274, 275, 276, 277, 278, 279, 280, 281, 282, 283, 284, 285, 286, 287, 288, 289, 290, 291, 292, 293, 294, 295, 296, 297, 298, 299, 300, 301, 302, 303, 304, 305, 306, 307, 308] (by decide +kernel) (by decide +kernel)
set_option maxRecDepth 20000 in
theorem gX12_house_X12_startAnew : GoodIn wsX12_house (wsV RX12 170 RX12 yX12_startAnew wsX12_startAnew) := goodIn_app (goodIn_of _ (by decide +kernel)) ggX12_house_X12_startAnew
theorem iw_X12_feed_X12 : ∀ w ∈ wsX120, w ∈ wsX12_feed := fun _ h => List.mem_cons_of_mem _ (List.mem_append_right _ h)
theorem iw_X12_end_X12 : ∀ w ∈ wsX120, w ∈ wsX12_end := fun _ h => List.mem_cons_of_mem _ (List.mem_append_right _ h)
theorem iw_X12_way_X12 : ∀ w ∈ wsX120, w ∈ wsX12_way := fun _ h => List.mem_cons_of_mem _ (List.mem_append_right _ h)
theorem iw_X12_quiet_X12 : ∀ w ∈ wsX120, w ∈ wsX12_quiet := fun _ h => List.mem_cons_of_mem _ (List.mem_append_right _ h)
theorem iw_X12_tour_X12 : ∀ w ∈ wsX120, w ∈ wsX12_tour := fun _ h => List.mem_cons_of_mem _ (List.mem_append_right _ h)
theorem iw_X12_later_X12 : ∀ w ∈ wsX120, w ∈ wsX12_later := fun _ h => List.mem_cons_of_mem _ (List.mem_append_right _ h)
theorem iw_X12_told_X12 : ∀ w ∈ wsX120, w ∈ wsX12_told := fun _ h => List.mem_cons_of_mem _ (List.mem_append_right _ h)
theorem iw_X12_trades_X12 : ∀ w ∈ wsX120, w ∈ wsX12_trades := fun _ h => List.mem_cons_of_mem _ (List.mem_append_right _ h)
theorem iw_X12_keepAct_X12 : ∀ w ∈ wsX120, w ∈ wsX12_keepAct := fun _ h => List.mem_cons_of_mem _ (List.mem_append_right _ h)
theorem iw_X12_goDay_X12 : ∀ w ∈ wsX120, w ∈ wsX12_goDay := fun _ h => List.mem_cons_of_mem _ (List.mem_append_right _ h)
theorem iw_X12_day_X12 : ∀ w ∈ wsX120, w ∈ wsX12_day := fun _ h => List.mem_cons_of_mem _ (List.mem_append_right _ h)
theorem iw_X12_image_X12 : ∀ w ∈ wsX120, w ∈ wsX12_image := fun _ h => List.mem_cons_of_mem _ (List.mem_append_right _ h)
theorem iw_X12_clearBank_X12 : ∀ w ∈ wsX120, w ∈ wsX12_clearBank := fun _ h => List.mem_cons_of_mem _ (List.mem_append_right _ h)
theorem iw_X12_layTable_X12 : ∀ w ∈ wsX120, w ∈ wsX12_layTable := fun _ h => List.mem_cons_of_mem _ (List.mem_append_right _ h)
theorem iw_X12_startAnew_X12 : ∀ w ∈ wsX120, w ∈ wsX12_startAnew := fun _ h => List.mem_cons_of_mem _ (List.mem_append_right _ h)
theorem iw_X12_sign_X12 : ∀ w ∈ wsX120, w ∈ wsX12_sign := fun _ h => List.mem_cons_of_mem _ (List.mem_append_right _ h)
theorem iw_X12_isGood_X12 : ∀ w ∈ wsX120, w ∈ wsX12_isGood := fun _ h => List.mem_cons_of_mem _ (List.mem_append_right _ h)
theorem iw_X12_goOn_X12 : ∀ w ∈ wsX120, w ∈ wsX12_goOn := fun _ h => List.mem_cons_of_mem _ (List.mem_append_right _ h)
theorem iw_X12_house_X12 : ∀ w ∈ wsX120, w ∈ wsX12_house := fun _ h => List.mem_cons_of_mem _ (List.mem_append_right _ h)
