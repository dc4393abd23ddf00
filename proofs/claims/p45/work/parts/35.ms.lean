def wsX12_feed : List Cond := .code yX12_feed cX12_feed 8 (some .int) :: ([.fieldLink RX12 277 "SoldHouseModel" "taped" "I", .fieldLink RX12 7 "SoldHouseModel" "tape" "[B"] ++ wsX120)
def wsX12_end : List Cond := .code yX12_end cX12_end 2 (some .int) :: ([.fieldLink RX12 277 "SoldHouseModel" "taped" "I"] ++ wsX120)
def wsX12_about : List Cond := .code yX12_about cX12_about 2 (some .int) :: ([.fieldLink RX12 24 "SoldHouseModel" "doors" "[I", .fieldLink RX12 280 "SoldHouseModel" "bank" "I", .fieldLink RX12 95 "SoldHouseModel" "all" "[I", .fieldLink RX12 409 "SoldHouseModel" "acts" "I", .fieldLink RX12 412 "SoldHouseModel" "undone" "I", .fieldLink RX12 415 "SoldHouseModel" "heards" "I", .fieldLink RX12 505 "SoldHouseModel" "time" "I", .fieldLink RX12 277 "SoldHouseModel" "taped" "I", .fieldLink RX12 30 "SoldHouseModel" "units" "[I", .fieldLink RX12 418 "SoldHouseModel" "laid" "I", .methodLink RX12 378 yX12_places, .instanceMethod yX12_places, .selects RX12 yX12_places yX12_places, .initialized RX12, .code yX12_places cX12_places 1 (some .int), .fieldLink RX12 20 "SoldHouseModel" "rooms" "[I", .methodLink RX12 388 yX12_many, .instanceMethod yX12_many, .selects RX12 yX12_many yX12_many, .code yX12_many cX12_many 1 (some .int), .fieldLink RX12 27 "SoldHouseModel" "things" "[I"] ++ wsX120)
def wsX12_lies : List Cond := .code yX12_lies cX12_lies 2 (some .int) :: ([.fieldLink RX12 418 "SoldHouseModel" "laid" "I", .fieldLink RX12 113 "SoldHouseModel" "laidRow" "[I", .methodLink RX12 381 yX12_isIn, .static yX12_isIn, .initialized RX12, .code yX12_isIn cX12_isIn 3 (some .boolean)] ++ wsX120)
def wsX12_told : List Cond := .code yX12_told cX12_told 5 (some .int) :: ([.fieldLink RX12 415 "SoldHouseModel" "heards" "I", .fieldLink RX12 137 "SoldHouseModel" "hMinute" "[I", .fieldLink RX12 140 "SoldHouseModel" "hCreaks" "[I", .fieldLink RX12 143 "SoldHouseModel" "hRoom" "[I", .fieldLink RX12 146 "SoldHouseModel" "hIs" "[I", .fieldLink RX12 149 "SoldHouseModel" "hTold" "[I", .fieldLink RX12 505 "SoldHouseModel" "time" "I", .fieldLink RX12 152 "SoldHouseModel" "hUntold" "[I", .methodLink RX12 381 yX12_isIn, .static yX12_isIn, .initialized RX12, .code yX12_isIn cX12_isIn 3 (some .boolean)] ++ wsX120)
def wsX12_heard : List Cond := .code yX12_heard cX12_heard 4 (some .int) :: ([.methodLink RX12 381 yX12_isIn, .static yX12_isIn, .initialized RX12, .code yX12_isIn cX12_isIn 3 (some .boolean), .methodLink RX12 508 yX12_told, .instanceMethod yX12_told, .selects RX12 yX12_told yX12_told, .code yX12_told cX12_told 5 (some .int), .fieldLink RX12 415 "SoldHouseModel" "heards" "I", .fieldLink RX12 137 "SoldHouseModel" "hMinute" "[I", .fieldLink RX12 140 "SoldHouseModel" "hCreaks" "[I", .fieldLink RX12 143 "SoldHouseModel" "hRoom" "[I", .fieldLink RX12 146 "SoldHouseModel" "hIs" "[I", .fieldLink RX12 149 "SoldHouseModel" "hTold" "[I", .fieldLink RX12 505 "SoldHouseModel" "time" "I", .fieldLink RX12 152 "SoldHouseModel" "hUntold" "[I"] ++ wsX120)
def wsX12_seen_r1 : List Cond := [Cond.methodLink RX12 385 yX12_isRoom, Cond.instanceMethod yX12_isRoom, Cond.selects RX12 yX12_isRoom yX12_isRoom, Cond.initialized RX12, Cond.code yX12_isRoom cX12_isRoom 2 (some .boolean), Cond.methodLink RX12 378 yX12_places, Cond.instanceMethod yX12_places, Cond.selects RX12 yX12_places yX12_places, Cond.code yX12_places cX12_places 1 (some .int), Cond.fieldLink RX12 20 "SoldHouseModel" "rooms" "[I", Cond.fieldLink RX12 280 "SoldHouseModel" "bank" "I", Cond.methodLink RX12 381 yX12_isIn, Cond.static yX12_isIn, Cond.code yX12_isIn cX12_isIn 3 (some .boolean), Cond.methodLink RX12 508 yX12_told, Cond.instanceMethod yX12_told, Cond.selects RX12 yX12_told yX12_told, Cond.code yX12_told cX12_told 5 (some .int), Cond.fieldLink RX12 415 "SoldHouseModel" "heards" "I", Cond.fieldLink RX12 137 "SoldHouseModel" "hMinute" "[I", Cond.fieldLink RX12 140 "SoldHouseModel" "hCreaks" "[I", Cond.fieldLink RX12 143 "SoldHouseModel" "hRoom" "[I", Cond.fieldLink RX12 146 "SoldHouseModel" "hIs" "[I", Cond.fieldLink RX12 149 "SoldHouseModel" "hTold" "[I"]
def wsX12_seen_r2 : List Cond := [Cond.fieldLink RX12 505 "SoldHouseModel" "time" "I", Cond.fieldLink RX12 152 "SoldHouseModel" "hUntold" "[I"]
def wsX12_seen : List Cond := .code yX12_seen cX12_seen 4 (some .int) :: ((wsX12_seen_r1 ++ wsX12_seen_r2) ++ wsX120)
def wsX12_untell : List Cond := .code yX12_untell cX12_untell 2 (some .boolean) :: ([.fieldLink RX12 415 "SoldHouseModel" "heards" "I", .fieldLink RX12 152 "SoldHouseModel" "hUntold" "[I", .fieldLink RX12 505 "SoldHouseModel" "time" "I", .methodLink RX12 381 yX12_isIn, .static yX12_isIn, .initialized RX12, .code yX12_isIn cX12_isIn 3 (some .boolean)] ++ wsX120)
def wsX12_behind : List Cond := .code yX12_behind cX12_behind 5 (some .int) :: ([.fieldLink RX12 24 "SoldHouseModel" "doors" "[I", .fieldLink RX12 280 "SoldHouseModel" "bank" "I", .methodLink RX12 391 yX12_oneOf, .instanceMethod yX12_oneOf, .selects RX12 yX12_oneOf yX12_oneOf, .initialized RX12, .code yX12_oneOf cX12_oneOf 2 (some .int), .fieldLink RX12 39 "SoldHouseModel" "one" "[I", .methodLink RX12 394 yX12_otherOf, .instanceMethod yX12_otherOf, .selects RX12 yX12_otherOf yX12_otherOf, .code yX12_otherOf cX12_otherOf 2 (some .int), .fieldLink RX12 42 "SoldHouseModel" "other" "[I"] ++ wsX120)
def wsX12_joined_r1 : List Cond := [Cond.methodLink RX12 378 yX12_places, Cond.instanceMethod yX12_places, Cond.selects RX12 yX12_places yX12_places, Cond.initialized RX12, Cond.code yX12_places cX12_places 1 (some .int), Cond.fieldLink RX12 20 "SoldHouseModel" "rooms" "[I", Cond.fieldLink RX12 280 "SoldHouseModel" "bank" "I", Cond.methodLink RX12 397 yX12_has, Cond.static yX12_has, Cond.code yX12_has cX12_has 2 (some .boolean), Cond.methodLink RX12 400 yX12_behind, Cond.instanceMethod yX12_behind, Cond.selects RX12 yX12_behind yX12_behind, Cond.code yX12_behind cX12_behind 5 (some .int), Cond.fieldLink RX12 24 "SoldHouseModel" "doors" "[I", Cond.methodLink RX12 391 yX12_oneOf, Cond.instanceMethod yX12_oneOf, Cond.selects RX12 yX12_oneOf yX12_oneOf, Cond.code yX12_oneOf cX12_oneOf 2 (some .int), Cond.fieldLink RX12 39 "SoldHouseModel" "one" "[I", Cond.methodLink RX12 394 yX12_otherOf, Cond.instanceMethod yX12_otherOf, Cond.selects RX12 yX12_otherOf yX12_otherOf, Cond.code yX12_otherOf cX12_otherOf 2 (some .int)]
def wsX12_joined_r2 : List Cond := [Cond.fieldLink RX12 42 "SoldHouseModel" "other" "[I"]
def wsX12_joined : List Cond := .code yX12_joined cX12_joined 7 (some .int) :: ((wsX12_joined_r1 ++ wsX12_joined_r2) ++ wsX120)
def wsX12_layTable_r1 : List Cond := [Cond.fieldLink RX12 98 "SoldHouseModel" "table" "[I", Cond.fieldLink RX12 24 "SoldHouseModel" "doors" "[I", Cond.fieldLink RX12 280 "SoldHouseModel" "bank" "I", Cond.fieldLink RX12 101 "SoldHouseModel" "nearSide" "[I", Cond.methodLink RX12 378 yX12_places, Cond.instanceMethod yX12_places, Cond.selects RX12 yX12_places yX12_places, Cond.initialized RX12, Cond.code yX12_places cX12_places 1 (some .int), Cond.fieldLink RX12 20 "SoldHouseModel" "rooms" "[I", Cond.methodLink RX12 397 yX12_has, Cond.static yX12_has, Cond.code yX12_has cX12_has 2 (some .boolean), Cond.methodLink RX12 400 yX12_behind, Cond.instanceMethod yX12_behind, Cond.selects RX12 yX12_behind yX12_behind, Cond.code yX12_behind cX12_behind 5 (some .int), Cond.methodLink RX12 391 yX12_oneOf, Cond.instanceMethod yX12_oneOf, Cond.selects RX12 yX12_oneOf yX12_oneOf, Cond.code yX12_oneOf cX12_oneOf 2 (some .int), Cond.fieldLink RX12 39 "SoldHouseModel" "one" "[I", Cond.methodLink RX12 394 yX12_otherOf, Cond.instanceMethod yX12_otherOf]
def wsX12_layTable_r2 : List Cond := [Cond.selects RX12 yX12_otherOf yX12_otherOf, Cond.code yX12_otherOf cX12_otherOf 2 (some .int), Cond.fieldLink RX12 42 "SoldHouseModel" "other" "[I", Cond.methodLink RX12 403 yX12_joined, Cond.instanceMethod yX12_joined, Cond.selects RX12 yX12_joined yX12_joined, Cond.code yX12_joined cX12_joined 7 (some .int)]
def wsX12_layTable : List Cond := .code yX12_layTable cX12_layTable 7 none :: ((wsX12_layTable_r1 ++ wsX12_layTable_r2) ++ wsX120)
def wsX12_doesPart : List Cond := .code yX12_doesPart cX12_doesPart 2 (some .boolean) :: ([.fieldLink RX12 101 "SoldHouseModel" "nearSide" "[I", .methodLink RX12 394 yX12_otherOf, .instanceMethod yX12_otherOf, .selects RX12 yX12_otherOf yX12_otherOf, .initialized RX12, .code yX12_otherOf cX12_otherOf 2 (some .int), .fieldLink RX12 42 "SoldHouseModel" "other" "[I", .fieldLink RX12 280 "SoldHouseModel" "bank" "I", .methodLink RX12 397 yX12_has, .static yX12_has, .code yX12_has cX12_has 2 (some .boolean)] ++ wsX120)
def wsX12_startAnew_r1 : List Cond := [Cond.fieldLink RX12 95 "SoldHouseModel" "all" "[I", Cond.fieldLink RX12 45 "SoldHouseModel" "inTold" "[I", Cond.fieldLink RX12 280 "SoldHouseModel" "bank" "I", Cond.fieldLink RX12 48 "SoldHouseModel" "wasTold" "[I", Cond.fieldLink RX12 51 "SoldHouseModel" "isOurs" "[I", Cond.fieldLink RX12 33 "SoldHouseModel" "draw" "[I", Cond.fieldLink RX12 409 "SoldHouseModel" "acts" "I", Cond.fieldLink RX12 412 "SoldHouseModel" "undone" "I", Cond.fieldLink RX12 415 "SoldHouseModel" "heards" "I", Cond.fieldLink RX12 418 "SoldHouseModel" "laid" "I", Cond.fieldLink RX12 164 "SoldHouseModel" "isBoxed" "[Z", Cond.methodLink RX12 388 yX12_many, Cond.instanceMethod yX12_many, Cond.selects RX12 yX12_many yX12_many, Cond.initialized RX12, Cond.code yX12_many cX12_many 1 (some .int), Cond.fieldLink RX12 27 "SoldHouseModel" "things" "[I", Cond.methodLink RX12 406 yX12_layTable, Cond.instanceMethod yX12_layTable, Cond.selects RX12 yX12_layTable yX12_layTable, Cond.code yX12_layTable cX12_layTable 7 none, Cond.fieldLink RX12 98 "SoldHouseModel" "table" "[I", Cond.fieldLink RX12 24 "SoldHouseModel" "doors" "[I", Cond.fieldLink RX12 101 "SoldHouseModel" "nearSide" "[I"]
def wsX12_startAnew_r2 : List Cond := [Cond.methodLink RX12 378 yX12_places, Cond.instanceMethod yX12_places, Cond.selects RX12 yX12_places yX12_places, Cond.code yX12_places cX12_places 1 (some .int), Cond.fieldLink RX12 20 "SoldHouseModel" "rooms" "[I", Cond.methodLink RX12 397 yX12_has, Cond.static yX12_has, Cond.code yX12_has cX12_has 2 (some .boolean), Cond.methodLink RX12 400 yX12_behind, Cond.instanceMethod yX12_behind, Cond.selects RX12 yX12_behind yX12_behind, Cond.code yX12_behind cX12_behind 5 (some .int), Cond.methodLink RX12 391 yX12_oneOf, Cond.instanceMethod yX12_oneOf, Cond.selects RX12 yX12_oneOf yX12_oneOf, Cond.code yX12_oneOf cX12_oneOf 2 (some .int), Cond.fieldLink RX12 39 "SoldHouseModel" "one" "[I", Cond.methodLink RX12 394 yX12_otherOf, Cond.instanceMethod yX12_otherOf, Cond.selects RX12 yX12_otherOf yX12_otherOf, Cond.code yX12_otherOf cX12_otherOf 2 (some .int), Cond.fieldLink RX12 42 "SoldHouseModel" "other" "[I", Cond.methodLink RX12 403 yX12_joined, Cond.instanceMethod yX12_joined]
def wsX12_startAnew_r3 : List Cond := [Cond.selects RX12 yX12_joined yX12_joined, Cond.code yX12_joined cX12_joined 7 (some .int)]
def wsX12_startAnew : List Cond := .code yX12_startAnew cX12_startAnew 2 none :: ((wsX12_startAnew_r1 ++ (wsX12_startAnew_r2 ++ wsX12_startAnew_r3)) ++ wsX120)
def wsX12_room_r1 : List Cond := [Cond.methodLink RX12 385 yX12_isRoom, Cond.instanceMethod yX12_isRoom, Cond.selects RX12 yX12_isRoom yX12_isRoom, Cond.initialized RX12, Cond.code yX12_isRoom cX12_isRoom 2 (some .boolean), Cond.methodLink RX12 378 yX12_places, Cond.instanceMethod yX12_places, Cond.selects RX12 yX12_places yX12_places, Cond.code yX12_places cX12_places 1 (some .int), Cond.fieldLink RX12 20 "SoldHouseModel" "rooms" "[I", Cond.fieldLink RX12 280 "SoldHouseModel" "bank" "I", Cond.methodLink RX12 381 yX12_isIn, Cond.static yX12_isIn, Cond.code yX12_isIn cX12_isIn 3 (some .boolean), Cond.methodLink RX12 430 yX12_creakOf, Cond.instanceMethod yX12_creakOf, Cond.selects RX12 yX12_creakOf yX12_creakOf, Cond.code yX12_creakOf cX12_creakOf 2 (some .int), Cond.fieldLink RX12 36 "SoldHouseModel" "creaks" "[I", Cond.methodLink RX12 400 yX12_behind, Cond.instanceMethod yX12_behind, Cond.selects RX12 yX12_behind yX12_behind, Cond.code yX12_behind cX12_behind 5 (some .int), Cond.fieldLink RX12 24 "SoldHouseModel" "doors" "[I"]
def wsX12_room_r2 : List Cond := [Cond.methodLink RX12 391 yX12_oneOf, Cond.instanceMethod yX12_oneOf, Cond.selects RX12 yX12_oneOf yX12_oneOf, Cond.code yX12_oneOf cX12_oneOf 2 (some .int), Cond.fieldLink RX12 39 "SoldHouseModel" "one" "[I", Cond.methodLink RX12 394 yX12_otherOf, Cond.instanceMethod yX12_otherOf, Cond.selects RX12 yX12_otherOf yX12_otherOf, Cond.code yX12_otherOf cX12_otherOf 2 (some .int), Cond.fieldLink RX12 42 "SoldHouseModel" "other" "[I", Cond.methodLink RX12 433 yX12_thingsIn, Cond.instanceMethod yX12_thingsIn, Cond.selects RX12 yX12_thingsIn yX12_thingsIn, Cond.code yX12_thingsIn cX12_thingsIn 5 (some .int), Cond.fieldLink RX12 95 "SoldHouseModel" "all" "[I", Cond.methodLink RX12 388 yX12_many, Cond.instanceMethod yX12_many, Cond.selects RX12 yX12_many yX12_many, Cond.code yX12_many cX12_many 1 (some .int), Cond.fieldLink RX12 27 "SoldHouseModel" "things" "[I"]
def wsX12_room : List Cond := .code yX12_room cX12_room 3 (some .int) :: ((wsX12_room_r1 ++ wsX12_room_r2) ++ wsX120)
def wsX12_door : List Cond := .code yX12_door cX12_door 3 (some .int) :: ([.fieldLink RX12 24 "SoldHouseModel" "doors" "[I", .fieldLink RX12 280 "SoldHouseModel" "bank" "I", .fieldLink RX12 101 "SoldHouseModel" "nearSide" "[I", .methodLink RX12 381 yX12_isIn, .static yX12_isIn, .initialized RX12, .code yX12_isIn cX12_isIn 3 (some .boolean), .methodLink RX12 391 yX12_oneOf, .instanceMethod yX12_oneOf, .selects RX12 yX12_oneOf yX12_oneOf, .code yX12_oneOf cX12_oneOf 2 (some .int), .fieldLink RX12 39 "SoldHouseModel" "one" "[I", .methodLink RX12 394 yX12_otherOf, .instanceMethod yX12_otherOf, .selects RX12 yX12_otherOf yX12_otherOf, .code yX12_otherOf cX12_otherOf 2 (some .int), .fieldLink RX12 42 "SoldHouseModel" "other" "[I", .methodLink RX12 442 yX12_doesPart, .instanceMethod yX12_doesPart, .selects RX12 yX12_doesPart yX12_doesPart, .code yX12_doesPart cX12_doesPart 2 (some .boolean), .methodLink RX12 397 yX12_has, .static yX12_has, .code yX12_has cX12_has 2 (some .boolean)] ++ wsX120)
def wsX12_far : List Cond := .code yX12_far cX12_far 3 (some .int) :: ([.methodLink RX12 445 yX12_areRooms, .instanceMethod yX12_areRooms, .selects RX12 yX12_areRooms yX12_areRooms, .initialized RX12, .code yX12_areRooms cX12_areRooms 3 (some .boolean), .methodLink RX12 385 yX12_isRoom, .instanceMethod yX12_isRoom, .selects RX12 yX12_isRoom yX12_isRoom, .code yX12_isRoom cX12_isRoom 2 (some .boolean), .methodLink RX12 378 yX12_places, .instanceMethod yX12_places, .selects RX12 yX12_places yX12_places, .code yX12_places cX12_places 1 (some .int), .fieldLink RX12 20 "SoldHouseModel" "rooms" "[I", .fieldLink RX12 280 "SoldHouseModel" "bank" "I", .methodLink RX12 381 yX12_isIn, .static yX12_isIn, .code yX12_isIn cX12_isIn 3 (some .boolean), .methodLink RX12 421 yX12_farOf, .instanceMethod yX12_farOf, .selects RX12 yX12_farOf yX12_farOf, .code yX12_farOf cX12_farOf 3 (some .int), .fieldLink RX12 98 "SoldHouseModel" "table" "[I"] ++ wsX120)
theorem dX12_feed_0 : decode cX12_feed 0 = .ok (.aload_n 0, 1) := by decide +kernel
theorem dX12_feed_1 : decode cX12_feed 1 = .ok (.getfield 277, 3) := by decide +kernel
theorem dX12_feed_4 : decode cX12_feed 4 = .ok (.bipush 20, 2) := by decide +kernel
theorem dX12_feed_6 : decode cX12_feed 6 = .ok (.iadd, 1) := by decide +kernel
theorem dX12_feed_7 : decode cX12_feed 7 = .ok (.sipush 1600, 3) := by decide +kernel
theorem dX12_feed_10 : decode cX12_feed 10 = .ok (.if_icmp .le 5, 3) := by decide +kernel
theorem dX12_feed_13 : decode cX12_feed 13 = .ok (.iconst (-1), 1) := by decide +kernel
theorem dX12_feed_14 : decode cX12_feed 14 = .ok (.ireturn, 1) := by decide +kernel
theorem dX12_feed_15 : decode cX12_feed 15 = .ok (.iconst 0, 1) := by decide +kernel
theorem dX12_feed_16 : decode cX12_feed 16 = .ok (.istore 6, 2) := by decide +kernel
theorem dX12_feed_18 : decode cX12_feed 18 = .ok (.iload 6, 2) := by decide +kernel
theorem dX12_feed_20 : decode cX12_feed 20 = .ok (.bipush 20, 2) := by decide +kernel
theorem dX12_feed_22 : decode cX12_feed 22 = .ok (.if_icmp .ge 83, 3) := by decide +kernel
theorem dX12_feed_25 : decode cX12_feed 25 = .ok (.iload 6, 2) := by decide +kernel
theorem dX12_feed_27 : decode cX12_feed 27 = .ok (.iconst 4, 1) := by decide +kernel
theorem dX12_feed_28 : decode cX12_feed 28 = .ok (.if_icmp .ge 7, 3) := by decide +kernel
theorem dX12_feed_31 : decode cX12_feed 31 = .ok (.iload_n 1, 1) := by decide +kernel
theorem dX12_feed_32 : decode cX12_feed 32 = .ok (.goto 39, 3) := by decide +kernel
theorem dX12_feed_35 : decode cX12_feed 35 = .ok (.iload 6, 2) := by decide +kernel
theorem dX12_feed_37 : decode cX12_feed 37 = .ok (.bipush 8, 2) := by decide +kernel
theorem dX12_feed_39 : decode cX12_feed 39 = .ok (.if_icmp .ge 7, 3) := by decide +kernel
theorem dX12_feed_42 : decode cX12_feed 42 = .ok (.iload_n 2, 1) := by decide +kernel
theorem dX12_feed_43 : decode cX12_feed 43 = .ok (.goto 28, 3) := by decide +kernel
theorem dX12_feed_46 : decode cX12_feed 46 = .ok (.iload 6, 2) := by decide +kernel
theorem dX12_feed_48 : decode cX12_feed 48 = .ok (.bipush 12, 2) := by decide +kernel
theorem dX12_feed_50 : decode cX12_feed 50 = .ok (.if_icmp .ge 7, 3) := by decide +kernel
theorem dX12_feed_53 : decode cX12_feed 53 = .ok (.iload_n 3, 1) := by decide +kernel
theorem dX12_feed_54 : decode cX12_feed 54 = .ok (.goto 17, 3) := by decide +kernel
theorem dX12_feed_57 : decode cX12_feed 57 = .ok (.iload 6, 2) := by decide +kernel
theorem dX12_feed_59 : decode cX12_feed 59 = .ok (.bipush 16, 2) := by decide +kernel
theorem dX12_feed_61 : decode cX12_feed 61 = .ok (.if_icmp .ge 8, 3) := by decide +kernel
theorem dX12_feed_64 : decode cX12_feed 64 = .ok (.iload 4, 2) := by decide +kernel
theorem dX12_feed_66 : decode cX12_feed 66 = .ok (.goto 5, 3) := by decide +kernel
theorem dX12_feed_69 : decode cX12_feed 69 = .ok (.iload 5, 2) := by decide +kernel
theorem dX12_feed_71 : decode cX12_feed 71 = .ok (.istore 7, 2) := by decide +kernel
theorem dX12_feed_73 : decode cX12_feed 73 = .ok (.aload_n 0, 1) := by decide +kernel
theorem dX12_feed_74 : decode cX12_feed 74 = .ok (.getfield 7, 3) := by decide +kernel
theorem dX12_feed_77 : decode cX12_feed 77 = .ok (.aload_n 0, 1) := by decide +kernel
theorem dX12_feed_78 : decode cX12_feed 78 = .ok (.getfield 277, 3) := by decide +kernel
theorem dX12_feed_81 : decode cX12_feed 81 = .ok (.iload 6, 2) := by decide +kernel
theorem dX12_feed_83 : decode cX12_feed 83 = .ok (.iadd, 1) := by decide +kernel
theorem dX12_feed_84 : decode cX12_feed 84 = .ok (.iload 7, 2) := by decide +kernel
theorem dX12_feed_86 : decode cX12_feed 86 = .ok (.bipush 24, 2) := by decide +kernel
theorem dX12_feed_88 : decode cX12_feed 88 = .ok (.bipush 8, 2) := by decide +kernel
theorem dX12_feed_90 : decode cX12_feed 90 = .ok (.iload 6, 2) := by decide +kernel
theorem dX12_feed_92 : decode cX12_feed 92 = .ok (.iconst 3, 1) := by decide +kernel
theorem dX12_feed_93 : decode cX12_feed 93 = .ok (.iand, 1) := by decide +kernel
theorem dX12_feed_94 : decode cX12_feed 94 = .ok (.imul, 1) := by decide +kernel
theorem dX12_feed_95 : decode cX12_feed 95 = .ok (.isub, 1) := by decide +kernel
theorem dX12_feed_96 : decode cX12_feed 96 = .ok (.ishr, 1) := by decide +kernel
theorem dX12_feed_97 : decode cX12_feed 97 = .ok (.i2b, 1) := by decide +kernel
theorem dX12_feed_98 : decode cX12_feed 98 = .ok (.bastore, 1) := by decide +kernel
theorem dX12_feed_99 : decode cX12_feed 99 = .ok (.iinc 6 1, 3) := by decide +kernel
theorem dX12_feed_102 : decode cX12_feed 102 = .ok (.goto (-84), 3) := by decide +kernel
theorem dX12_feed_105 : decode cX12_feed 105 = .ok (.aload_n 0, 1) := by decide +kernel
theorem dX12_feed_106 : decode cX12_feed 106 = .ok (.dup, 1) := by decide +kernel
theorem dX12_feed_107 : decode cX12_feed 107 = .ok (.getfield 277, 3) := by decide +kernel
theorem dX12_feed_110 : decode cX12_feed 110 = .ok (.bipush 20, 2) := by decide +kernel
theorem dX12_feed_112 : decode cX12_feed 112 = .ok (.iadd, 1) := by decide +kernel
theorem dX12_feed_113 : decode cX12_feed 113 = .ok (.putfield 277, 3) := by decide +kernel
theorem dX12_feed_116 : decode cX12_feed 116 = .ok (.aload_n 0, 1) := by decide +kernel
theorem dX12_feed_117 : decode cX12_feed 117 = .ok (.getfield 277, 3) := by decide +kernel
theorem dX12_feed_120 : decode cX12_feed 120 = .ok (.ireturn, 1) := by decide +kernel
theorem dX12_end_0 : decode cX12_end 0 = .ok (.iload_n 1, 1) := by decide +kernel
theorem dX12_end_1 : decode cX12_end 1 = .ok (.ifCond .lt 11, 3) := by decide +kernel
theorem dX12_end_4 : decode cX12_end 4 = .ok (.iload_n 1, 1) := by decide +kernel
theorem dX12_end_5 : decode cX12_end 5 = .ok (.aload_n 0, 1) := by decide +kernel
theorem dX12_end_6 : decode cX12_end 6 = .ok (.getfield 277, 3) := by decide +kernel
theorem dX12_end_9 : decode cX12_end 9 = .ok (.if_icmp .le 5, 3) := by decide +kernel
theorem dX12_end_12 : decode cX12_end 12 = .ok (.iconst (-1), 1) := by decide +kernel
theorem dX12_end_13 : decode cX12_end 13 = .ok (.ireturn, 1) := by decide +kernel
theorem dX12_end_14 : decode cX12_end 14 = .ok (.aload_n 0, 1) := by decide +kernel
theorem dX12_end_15 : decode cX12_end 15 = .ok (.iload_n 1, 1) := by decide +kernel
theorem dX12_end_16 : decode cX12_end 16 = .ok (.putfield 277, 3) := by decide +kernel
theorem dX12_end_19 : decode cX12_end 19 = .ok (.iload_n 1, 1) := by decide +kernel
theorem dX12_end_20 : decode cX12_end 20 = .ok (.ireturn, 1) := by decide +kernel
theorem dX12_about_0 : decode cX12_about 0 = .ok (.iload_n 1, 1) := by decide +kernel
theorem dX12_about_1 : decode cX12_about 1 = .ok (.tableswitch 139 0 11 #[63, 68, 78, 83, 91, 99, 104, 109, 114, 119, 124, 134], 63) := by decide +kernel
theorem dX12_about_64 : decode cX12_about 64 = .ok (.aload_n 0, 1) := by decide +kernel
theorem dX12_about_65 : decode cX12_about 65 = .ok (.invokevirtual 378, 3) := by decide +kernel
theorem dX12_about_68 : decode cX12_about 68 = .ok (.ireturn, 1) := by decide +kernel
theorem dX12_about_69 : decode cX12_about 69 = .ok (.aload_n 0, 1) := by decide +kernel
theorem dX12_about_70 : decode cX12_about 70 = .ok (.getfield 24, 3) := by decide +kernel
theorem dX12_about_73 : decode cX12_about 73 = .ok (.aload_n 0, 1) := by decide +kernel
theorem dX12_about_74 : decode cX12_about 74 = .ok (.getfield 280, 3) := by decide +kernel
theorem dX12_about_77 : decode cX12_about 77 = .ok (.iaload, 1) := by decide +kernel
theorem dX12_about_78 : decode cX12_about 78 = .ok (.ireturn, 1) := by decide +kernel
theorem dX12_about_79 : decode cX12_about 79 = .ok (.aload_n 0, 1) := by decide +kernel
theorem dX12_about_80 : decode cX12_about 80 = .ok (.invokevirtual 388, 3) := by decide +kernel
theorem dX12_about_83 : decode cX12_about 83 = .ok (.ireturn, 1) := by decide +kernel
theorem dX12_about_84 : decode cX12_about 84 = .ok (.aload_n 0, 1) := by decide +kernel
theorem dX12_about_85 : decode cX12_about 85 = .ok (.getfield 95, 3) := by decide +kernel
theorem dX12_about_88 : decode cX12_about 88 = .ok (.bipush 30, 2) := by decide +kernel
theorem dX12_about_90 : decode cX12_about 90 = .ok (.iaload, 1) := by decide +kernel
theorem dX12_about_91 : decode cX12_about 91 = .ok (.ireturn, 1) := by decide +kernel
theorem dX12_about_92 : decode cX12_about 92 = .ok (.aload_n 0, 1) := by decide +kernel
theorem dX12_about_93 : decode cX12_about 93 = .ok (.getfield 95, 3) := by decide +kernel
theorem dX12_about_96 : decode cX12_about 96 = .ok (.bipush 31, 2) := by decide +kernel
theorem dX12_about_98 : decode cX12_about 98 = .ok (.iaload, 1) := by decide +kernel
theorem dX12_about_99 : decode cX12_about 99 = .ok (.ireturn, 1) := by decide +kernel
theorem dX12_about_100 : decode cX12_about 100 = .ok (.aload_n 0, 1) := by decide +kernel
theorem dX12_about_101 : decode cX12_about 101 = .ok (.getfield 409, 3) := by decide +kernel
theorem dX12_about_104 : decode cX12_about 104 = .ok (.ireturn, 1) := by decide +kernel
theorem dX12_about_105 : decode cX12_about 105 = .ok (.aload_n 0, 1) := by decide +kernel
theorem dX12_about_106 : decode cX12_about 106 = .ok (.getfield 412, 3) := by decide +kernel
theorem dX12_about_109 : decode cX12_about 109 = .ok (.ireturn, 1) := by decide +kernel
theorem dX12_about_110 : decode cX12_about 110 = .ok (.aload_n 0, 1) := by decide +kernel
theorem dX12_about_111 : decode cX12_about 111 = .ok (.getfield 415, 3) := by decide +kernel
theorem dX12_about_114 : decode cX12_about 114 = .ok (.ireturn, 1) := by decide +kernel
theorem dX12_about_115 : decode cX12_about 115 = .ok (.aload_n 0, 1) := by decide +kernel
theorem dX12_about_116 : decode cX12_about 116 = .ok (.getfield 505, 3) := by decide +kernel
theorem dX12_about_119 : decode cX12_about 119 = .ok (.ireturn, 1) := by decide +kernel
theorem dX12_about_120 : decode cX12_about 120 = .ok (.aload_n 0, 1) := by decide +kernel
theorem dX12_about_121 : decode cX12_about 121 = .ok (.getfield 277, 3) := by decide +kernel
theorem dX12_about_124 : decode cX12_about 124 = .ok (.ireturn, 1) := by decide +kernel
theorem dX12_about_125 : decode cX12_about 125 = .ok (.aload_n 0, 1) := by decide +kernel
theorem dX12_about_126 : decode cX12_about 126 = .ok (.getfield 30, 3) := by decide +kernel
theorem dX12_about_129 : decode cX12_about 129 = .ok (.aload_n 0, 1) := by decide +kernel
theorem dX12_about_130 : decode cX12_about 130 = .ok (.getfield 280, 3) := by decide +kernel
theorem dX12_about_133 : decode cX12_about 133 = .ok (.iaload, 1) := by decide +kernel
theorem dX12_about_134 : decode cX12_about 134 = .ok (.ireturn, 1) := by decide +kernel
theorem dX12_about_135 : decode cX12_about 135 = .ok (.aload_n 0, 1) := by decide +kernel
theorem dX12_about_136 : decode cX12_about 136 = .ok (.getfield 418, 3) := by decide +kernel
theorem dX12_about_139 : decode cX12_about 139 = .ok (.ireturn, 1) := by decide +kernel
theorem dX12_about_140 : decode cX12_about 140 = .ok (.iconst (-1), 1) := by decide +kernel
theorem dX12_about_141 : decode cX12_about 141 = .ok (.ireturn, 1) := by decide +kernel
theorem dX12_lies_0 : decode cX12_lies 0 = .ok (.iload_n 1, 1) := by decide +kernel
theorem dX12_lies_1 : decode cX12_lies 1 = .ok (.iconst 0, 1) := by decide +kernel
theorem dX12_lies_2 : decode cX12_lies 2 = .ok (.aload_n 0, 1) := by decide +kernel
theorem dX12_lies_3 : decode cX12_lies 3 = .ok (.getfield 418, 3) := by decide +kernel
theorem dX12_lies_6 : decode cX12_lies 6 = .ok (.iconst 1, 1) := by decide +kernel
theorem dX12_lies_7 : decode cX12_lies 7 = .ok (.isub, 1) := by decide +kernel
theorem dX12_lies_8 : decode cX12_lies 8 = .ok (.invokestatic 381, 3) := by decide +kernel
theorem dX12_lies_11 : decode cX12_lies 11 = .ok (.ifCond .eq 12, 3) := by decide +kernel
theorem dX12_lies_14 : decode cX12_lies 14 = .ok (.aload_n 0, 1) := by decide +kernel
theorem dX12_lies_15 : decode cX12_lies 15 = .ok (.getfield 113, 3) := by decide +kernel
theorem dX12_lies_18 : decode cX12_lies 18 = .ok (.iload_n 1, 1) := by decide +kernel
theorem dX12_lies_19 : decode cX12_lies 19 = .ok (.iaload, 1) := by decide +kernel
theorem dX12_lies_20 : decode cX12_lies 20 = .ok (.goto 4, 3) := by decide +kernel
theorem dX12_lies_23 : decode cX12_lies 23 = .ok (.iconst (-1), 1) := by decide +kernel
theorem dX12_lies_24 : decode cX12_lies 24 = .ok (.ireturn, 1) := by decide +kernel
theorem dX12_told_0 : decode cX12_told 0 = .ok (.iload_n 1, 1) := by decide +kernel
theorem dX12_told_1 : decode cX12_told 1 = .ok (.iconst 0, 1) := by decide +kernel
theorem dX12_told_2 : decode cX12_told 2 = .ok (.bipush 7, 2) := by decide +kernel
theorem dX12_told_4 : decode cX12_told 4 = .ok (.invokestatic 381, 3) := by decide +kernel
theorem dX12_told_7 : decode cX12_told 7 = .ok (.ifCond .eq 12, 3) := by decide +kernel
theorem dX12_told_10 : decode cX12_told 10 = .ok (.aload_n 0, 1) := by decide +kernel
theorem dX12_told_11 : decode cX12_told 11 = .ok (.getfield 415, 3) := by decide +kernel
theorem dX12_told_14 : decode cX12_told 14 = .ok (.bipush 30, 2) := by decide +kernel
theorem dX12_told_16 : decode cX12_told 16 = .ok (.if_icmp .ne 5, 3) := by decide +kernel
theorem dX12_told_19 : decode cX12_told 19 = .ok (.iconst (-1), 1) := by decide +kernel
theorem dX12_told_20 : decode cX12_told 20 = .ok (.ireturn, 1) := by decide +kernel
theorem dX12_told_21 : decode cX12_told 21 = .ok (.aload_n 0, 1) := by decide +kernel
theorem dX12_told_22 : decode cX12_told 22 = .ok (.getfield 137, 3) := by decide +kernel
theorem dX12_told_25 : decode cX12_told 25 = .ok (.aload_n 0, 1) := by decide +kernel
theorem dX12_told_26 : decode cX12_told 26 = .ok (.getfield 415, 3) := by decide +kernel
theorem dX12_told_29 : decode cX12_told 29 = .ok (.iload_n 1, 1) := by decide +kernel
theorem dX12_told_30 : decode cX12_told 30 = .ok (.iastore, 1) := by decide +kernel
theorem dX12_told_31 : decode cX12_told 31 = .ok (.aload_n 0, 1) := by decide +kernel
theorem dX12_told_32 : decode cX12_told 32 = .ok (.getfield 140, 3) := by decide +kernel
theorem dX12_told_35 : decode cX12_told 35 = .ok (.aload_n 0, 1) := by decide +kernel
theorem dX12_told_36 : decode cX12_told 36 = .ok (.getfield 415, 3) := by decide +kernel
theorem dX12_told_39 : decode cX12_told 39 = .ok (.iload_n 2, 1) := by decide +kernel
theorem dX12_told_40 : decode cX12_told 40 = .ok (.iastore, 1) := by decide +kernel
theorem dX12_told_41 : decode cX12_told 41 = .ok (.aload_n 0, 1) := by decide +kernel
theorem dX12_told_42 : decode cX12_told 42 = .ok (.getfield 143, 3) := by decide +kernel
theorem dX12_told_45 : decode cX12_told 45 = .ok (.aload_n 0, 1) := by decide +kernel
theorem dX12_told_46 : decode cX12_told 46 = .ok (.getfield 415, 3) := by decide +kernel
theorem dX12_told_49 : decode cX12_told 49 = .ok (.iload_n 3, 1) := by decide +kernel
theorem dX12_told_50 : decode cX12_told 50 = .ok (.iastore, 1) := by decide +kernel
theorem dX12_told_51 : decode cX12_told 51 = .ok (.aload_n 0, 1) := by decide +kernel
theorem dX12_told_52 : decode cX12_told 52 = .ok (.getfield 146, 3) := by decide +kernel
theorem dX12_told_55 : decode cX12_told 55 = .ok (.aload_n 0, 1) := by decide +kernel
theorem dX12_told_56 : decode cX12_told 56 = .ok (.getfield 415, 3) := by decide +kernel
theorem dX12_told_59 : decode cX12_told 59 = .ok (.iload 4, 2) := by decide +kernel
theorem dX12_told_61 : decode cX12_told 61 = .ok (.ifCond .eq 7, 3) := by decide +kernel
theorem dX12_told_64 : decode cX12_told 64 = .ok (.iconst 1, 1) := by decide +kernel
theorem dX12_told_65 : decode cX12_told 65 = .ok (.goto 4, 3) := by decide +kernel
theorem dX12_told_68 : decode cX12_told 68 = .ok (.iconst 0, 1) := by decide +kernel
theorem dX12_told_69 : decode cX12_told 69 = .ok (.iastore, 1) := by decide +kernel
theorem dX12_told_70 : decode cX12_told 70 = .ok (.aload_n 0, 1) := by decide +kernel
theorem dX12_told_71 : decode cX12_told 71 = .ok (.getfield 149, 3) := by decide +kernel
theorem dX12_told_74 : decode cX12_told 74 = .ok (.aload_n 0, 1) := by decide +kernel
theorem dX12_told_75 : decode cX12_told 75 = .ok (.getfield 415, 3) := by decide +kernel
theorem dX12_told_78 : decode cX12_told 78 = .ok (.aload_n 0, 1) := by decide +kernel
theorem dX12_told_79 : decode cX12_told 79 = .ok (.getfield 505, 3) := by decide +kernel
theorem dX12_told_82 : decode cX12_told 82 = .ok (.iastore, 1) := by decide +kernel
theorem dX12_told_83 : decode cX12_told 83 = .ok (.aload_n 0, 1) := by decide +kernel
theorem dX12_told_84 : decode cX12_told 84 = .ok (.getfield 152, 3) := by decide +kernel
theorem dX12_told_87 : decode cX12_told 87 = .ok (.aload_n 0, 1) := by decide +kernel
theorem dX12_told_88 : decode cX12_told 88 = .ok (.getfield 415, 3) := by decide +kernel
theorem dX12_told_91 : decode cX12_told 91 = .ok (.iconst (-1), 1) := by decide +kernel
theorem dX12_told_92 : decode cX12_told 92 = .ok (.iastore, 1) := by decide +kernel
theorem dX12_told_93 : decode cX12_told 93 = .ok (.aload_n 0, 1) := by decide +kernel
theorem dX12_told_94 : decode cX12_told 94 = .ok (.dup, 1) := by decide +kernel
theorem dX12_told_95 : decode cX12_told 95 = .ok (.getfield 415, 3) := by decide +kernel
theorem dX12_told_98 : decode cX12_told 98 = .ok (.iconst 1, 1) := by decide +kernel
theorem dX12_told_99 : decode cX12_told 99 = .ok (.iadd, 1) := by decide +kernel
theorem dX12_told_100 : decode cX12_told 100 = .ok (.putfield 415, 3) := by decide +kernel
theorem dX12_told_103 : decode cX12_told 103 = .ok (.aload_n 0, 1) := by decide +kernel
theorem dX12_told_104 : decode cX12_told 104 = .ok (.getfield 415, 3) := by decide +kernel
theorem dX12_told_107 : decode cX12_told 107 = .ok (.iconst 1, 1) := by decide +kernel
theorem dX12_told_108 : decode cX12_told 108 = .ok (.isub, 1) := by decide +kernel
theorem dX12_told_109 : decode cX12_told 109 = .ok (.ireturn, 1) := by decide +kernel
theorem dX12_heard_0 : decode cX12_heard 0 = .ok (.iload_n 2, 1) := by decide +kernel
theorem dX12_heard_1 : decode cX12_heard 1 = .ok (.iconst 0, 1) := by decide +kernel
theorem dX12_heard_2 : decode cX12_heard 2 = .ok (.bipush 9, 2) := by decide +kernel
theorem dX12_heard_4 : decode cX12_heard 4 = .ok (.invokestatic 381, 3) := by decide +kernel
theorem dX12_heard_7 : decode cX12_heard 7 = .ok (.ifCond .eq 14, 3) := by decide +kernel
theorem dX12_heard_10 : decode cX12_heard 10 = .ok (.aload_n 0, 1) := by decide +kernel
theorem dX12_heard_11 : decode cX12_heard 11 = .ok (.iload_n 1, 1) := by decide +kernel
theorem dX12_heard_12 : decode cX12_heard 12 = .ok (.iload_n 2, 1) := by decide +kernel
theorem dX12_heard_13 : decode cX12_heard 13 = .ok (.iconst (-1), 1) := by decide +kernel
theorem dX12_heard_14 : decode cX12_heard 14 = .ok (.iload_n 3, 1) := by decide +kernel
theorem dX12_heard_15 : decode cX12_heard 15 = .ok (.invokevirtual 508, 3) := by decide +kernel
theorem dX12_heard_18 : decode cX12_heard 18 = .ok (.goto 4, 3) := by decide +kernel
theorem dX12_heard_21 : decode cX12_heard 21 = .ok (.iconst (-1), 1) := by decide +kernel
theorem dX12_heard_22 : decode cX12_heard 22 = .ok (.ireturn, 1) := by decide +kernel
theorem dX12_seen_0 : decode cX12_seen 0 = .ok (.aload_n 0, 1) := by decide +kernel
theorem dX12_seen_1 : decode cX12_seen 1 = .ok (.iload_n 2, 1) := by decide +kernel
theorem dX12_seen_2 : decode cX12_seen 2 = .ok (.invokevirtual 385, 3) := by decide +kernel
theorem dX12_seen_5 : decode cX12_seen 5 = .ok (.ifCond .eq 14, 3) := by decide +kernel
theorem dX12_seen_8 : decode cX12_seen 8 = .ok (.aload_n 0, 1) := by decide +kernel
theorem dX12_seen_9 : decode cX12_seen 9 = .ok (.iload_n 1, 1) := by decide +kernel
theorem dX12_seen_10 : decode cX12_seen 10 = .ok (.iconst (-1), 1) := by decide +kernel
theorem dX12_seen_11 : decode cX12_seen 11 = .ok (.iload_n 2, 1) := by decide +kernel
theorem dX12_seen_12 : decode cX12_seen 12 = .ok (.iload_n 3, 1) := by decide +kernel
theorem dX12_seen_13 : decode cX12_seen 13 = .ok (.invokevirtual 508, 3) := by decide +kernel
theorem dX12_seen_16 : decode cX12_seen 16 = .ok (.goto 4, 3) := by decide +kernel
theorem dX12_seen_19 : decode cX12_seen 19 = .ok (.iconst (-1), 1) := by decide +kernel
theorem dX12_seen_20 : decode cX12_seen 20 = .ok (.ireturn, 1) := by decide +kernel
theorem dX12_untell_0 : decode cX12_untell 0 = .ok (.iload_n 1, 1) := by decide +kernel
theorem dX12_untell_1 : decode cX12_untell 1 = .ok (.iconst 0, 1) := by decide +kernel
theorem dX12_untell_2 : decode cX12_untell 2 = .ok (.aload_n 0, 1) := by decide +kernel
theorem dX12_untell_3 : decode cX12_untell 3 = .ok (.getfield 415, 3) := by decide +kernel
theorem dX12_untell_6 : decode cX12_untell 6 = .ok (.iconst 1, 1) := by decide +kernel
theorem dX12_untell_7 : decode cX12_untell 7 = .ok (.isub, 1) := by decide +kernel
theorem dX12_untell_8 : decode cX12_untell 8 = .ok (.invokestatic 381, 3) := by decide +kernel
theorem dX12_untell_11 : decode cX12_untell 11 = .ok (.ifCond .eq 12, 3) := by decide +kernel
theorem dX12_untell_14 : decode cX12_untell 14 = .ok (.aload_n 0, 1) := by decide +kernel
theorem dX12_untell_15 : decode cX12_untell 15 = .ok (.getfield 152, 3) := by decide +kernel
theorem dX12_untell_18 : decode cX12_untell 18 = .ok (.iload_n 1, 1) := by decide +kernel
theorem dX12_untell_19 : decode cX12_untell 19 = .ok (.iaload, 1) := by decide +kernel
theorem dX12_untell_20 : decode cX12_untell 20 = .ok (.ifCond .lt 5, 3) := by decide +kernel
theorem dX12_untell_23 : decode cX12_untell 23 = .ok (.iconst 0, 1) := by decide +kernel
theorem dX12_untell_24 : decode cX12_untell 24 = .ok (.ireturn, 1) := by decide +kernel
theorem dX12_untell_25 : decode cX12_untell 25 = .ok (.aload_n 0, 1) := by decide +kernel
theorem dX12_untell_26 : decode cX12_untell 26 = .ok (.getfield 152, 3) := by decide +kernel
theorem dX12_untell_29 : decode cX12_untell 29 = .ok (.iload_n 1, 1) := by decide +kernel
theorem dX12_untell_30 : decode cX12_untell 30 = .ok (.aload_n 0, 1) := by decide +kernel
theorem dX12_untell_31 : decode cX12_untell 31 = .ok (.getfield 505, 3) := by decide +kernel
theorem dX12_untell_34 : decode cX12_untell 34 = .ok (.iastore, 1) := by decide +kernel
theorem dX12_untell_35 : decode cX12_untell 35 = .ok (.iconst 1, 1) := by decide +kernel
theorem dX12_untell_36 : decode cX12_untell 36 = .ok (.ireturn, 1) := by decide +kernel
theorem dX12_behind_0 : decode cX12_behind 0 = .ok (.iconst 0, 1) := by decide +kernel
theorem dX12_behind_1 : decode cX12_behind 1 = .ok (.istore_n 3, 1) := by decide +kernel
theorem dX12_behind_2 : decode cX12_behind 2 = .ok (.iconst 0, 1) := by decide +kernel
theorem dX12_behind_3 : decode cX12_behind 3 = .ok (.istore 4, 2) := by decide +kernel
theorem dX12_behind_5 : decode cX12_behind 5 = .ok (.iload 4, 2) := by decide +kernel
theorem dX12_behind_7 : decode cX12_behind 7 = .ok (.aload_n 0, 1) := by decide +kernel
theorem dX12_behind_8 : decode cX12_behind 8 = .ok (.getfield 24, 3) := by decide +kernel
theorem dX12_behind_11 : decode cX12_behind 11 = .ok (.aload_n 0, 1) := by decide +kernel
theorem dX12_behind_12 : decode cX12_behind 12 = .ok (.getfield 280, 3) := by decide +kernel
theorem dX12_behind_15 : decode cX12_behind 15 = .ok (.iaload, 1) := by decide +kernel
theorem dX12_behind_16 : decode cX12_behind 16 = .ok (.if_icmp .ge 60, 3) := by decide +kernel
theorem dX12_behind_19 : decode cX12_behind 19 = .ok (.iload 4, 2) := by decide +kernel
theorem dX12_behind_21 : decode cX12_behind 21 = .ok (.iload_n 2, 1) := by decide +kernel
theorem dX12_behind_22 : decode cX12_behind 22 = .ok (.if_icmp .ne 6, 3) := by decide +kernel
theorem dX12_behind_25 : decode cX12_behind 25 = .ok (.goto 45, 3) := by decide +kernel
theorem dX12_behind_28 : decode cX12_behind 28 = .ok (.aload_n 0, 1) := by decide +kernel
theorem dX12_behind_29 : decode cX12_behind 29 = .ok (.iload 4, 2) := by decide +kernel
theorem dX12_behind_31 : decode cX12_behind 31 = .ok (.invokevirtual 391, 3) := by decide +kernel
theorem dX12_behind_34 : decode cX12_behind 34 = .ok (.iload_n 1, 1) := by decide +kernel
theorem dX12_behind_35 : decode cX12_behind 35 = .ok (.if_icmp .ne 14, 3) := by decide +kernel
theorem dX12_behind_38 : decode cX12_behind 38 = .ok (.iload_n 3, 1) := by decide +kernel
theorem dX12_behind_39 : decode cX12_behind 39 = .ok (.iconst 1, 1) := by decide +kernel
theorem dX12_behind_40 : decode cX12_behind 40 = .ok (.aload_n 0, 1) := by decide +kernel
theorem dX12_behind_41 : decode cX12_behind 41 = .ok (.iload 4, 2) := by decide +kernel
theorem dX12_behind_43 : decode cX12_behind 43 = .ok (.invokevirtual 394, 3) := by decide +kernel
theorem dX12_behind_46 : decode cX12_behind 46 = .ok (.ishl, 1) := by decide +kernel
theorem dX12_behind_47 : decode cX12_behind 47 = .ok (.ior, 1) := by decide +kernel
theorem dX12_behind_48 : decode cX12_behind 48 = .ok (.istore_n 3, 1) := by decide +kernel
theorem dX12_behind_49 : decode cX12_behind 49 = .ok (.aload_n 0, 1) := by decide +kernel
theorem dX12_behind_50 : decode cX12_behind 50 = .ok (.iload 4, 2) := by decide +kernel
theorem dX12_behind_52 : decode cX12_behind 52 = .ok (.invokevirtual 394, 3) := by decide +kernel
theorem dX12_behind_55 : decode cX12_behind 55 = .ok (.iload_n 1, 1) := by decide +kernel
theorem dX12_behind_56 : decode cX12_behind 56 = .ok (.if_icmp .ne 14, 3) := by decide +kernel
theorem dX12_behind_59 : decode cX12_behind 59 = .ok (.iload_n 3, 1) := by decide +kernel
theorem dX12_behind_60 : decode cX12_behind 60 = .ok (.iconst 1, 1) := by decide +kernel
theorem dX12_behind_61 : decode cX12_behind 61 = .ok (.aload_n 0, 1) := by decide +kernel
theorem dX12_behind_62 : decode cX12_behind 62 = .ok (.iload 4, 2) := by decide +kernel
theorem dX12_behind_64 : decode cX12_behind 64 = .ok (.invokevirtual 391, 3) := by decide +kernel
theorem dX12_behind_67 : decode cX12_behind 67 = .ok (.ishl, 1) := by decide +kernel
theorem dX12_behind_68 : decode cX12_behind 68 = .ok (.ior, 1) := by decide +kernel
theorem dX12_behind_69 : decode cX12_behind 69 = .ok (.istore_n 3, 1) := by decide +kernel
theorem dX12_behind_70 : decode cX12_behind 70 = .ok (.iinc 4 1, 3) := by decide +kernel
theorem dX12_behind_73 : decode cX12_behind 73 = .ok (.goto (-68), 3) := by decide +kernel
theorem dX12_behind_76 : decode cX12_behind 76 = .ok (.iload_n 3, 1) := by decide +kernel
theorem dX12_behind_77 : decode cX12_behind 77 = .ok (.ireturn, 1) := by decide +kernel
theorem dX12_joined_0 : decode cX12_joined 0 = .ok (.iconst 1, 1) := by decide +kernel
theorem dX12_joined_1 : decode cX12_joined 1 = .ok (.iload_n 1, 1) := by decide +kernel
theorem dX12_joined_2 : decode cX12_joined 2 = .ok (.ishl, 1) := by decide +kernel
theorem dX12_joined_3 : decode cX12_joined 3 = .ok (.istore_n 3, 1) := by decide +kernel
theorem dX12_joined_4 : decode cX12_joined 4 = .ok (.iconst 1, 1) := by decide +kernel
theorem dX12_joined_5 : decode cX12_joined 5 = .ok (.istore 4, 2) := by decide +kernel
theorem dX12_joined_7 : decode cX12_joined 7 = .ok (.iload 4, 2) := by decide +kernel
theorem dX12_joined_9 : decode cX12_joined 9 = .ok (.ifCond .eq 60, 3) := by decide +kernel
theorem dX12_joined_12 : decode cX12_joined 12 = .ok (.iload_n 3, 1) := by decide +kernel
theorem dX12_joined_13 : decode cX12_joined 13 = .ok (.istore 5, 2) := by decide +kernel
theorem dX12_joined_15 : decode cX12_joined 15 = .ok (.iconst 0, 1) := by decide +kernel
theorem dX12_joined_16 : decode cX12_joined 16 = .ok (.istore 6, 2) := by decide +kernel
theorem dX12_joined_18 : decode cX12_joined 18 = .ok (.iload 6, 2) := by decide +kernel
theorem dX12_joined_20 : decode cX12_joined 20 = .ok (.aload_n 0, 1) := by decide +kernel
theorem dX12_joined_21 : decode cX12_joined 21 = .ok (.invokevirtual 378, 3) := by decide +kernel
theorem dX12_joined_24 : decode cX12_joined 24 = .ok (.if_icmp .ge 29, 3) := by decide +kernel
theorem dX12_joined_27 : decode cX12_joined 27 = .ok (.iload 5, 2) := by decide +kernel
theorem dX12_joined_29 : decode cX12_joined 29 = .ok (.iload 6, 2) := by decide +kernel
theorem dX12_joined_31 : decode cX12_joined 31 = .ok (.invokestatic 397, 3) := by decide +kernel
theorem dX12_joined_34 : decode cX12_joined 34 = .ok (.ifCond .eq 13, 3) := by decide +kernel
theorem dX12_joined_37 : decode cX12_joined 37 = .ok (.iload_n 3, 1) := by decide +kernel
theorem dX12_joined_38 : decode cX12_joined 38 = .ok (.aload_n 0, 1) := by decide +kernel
theorem dX12_joined_39 : decode cX12_joined 39 = .ok (.iload 6, 2) := by decide +kernel
theorem dX12_joined_41 : decode cX12_joined 41 = .ok (.iload_n 2, 1) := by decide +kernel
theorem dX12_joined_42 : decode cX12_joined 42 = .ok (.invokevirtual 400, 3) := by decide +kernel
theorem dX12_joined_45 : decode cX12_joined 45 = .ok (.ior, 1) := by decide +kernel
theorem dX12_joined_46 : decode cX12_joined 46 = .ok (.istore_n 3, 1) := by decide +kernel
theorem dX12_joined_47 : decode cX12_joined 47 = .ok (.iinc 6 1, 3) := by decide +kernel
theorem dX12_joined_50 : decode cX12_joined 50 = .ok (.goto (-32), 3) := by decide +kernel
theorem dX12_joined_53 : decode cX12_joined 53 = .ok (.iload_n 3, 1) := by decide +kernel
theorem dX12_joined_54 : decode cX12_joined 54 = .ok (.iload 5, 2) := by decide +kernel
theorem dX12_joined_56 : decode cX12_joined 56 = .ok (.if_icmp .eq 7, 3) := by decide +kernel
theorem dX12_joined_59 : decode cX12_joined 59 = .ok (.iconst 1, 1) := by decide +kernel
theorem dX12_joined_60 : decode cX12_joined 60 = .ok (.goto 4, 3) := by decide +kernel
theorem dX12_joined_63 : decode cX12_joined 63 = .ok (.iconst 0, 1) := by decide +kernel
theorem dX12_joined_64 : decode cX12_joined 64 = .ok (.istore 4, 2) := by decide +kernel
theorem dX12_joined_66 : decode cX12_joined 66 = .ok (.goto (-59), 3) := by decide +kernel
theorem dX12_joined_69 : decode cX12_joined 69 = .ok (.iload_n 3, 1) := by decide +kernel
theorem dX12_joined_70 : decode cX12_joined 70 = .ok (.ireturn, 1) := by decide +kernel
theorem dX12_layTable_0 : decode cX12_layTable 0 = .ok (.iconst 0, 1) := by decide +kernel
theorem dX12_layTable_1 : decode cX12_layTable 1 = .ok (.istore_n 1, 1) := by decide +kernel
theorem dX12_layTable_2 : decode cX12_layTable 2 = .ok (.iload_n 1, 1) := by decide +kernel
theorem dX12_layTable_3 : decode cX12_layTable 3 = .ok (.aload_n 0, 1) := by decide +kernel
theorem dX12_layTable_4 : decode cX12_layTable 4 = .ok (.invokevirtual 378, 3) := by decide +kernel
theorem dX12_layTable_7 : decode cX12_layTable 7 = .ok (.if_icmp .ge 134, 3) := by decide +kernel
theorem dX12_layTable_10 : decode cX12_layTable 10 = .ok (.iconst 0, 1) := by decide +kernel
theorem dX12_layTable_11 : decode cX12_layTable 11 = .ok (.istore_n 2, 1) := by decide +kernel
theorem dX12_layTable_12 : decode cX12_layTable 12 = .ok (.iload_n 2, 1) := by decide +kernel
theorem dX12_layTable_13 : decode cX12_layTable 13 = .ok (.aload_n 0, 1) := by decide +kernel
theorem dX12_layTable_14 : decode cX12_layTable 14 = .ok (.invokevirtual 378, 3) := by decide +kernel
theorem dX12_layTable_17 : decode cX12_layTable 17 = .ok (.if_icmp .ge 23, 3) := by decide +kernel
theorem dX12_layTable_20 : decode cX12_layTable 20 = .ok (.aload_n 0, 1) := by decide +kernel
theorem dX12_layTable_21 : decode cX12_layTable 21 = .ok (.getfield 98, 3) := by decide +kernel
theorem dX12_layTable_24 : decode cX12_layTable 24 = .ok (.bipush 8, 2) := by decide +kernel
theorem dX12_layTable_26 : decode cX12_layTable 26 = .ok (.iload_n 1, 1) := by decide +kernel
theorem dX12_layTable_27 : decode cX12_layTable 27 = .ok (.imul, 1) := by decide +kernel
theorem dX12_layTable_28 : decode cX12_layTable 28 = .ok (.iload_n 2, 1) := by decide +kernel
theorem dX12_layTable_29 : decode cX12_layTable 29 = .ok (.iadd, 1) := by decide +kernel
theorem dX12_layTable_30 : decode cX12_layTable 30 = .ok (.sipush 10000, 3) := by decide +kernel
theorem dX12_layTable_33 : decode cX12_layTable 33 = .ok (.iastore, 1) := by decide +kernel
theorem dX12_layTable_34 : decode cX12_layTable 34 = .ok (.iinc 2 1, 3) := by decide +kernel
theorem dX12_layTable_37 : decode cX12_layTable 37 = .ok (.goto (-25), 3) := by decide +kernel
theorem dX12_layTable_40 : decode cX12_layTable 40 = .ok (.iconst 1, 1) := by decide +kernel
theorem dX12_layTable_41 : decode cX12_layTable 41 = .ok (.iload_n 1, 1) := by decide +kernel
theorem dX12_layTable_42 : decode cX12_layTable 42 = .ok (.ishl, 1) := by decide +kernel
theorem dX12_layTable_43 : decode cX12_layTable 43 = .ok (.istore_n 2, 1) := by decide +kernel
theorem dX12_layTable_44 : decode cX12_layTable 44 = .ok (.iconst 0, 1) := by decide +kernel
theorem dX12_layTable_45 : decode cX12_layTable 45 = .ok (.istore_n 3, 1) := by decide +kernel
theorem dX12_layTable_46 : decode cX12_layTable 46 = .ok (.iconst 0, 1) := by decide +kernel
theorem dX12_layTable_47 : decode cX12_layTable 47 = .ok (.istore 4, 2) := by decide +kernel
theorem dX12_layTable_49 : decode cX12_layTable 49 = .ok (.iload 4, 2) := by decide +kernel
theorem dX12_layTable_51 : decode cX12_layTable 51 = .ok (.bipush 8, 2) := by decide +kernel
theorem dX12_layTable_53 : decode cX12_layTable 53 = .ok (.if_icmp .ge 82, 3) := by decide +kernel
theorem dX12_layTable_56 : decode cX12_layTable 56 = .ok (.iload_n 2, 1) := by decide +kernel
theorem dX12_layTable_57 : decode cX12_layTable 57 = .ok (.istore 5, 2) := by decide +kernel
theorem dX12_layTable_59 : decode cX12_layTable 59 = .ok (.iconst 0, 1) := by decide +kernel
theorem dX12_layTable_60 : decode cX12_layTable 60 = .ok (.istore 6, 2) := by decide +kernel
theorem dX12_layTable_62 : decode cX12_layTable 62 = .ok (.iload 6, 2) := by decide +kernel
theorem dX12_layTable_64 : decode cX12_layTable 64 = .ok (.aload_n 0, 1) := by decide +kernel
theorem dX12_layTable_65 : decode cX12_layTable 65 = .ok (.invokevirtual 378, 3) := by decide +kernel
theorem dX12_layTable_68 : decode cX12_layTable 68 = .ok (.if_icmp .ge 56, 3) := by decide +kernel
theorem dX12_layTable_71 : decode cX12_layTable 71 = .ok (.iload_n 2, 1) := by decide +kernel
theorem dX12_layTable_72 : decode cX12_layTable 72 = .ok (.iload 6, 2) := by decide +kernel
theorem dX12_layTable_74 : decode cX12_layTable 74 = .ok (.invokestatic 397, 3) := by decide +kernel
theorem dX12_layTable_77 : decode cX12_layTable 77 = .ok (.ifCond .eq 41, 3) := by decide +kernel
theorem dX12_layTable_80 : decode cX12_layTable 80 = .ok (.iload_n 3, 1) := by decide +kernel
theorem dX12_layTable_81 : decode cX12_layTable 81 = .ok (.iload 6, 2) := by decide +kernel
theorem dX12_layTable_83 : decode cX12_layTable 83 = .ok (.invokestatic 397, 3) := by decide +kernel
theorem dX12_layTable_86 : decode cX12_layTable 86 = .ok (.ifCond .eq 6, 3) := by decide +kernel
theorem dX12_layTable_89 : decode cX12_layTable 89 = .ok (.goto 29, 3) := by decide +kernel
theorem dX12_layTable_92 : decode cX12_layTable 92 = .ok (.aload_n 0, 1) := by decide +kernel
theorem dX12_layTable_93 : decode cX12_layTable 93 = .ok (.getfield 98, 3) := by decide +kernel
theorem dX12_layTable_96 : decode cX12_layTable 96 = .ok (.bipush 8, 2) := by decide +kernel
theorem dX12_layTable_98 : decode cX12_layTable 98 = .ok (.iload_n 1, 1) := by decide +kernel
theorem dX12_layTable_99 : decode cX12_layTable 99 = .ok (.imul, 1) := by decide +kernel
theorem dX12_layTable_100 : decode cX12_layTable 100 = .ok (.iload 6, 2) := by decide +kernel
theorem dX12_layTable_102 : decode cX12_layTable 102 = .ok (.iadd, 1) := by decide +kernel
theorem dX12_layTable_103 : decode cX12_layTable 103 = .ok (.iload 4, 2) := by decide +kernel
theorem dX12_layTable_105 : decode cX12_layTable 105 = .ok (.iastore, 1) := by decide +kernel
theorem dX12_layTable_106 : decode cX12_layTable 106 = .ok (.iload 5, 2) := by decide +kernel
theorem dX12_layTable_108 : decode cX12_layTable 108 = .ok (.aload_n 0, 1) := by decide +kernel
theorem dX12_layTable_109 : decode cX12_layTable 109 = .ok (.iload 6, 2) := by decide +kernel
theorem dX12_layTable_111 : decode cX12_layTable 111 = .ok (.iconst (-1), 1) := by decide +kernel
theorem dX12_layTable_112 : decode cX12_layTable 112 = .ok (.invokevirtual 400, 3) := by decide +kernel
theorem dX12_layTable_115 : decode cX12_layTable 115 = .ok (.ior, 1) := by decide +kernel
theorem dX12_layTable_116 : decode cX12_layTable 116 = .ok (.istore 5, 2) := by decide +kernel
theorem dX12_layTable_118 : decode cX12_layTable 118 = .ok (.iinc 6 1, 3) := by decide +kernel
theorem dX12_layTable_121 : decode cX12_layTable 121 = .ok (.goto (-59), 3) := by decide +kernel
theorem dX12_layTable_124 : decode cX12_layTable 124 = .ok (.iload_n 2, 1) := by decide +kernel
theorem dX12_layTable_125 : decode cX12_layTable 125 = .ok (.istore_n 3, 1) := by decide +kernel
theorem dX12_layTable_126 : decode cX12_layTable 126 = .ok (.iload 5, 2) := by decide +kernel
theorem dX12_layTable_128 : decode cX12_layTable 128 = .ok (.istore_n 2, 1) := by decide +kernel
theorem dX12_layTable_129 : decode cX12_layTable 129 = .ok (.iinc 4 1, 3) := by decide +kernel
theorem dX12_layTable_132 : decode cX12_layTable 132 = .ok (.goto (-83), 3) := by decide +kernel
theorem dX12_layTable_135 : decode cX12_layTable 135 = .ok (.iinc 1 1, 3) := by decide +kernel
theorem dX12_layTable_138 : decode cX12_layTable 138 = .ok (.goto (-136), 3) := by decide +kernel
theorem dX12_layTable_141 : decode cX12_layTable 141 = .ok (.iconst 0, 1) := by decide +kernel
theorem dX12_layTable_142 : decode cX12_layTable 142 = .ok (.istore_n 1, 1) := by decide +kernel
theorem dX12_layTable_143 : decode cX12_layTable 143 = .ok (.iload_n 1, 1) := by decide +kernel
theorem dX12_layTable_144 : decode cX12_layTable 144 = .ok (.aload_n 0, 1) := by decide +kernel
theorem dX12_layTable_145 : decode cX12_layTable 145 = .ok (.getfield 24, 3) := by decide +kernel
theorem dX12_layTable_148 : decode cX12_layTable 148 = .ok (.aload_n 0, 1) := by decide +kernel
theorem dX12_layTable_149 : decode cX12_layTable 149 = .ok (.getfield 280, 3) := by decide +kernel
theorem dX12_layTable_152 : decode cX12_layTable 152 = .ok (.iaload, 1) := by decide +kernel
theorem dX12_layTable_153 : decode cX12_layTable 153 = .ok (.if_icmp .ge 25, 3) := by decide +kernel
theorem dX12_layTable_156 : decode cX12_layTable 156 = .ok (.aload_n 0, 1) := by decide +kernel
theorem dX12_layTable_157 : decode cX12_layTable 157 = .ok (.getfield 101, 3) := by decide +kernel
theorem dX12_layTable_160 : decode cX12_layTable 160 = .ok (.iload_n 1, 1) := by decide +kernel
theorem dX12_layTable_161 : decode cX12_layTable 161 = .ok (.aload_n 0, 1) := by decide +kernel
theorem dX12_layTable_162 : decode cX12_layTable 162 = .ok (.aload_n 0, 1) := by decide +kernel
theorem dX12_layTable_163 : decode cX12_layTable 163 = .ok (.iload_n 1, 1) := by decide +kernel
theorem dX12_layTable_164 : decode cX12_layTable 164 = .ok (.invokevirtual 391, 3) := by decide +kernel
theorem dX12_layTable_167 : decode cX12_layTable 167 = .ok (.iload_n 1, 1) := by decide +kernel
theorem dX12_layTable_168 : decode cX12_layTable 168 = .ok (.invokevirtual 403, 3) := by decide +kernel
theorem dX12_layTable_171 : decode cX12_layTable 171 = .ok (.iastore, 1) := by decide +kernel
theorem dX12_layTable_172 : decode cX12_layTable 172 = .ok (.iinc 1 1, 3) := by decide +kernel
theorem dX12_layTable_175 : decode cX12_layTable 175 = .ok (.goto (-32), 3) := by decide +kernel
theorem dX12_layTable_178 : decode cX12_layTable 178 = .ok (.return_, 1) := by decide +kernel
theorem dX12_doesPart_0 : decode cX12_doesPart 0 = .ok (.aload_n 0, 1) := by decide +kernel
theorem dX12_doesPart_1 : decode cX12_doesPart 1 = .ok (.getfield 101, 3) := by decide +kernel
theorem dX12_doesPart_4 : decode cX12_doesPart 4 = .ok (.iload_n 1, 1) := by decide +kernel
theorem dX12_doesPart_5 : decode cX12_doesPart 5 = .ok (.iaload, 1) := by decide +kernel
theorem dX12_doesPart_6 : decode cX12_doesPart 6 = .ok (.aload_n 0, 1) := by decide +kernel
theorem dX12_doesPart_7 : decode cX12_doesPart 7 = .ok (.iload_n 1, 1) := by decide +kernel
theorem dX12_doesPart_8 : decode cX12_doesPart 8 = .ok (.invokevirtual 394, 3) := by decide +kernel
theorem dX12_doesPart_11 : decode cX12_doesPart 11 = .ok (.invokestatic 397, 3) := by decide +kernel
theorem dX12_doesPart_14 : decode cX12_doesPart 14 = .ok (.ifCond .ne 7, 3) := by decide +kernel
theorem dX12_doesPart_17 : decode cX12_doesPart 17 = .ok (.iconst 1, 1) := by decide +kernel
theorem dX12_doesPart_18 : decode cX12_doesPart 18 = .ok (.goto 4, 3) := by decide +kernel
theorem dX12_doesPart_21 : decode cX12_doesPart 21 = .ok (.iconst 0, 1) := by decide +kernel
theorem dX12_doesPart_22 : decode cX12_doesPart 22 = .ok (.ireturn, 1) := by decide +kernel
theorem dX12_startAnew_0 : decode cX12_startAnew 0 = .ok (.iconst 0, 1) := by decide +kernel
theorem dX12_startAnew_1 : decode cX12_startAnew 1 = .ok (.istore_n 1, 1) := by decide +kernel
theorem dX12_startAnew_2 : decode cX12_startAnew 2 = .ok (.iload_n 1, 1) := by decide +kernel
theorem dX12_startAnew_3 : decode cX12_startAnew 3 = .ok (.bipush 32, 2) := by decide +kernel
theorem dX12_startAnew_5 : decode cX12_startAnew 5 = .ok (.if_icmp .ge 16, 3) := by decide +kernel
theorem dX12_startAnew_8 : decode cX12_startAnew 8 = .ok (.aload_n 0, 1) := by decide +kernel
theorem dX12_startAnew_9 : decode cX12_startAnew 9 = .ok (.getfield 95, 3) := by decide +kernel
theorem dX12_startAnew_12 : decode cX12_startAnew 12 = .ok (.iload_n 1, 1) := by decide +kernel
theorem dX12_startAnew_13 : decode cX12_startAnew 13 = .ok (.iconst 0, 1) := by decide +kernel
theorem dX12_startAnew_14 : decode cX12_startAnew 14 = .ok (.iastore, 1) := by decide +kernel
theorem dX12_startAnew_15 : decode cX12_startAnew 15 = .ok (.iinc 1 1, 3) := by decide +kernel
theorem dX12_startAnew_18 : decode cX12_startAnew 18 = .ok (.goto (-16), 3) := by decide +kernel
theorem dX12_startAnew_21 : decode cX12_startAnew 21 = .ok (.iconst 0, 1) := by decide +kernel
theorem dX12_startAnew_22 : decode cX12_startAnew 22 = .ok (.istore_n 1, 1) := by decide +kernel
theorem dX12_startAnew_23 : decode cX12_startAnew 23 = .ok (.iload_n 1, 1) := by decide +kernel
theorem dX12_startAnew_24 : decode cX12_startAnew 24 = .ok (.aload_n 0, 1) := by decide +kernel
theorem dX12_startAnew_25 : decode cX12_startAnew 25 = .ok (.invokevirtual 388, 3) := by decide +kernel
theorem dX12_startAnew_28 : decode cX12_startAnew 28 = .ok (.if_icmp .ge 77, 3) := by decide +kernel
theorem dX12_startAnew_31 : decode cX12_startAnew 31 = .ok (.aload_n 0, 1) := by decide +kernel
theorem dX12_startAnew_32 : decode cX12_startAnew 32 = .ok (.getfield 95, 3) := by decide +kernel
theorem dX12_startAnew_35 : decode cX12_startAnew 35 = .ok (.iconst 0, 1) := by decide +kernel
theorem dX12_startAnew_36 : decode cX12_startAnew 36 = .ok (.iload_n 1, 1) := by decide +kernel
theorem dX12_startAnew_37 : decode cX12_startAnew 37 = .ok (.iadd, 1) := by decide +kernel
theorem dX12_startAnew_38 : decode cX12_startAnew 38 = .ok (.aload_n 0, 1) := by decide +kernel
theorem dX12_startAnew_39 : decode cX12_startAnew 39 = .ok (.getfield 45, 3) := by decide +kernel
theorem dX12_startAnew_42 : decode cX12_startAnew 42 = .ok (.bipush 6, 2) := by decide +kernel
theorem dX12_startAnew_44 : decode cX12_startAnew 44 = .ok (.aload_n 0, 1) := by decide +kernel
theorem dX12_startAnew_45 : decode cX12_startAnew 45 = .ok (.getfield 280, 3) := by decide +kernel
theorem dX12_startAnew_48 : decode cX12_startAnew 48 = .ok (.imul, 1) := by decide +kernel
theorem dX12_startAnew_49 : decode cX12_startAnew 49 = .ok (.iload_n 1, 1) := by decide +kernel
theorem dX12_startAnew_50 : decode cX12_startAnew 50 = .ok (.iadd, 1) := by decide +kernel
theorem dX12_startAnew_51 : decode cX12_startAnew 51 = .ok (.iaload, 1) := by decide +kernel
theorem dX12_startAnew_52 : decode cX12_startAnew 52 = .ok (.iastore, 1) := by decide +kernel
theorem dX12_startAnew_53 : decode cX12_startAnew 53 = .ok (.aload_n 0, 1) := by decide +kernel
theorem dX12_startAnew_54 : decode cX12_startAnew 54 = .ok (.getfield 95, 3) := by decide +kernel
theorem dX12_startAnew_57 : decode cX12_startAnew 57 = .ok (.bipush 6, 2) := by decide +kernel
theorem dX12_startAnew_59 : decode cX12_startAnew 59 = .ok (.iload_n 1, 1) := by decide +kernel
theorem dX12_startAnew_60 : decode cX12_startAnew 60 = .ok (.iadd, 1) := by decide +kernel
theorem dX12_startAnew_61 : decode cX12_startAnew 61 = .ok (.aload_n 0, 1) := by decide +kernel
theorem dX12_startAnew_62 : decode cX12_startAnew 62 = .ok (.getfield 48, 3) := by decide +kernel
theorem dX12_startAnew_65 : decode cX12_startAnew 65 = .ok (.bipush 6, 2) := by decide +kernel
theorem dX12_startAnew_67 : decode cX12_startAnew 67 = .ok (.aload_n 0, 1) := by decide +kernel
theorem dX12_startAnew_68 : decode cX12_startAnew 68 = .ok (.getfield 280, 3) := by decide +kernel
theorem dX12_startAnew_71 : decode cX12_startAnew 71 = .ok (.imul, 1) := by decide +kernel
theorem dX12_startAnew_72 : decode cX12_startAnew 72 = .ok (.iload_n 1, 1) := by decide +kernel
theorem dX12_startAnew_73 : decode cX12_startAnew 73 = .ok (.iadd, 1) := by decide +kernel
theorem dX12_startAnew_74 : decode cX12_startAnew 74 = .ok (.iaload, 1) := by decide +kernel
theorem dX12_startAnew_75 : decode cX12_startAnew 75 = .ok (.iastore, 1) := by decide +kernel
theorem dX12_startAnew_76 : decode cX12_startAnew 76 = .ok (.aload_n 0, 1) := by decide +kernel
theorem dX12_startAnew_77 : decode cX12_startAnew 77 = .ok (.getfield 95, 3) := by decide +kernel
theorem dX12_startAnew_80 : decode cX12_startAnew 80 = .ok (.bipush 12, 2) := by decide +kernel
theorem dX12_startAnew_82 : decode cX12_startAnew 82 = .ok (.iload_n 1, 1) := by decide +kernel
theorem dX12_startAnew_83 : decode cX12_startAnew 83 = .ok (.iadd, 1) := by decide +kernel
theorem dX12_startAnew_84 : decode cX12_startAnew 84 = .ok (.aload_n 0, 1) := by decide +kernel
theorem dX12_startAnew_85 : decode cX12_startAnew 85 = .ok (.getfield 51, 3) := by decide +kernel
theorem dX12_startAnew_88 : decode cX12_startAnew 88 = .ok (.bipush 6, 2) := by decide +kernel
theorem dX12_startAnew_90 : decode cX12_startAnew 90 = .ok (.aload_n 0, 1) := by decide +kernel
theorem dX12_startAnew_91 : decode cX12_startAnew 91 = .ok (.getfield 280, 3) := by decide +kernel
theorem dX12_startAnew_94 : decode cX12_startAnew 94 = .ok (.imul, 1) := by decide +kernel
theorem dX12_startAnew_95 : decode cX12_startAnew 95 = .ok (.iload_n 1, 1) := by decide +kernel
theorem dX12_startAnew_96 : decode cX12_startAnew 96 = .ok (.iadd, 1) := by decide +kernel
theorem dX12_startAnew_97 : decode cX12_startAnew 97 = .ok (.iaload, 1) := by decide +kernel
theorem dX12_startAnew_98 : decode cX12_startAnew 98 = .ok (.iastore, 1) := by decide +kernel
theorem dX12_startAnew_99 : decode cX12_startAnew 99 = .ok (.iinc 1 1, 3) := by decide +kernel
theorem dX12_startAnew_102 : decode cX12_startAnew 102 = .ok (.goto (-79), 3) := by decide +kernel
theorem dX12_startAnew_105 : decode cX12_startAnew 105 = .ok (.iconst 0, 1) := by decide +kernel
theorem dX12_startAnew_106 : decode cX12_startAnew 106 = .ok (.istore_n 1, 1) := by decide +kernel
theorem dX12_startAnew_107 : decode cX12_startAnew 107 = .ok (.iload_n 1, 1) := by decide +kernel
theorem dX12_startAnew_108 : decode cX12_startAnew 108 = .ok (.bipush 6, 2) := by decide +kernel
theorem dX12_startAnew_110 : decode cX12_startAnew 110 = .ok (.if_icmp .ge 19, 3) := by decide +kernel
theorem dX12_startAnew_113 : decode cX12_startAnew 113 = .ok (.aload_n 0, 1) := by decide +kernel
theorem dX12_startAnew_114 : decode cX12_startAnew 114 = .ok (.getfield 95, 3) := by decide +kernel
theorem dX12_startAnew_117 : decode cX12_startAnew 117 = .ok (.bipush 24, 2) := by decide +kernel
theorem dX12_startAnew_119 : decode cX12_startAnew 119 = .ok (.iload_n 1, 1) := by decide +kernel
theorem dX12_startAnew_120 : decode cX12_startAnew 120 = .ok (.iadd, 1) := by decide +kernel
theorem dX12_startAnew_121 : decode cX12_startAnew 121 = .ok (.iconst (-1), 1) := by decide +kernel
theorem dX12_startAnew_122 : decode cX12_startAnew 122 = .ok (.iastore, 1) := by decide +kernel
theorem dX12_startAnew_123 : decode cX12_startAnew 123 = .ok (.iinc 1 1, 3) := by decide +kernel
theorem dX12_startAnew_126 : decode cX12_startAnew 126 = .ok (.goto (-19), 3) := by decide +kernel
theorem dX12_startAnew_129 : decode cX12_startAnew 129 = .ok (.aload_n 0, 1) := by decide +kernel
theorem dX12_startAnew_130 : decode cX12_startAnew 130 = .ok (.getfield 95, 3) := by decide +kernel
theorem dX12_startAnew_133 : decode cX12_startAnew 133 = .ok (.bipush 31, 2) := by decide +kernel
theorem dX12_startAnew_135 : decode cX12_startAnew 135 = .ok (.aload_n 0, 1) := by decide +kernel
theorem dX12_startAnew_136 : decode cX12_startAnew 136 = .ok (.getfield 33, 3) := by decide +kernel
theorem dX12_startAnew_139 : decode cX12_startAnew 139 = .ok (.aload_n 0, 1) := by decide +kernel
theorem dX12_startAnew_140 : decode cX12_startAnew 140 = .ok (.getfield 280, 3) := by decide +kernel
theorem dX12_startAnew_143 : decode cX12_startAnew 143 = .ok (.iaload, 1) := by decide +kernel
theorem dX12_startAnew_144 : decode cX12_startAnew 144 = .ok (.iastore, 1) := by decide +kernel
theorem dX12_startAnew_145 : decode cX12_startAnew 145 = .ok (.aload_n 0, 1) := by decide +kernel
theorem dX12_startAnew_146 : decode cX12_startAnew 146 = .ok (.invokevirtual 406, 3) := by decide +kernel
theorem dX12_startAnew_149 : decode cX12_startAnew 149 = .ok (.aload_n 0, 1) := by decide +kernel
theorem dX12_startAnew_150 : decode cX12_startAnew 150 = .ok (.iconst 0, 1) := by decide +kernel
theorem dX12_startAnew_151 : decode cX12_startAnew 151 = .ok (.putfield 409, 3) := by decide +kernel
theorem dX12_startAnew_154 : decode cX12_startAnew 154 = .ok (.aload_n 0, 1) := by decide +kernel
theorem dX12_startAnew_155 : decode cX12_startAnew 155 = .ok (.iconst 0, 1) := by decide +kernel
theorem dX12_startAnew_156 : decode cX12_startAnew 156 = .ok (.putfield 412, 3) := by decide +kernel
theorem dX12_startAnew_159 : decode cX12_startAnew 159 = .ok (.aload_n 0, 1) := by decide +kernel
theorem dX12_startAnew_160 : decode cX12_startAnew 160 = .ok (.iconst 0, 1) := by decide +kernel
theorem dX12_startAnew_161 : decode cX12_startAnew 161 = .ok (.putfield 415, 3) := by decide +kernel
theorem dX12_startAnew_164 : decode cX12_startAnew 164 = .ok (.aload_n 0, 1) := by decide +kernel
theorem dX12_startAnew_165 : decode cX12_startAnew 165 = .ok (.iconst 0, 1) := by decide +kernel
theorem dX12_startAnew_166 : decode cX12_startAnew 166 = .ok (.putfield 418, 3) := by decide +kernel
theorem dX12_startAnew_169 : decode cX12_startAnew 169 = .ok (.iconst 0, 1) := by decide +kernel
theorem dX12_startAnew_170 : decode cX12_startAnew 170 = .ok (.istore_n 1, 1) := by decide +kernel
theorem dX12_startAnew_171 : decode cX12_startAnew 171 = .ok (.iload_n 1, 1) := by decide +kernel
theorem dX12_startAnew_172 : decode cX12_startAnew 172 = .ok (.iconst 3, 1) := by decide +kernel
theorem dX12_startAnew_173 : decode cX12_startAnew 173 = .ok (.if_icmp .ge 16, 3) := by decide +kernel
theorem dX12_startAnew_176 : decode cX12_startAnew 176 = .ok (.aload_n 0, 1) := by decide +kernel
theorem dX12_startAnew_177 : decode cX12_startAnew 177 = .ok (.getfield 164, 3) := by decide +kernel
theorem dX12_startAnew_180 : decode cX12_startAnew 180 = .ok (.iload_n 1, 1) := by decide +kernel
theorem dX12_startAnew_181 : decode cX12_startAnew 181 = .ok (.iconst 0, 1) := by decide +kernel
theorem dX12_startAnew_182 : decode cX12_startAnew 182 = .ok (.bastore, 1) := by decide +kernel
theorem dX12_startAnew_183 : decode cX12_startAnew 183 = .ok (.iinc 1 1, 3) := by decide +kernel
theorem dX12_startAnew_186 : decode cX12_startAnew 186 = .ok (.goto (-15), 3) := by decide +kernel
theorem dX12_startAnew_189 : decode cX12_startAnew 189 = .ok (.return_, 1) := by decide +kernel
theorem dX12_room_0 : decode cX12_room 0 = .ok (.aload_n 0, 1) := by decide +kernel
theorem dX12_room_1 : decode cX12_room 1 = .ok (.iload_n 1, 1) := by decide +kernel
theorem dX12_room_2 : decode cX12_room 2 = .ok (.invokevirtual 385, 3) := by decide +kernel
theorem dX12_room_5 : decode cX12_room 5 = .ok (.ifCond .ne 5, 3) := by decide +kernel
theorem dX12_room_8 : decode cX12_room 8 = .ok (.iconst (-1), 1) := by decide +kernel
theorem dX12_room_9 : decode cX12_room 9 = .ok (.ireturn, 1) := by decide +kernel
theorem dX12_room_10 : decode cX12_room 10 = .ok (.iload_n 2, 1) := by decide +kernel
theorem dX12_room_11 : decode cX12_room 11 = .ok (.tableswitch 57 0 3 #[29, 35, 42, 49], 29) := by decide +kernel
theorem dX12_room_40 : decode cX12_room 40 = .ok (.aload_n 0, 1) := by decide +kernel
theorem dX12_room_41 : decode cX12_room 41 = .ok (.iload_n 1, 1) := by decide +kernel
theorem dX12_room_42 : decode cX12_room 42 = .ok (.invokevirtual 430, 3) := by decide +kernel
theorem dX12_room_45 : decode cX12_room 45 = .ok (.ireturn, 1) := by decide +kernel
theorem dX12_room_46 : decode cX12_room 46 = .ok (.aload_n 0, 1) := by decide +kernel
theorem dX12_room_47 : decode cX12_room 47 = .ok (.iload_n 1, 1) := by decide +kernel
theorem dX12_room_48 : decode cX12_room 48 = .ok (.iconst (-1), 1) := by decide +kernel
theorem dX12_room_49 : decode cX12_room 49 = .ok (.invokevirtual 400, 3) := by decide +kernel
theorem dX12_room_52 : decode cX12_room 52 = .ok (.ireturn, 1) := by decide +kernel
theorem dX12_room_53 : decode cX12_room 53 = .ok (.aload_n 0, 1) := by decide +kernel
theorem dX12_room_54 : decode cX12_room 54 = .ok (.iconst 0, 1) := by decide +kernel
theorem dX12_room_55 : decode cX12_room 55 = .ok (.iload_n 1, 1) := by decide +kernel
theorem dX12_room_56 : decode cX12_room 56 = .ok (.invokevirtual 433, 3) := by decide +kernel
theorem dX12_room_59 : decode cX12_room 59 = .ok (.ireturn, 1) := by decide +kernel
theorem dX12_room_60 : decode cX12_room 60 = .ok (.aload_n 0, 1) := by decide +kernel
theorem dX12_room_61 : decode cX12_room 61 = .ok (.bipush 6, 2) := by decide +kernel
theorem dX12_room_63 : decode cX12_room 63 = .ok (.iload_n 1, 1) := by decide +kernel
theorem dX12_room_64 : decode cX12_room 64 = .ok (.invokevirtual 433, 3) := by decide +kernel
theorem dX12_room_67 : decode cX12_room 67 = .ok (.ireturn, 1) := by decide +kernel
theorem dX12_room_68 : decode cX12_room 68 = .ok (.iconst (-1), 1) := by decide +kernel
theorem dX12_room_69 : decode cX12_room 69 = .ok (.ireturn, 1) := by decide +kernel
theorem dX12_door_0 : decode cX12_door 0 = .ok (.iload_n 1, 1) := by decide +kernel
theorem dX12_door_1 : decode cX12_door 1 = .ok (.iconst 0, 1) := by decide +kernel
theorem dX12_door_2 : decode cX12_door 2 = .ok (.aload_n 0, 1) := by decide +kernel
theorem dX12_door_3 : decode cX12_door 3 = .ok (.getfield 24, 3) := by decide +kernel
theorem dX12_door_6 : decode cX12_door 6 = .ok (.aload_n 0, 1) := by decide +kernel
theorem dX12_door_7 : decode cX12_door 7 = .ok (.getfield 280, 3) := by decide +kernel
theorem dX12_door_10 : decode cX12_door 10 = .ok (.iaload, 1) := by decide +kernel
theorem dX12_door_11 : decode cX12_door 11 = .ok (.iconst 1, 1) := by decide +kernel
theorem dX12_door_12 : decode cX12_door 12 = .ok (.isub, 1) := by decide +kernel
theorem dX12_door_13 : decode cX12_door 13 = .ok (.invokestatic 381, 3) := by decide +kernel
theorem dX12_door_16 : decode cX12_door 16 = .ok (.ifCond .ne 5, 3) := by decide +kernel
theorem dX12_door_19 : decode cX12_door 19 = .ok (.iconst (-1), 1) := by decide +kernel
theorem dX12_door_20 : decode cX12_door 20 = .ok (.ireturn, 1) := by decide +kernel
theorem dX12_door_21 : decode cX12_door 21 = .ok (.iload_n 2, 1) := by decide +kernel
theorem dX12_door_22 : decode cX12_door 22 = .ok (.tableswitch 63 0 3 #[30, 36, 42, 56], 30) := by decide +kernel
theorem dX12_door_52 : decode cX12_door 52 = .ok (.aload_n 0, 1) := by decide +kernel
theorem dX12_door_53 : decode cX12_door 53 = .ok (.iload_n 1, 1) := by decide +kernel
theorem dX12_door_54 : decode cX12_door 54 = .ok (.invokevirtual 391, 3) := by decide +kernel
theorem dX12_door_57 : decode cX12_door 57 = .ok (.ireturn, 1) := by decide +kernel
theorem dX12_door_58 : decode cX12_door 58 = .ok (.aload_n 0, 1) := by decide +kernel
theorem dX12_door_59 : decode cX12_door 59 = .ok (.iload_n 1, 1) := by decide +kernel
theorem dX12_door_60 : decode cX12_door 60 = .ok (.invokevirtual 394, 3) := by decide +kernel
theorem dX12_door_63 : decode cX12_door 63 = .ok (.ireturn, 1) := by decide +kernel
theorem dX12_door_64 : decode cX12_door 64 = .ok (.aload_n 0, 1) := by decide +kernel
theorem dX12_door_65 : decode cX12_door 65 = .ok (.iload_n 1, 1) := by decide +kernel
theorem dX12_door_66 : decode cX12_door 66 = .ok (.invokevirtual 442, 3) := by decide +kernel
theorem dX12_door_69 : decode cX12_door 69 = .ok (.ifCond .eq 7, 3) := by decide +kernel
theorem dX12_door_72 : decode cX12_door 72 = .ok (.iconst 1, 1) := by decide +kernel
theorem dX12_door_73 : decode cX12_door 73 = .ok (.goto 4, 3) := by decide +kernel
theorem dX12_door_76 : decode cX12_door 76 = .ok (.iconst 0, 1) := by decide +kernel
theorem dX12_door_77 : decode cX12_door 77 = .ok (.ireturn, 1) := by decide +kernel
theorem dX12_door_78 : decode cX12_door 78 = .ok (.aload_n 0, 1) := by decide +kernel
theorem dX12_door_79 : decode cX12_door 79 = .ok (.getfield 101, 3) := by decide +kernel
theorem dX12_door_82 : decode cX12_door 82 = .ok (.iload_n 1, 1) := by decide +kernel
theorem dX12_door_83 : decode cX12_door 83 = .ok (.iaload, 1) := by decide +kernel
theorem dX12_door_84 : decode cX12_door 84 = .ok (.ireturn, 1) := by decide +kernel
theorem dX12_door_85 : decode cX12_door 85 = .ok (.iconst (-1), 1) := by decide +kernel
theorem dX12_door_86 : decode cX12_door 86 = .ok (.ireturn, 1) := by decide +kernel
theorem dX12_far_0 : decode cX12_far 0 = .ok (.aload_n 0, 1) := by decide +kernel
theorem dX12_far_1 : decode cX12_far 1 = .ok (.iload_n 1, 1) := by decide +kernel
theorem dX12_far_2 : decode cX12_far 2 = .ok (.iload_n 2, 1) := by decide +kernel
theorem dX12_far_3 : decode cX12_far 3 = .ok (.invokevirtual 445, 3) := by decide +kernel
theorem dX12_far_6 : decode cX12_far 6 = .ok (.ifCond .eq 24, 3) := by decide +kernel
theorem dX12_far_9 : decode cX12_far 9 = .ok (.aload_n 0, 1) := by decide +kernel
theorem dX12_far_10 : decode cX12_far 10 = .ok (.iload_n 1, 1) := by decide +kernel
theorem dX12_far_11 : decode cX12_far 11 = .ok (.iload_n 2, 1) := by decide +kernel
theorem dX12_far_12 : decode cX12_far 12 = .ok (.invokevirtual 421, 3) := by decide +kernel
theorem dX12_far_15 : decode cX12_far 15 = .ok (.sipush 10000, 3) := by decide +kernel
theorem dX12_far_18 : decode cX12_far 18 = .ok (.if_icmp .ge 12, 3) := by decide +kernel
theorem dX12_far_21 : decode cX12_far 21 = .ok (.aload_n 0, 1) := by decide +kernel
theorem dX12_far_22 : decode cX12_far 22 = .ok (.iload_n 1, 1) := by decide +kernel
theorem dX12_far_23 : decode cX12_far 23 = .ok (.iload_n 2, 1) := by decide +kernel
theorem dX12_far_24 : decode cX12_far 24 = .ok (.invokevirtual 421, 3) := by decide +kernel
theorem dX12_far_27 : decode cX12_far 27 = .ok (.goto 4, 3) := by decide +kernel
theorem dX12_far_30 : decode cX12_far 30 = .ok (.iconst (-1), 1) := by decide +kernel
theorem dX12_far_31 : decode cX12_far 31 = .ok (.ireturn, 1) := by decide +kernel
set_option maxRecDepth 20000 in
theorem ggX12_about_X12_many : GoodIn wsX12_about wsX12_many := goodIn_r _ [20, 21, 2, 22, 23, 24, 25, 26, 27, 28, 29, 30, 31, 32, 33, 34, 35, 36, 37, 38, 39, 40, 41, 42, 43, 44, 45, 46, 47, 48, 49, 50, 51, 52, 53, 54, 55, 56, 57, 58, 59, 60, 61, 62, 63, 64, 65, 66, 67, 68, 69, 70, 71, 72, 73, 74, 75, 76, 77, 78, 79, 80, 81, 82, 83, 84, 85, 86, 87, 88, 89, 90, 91, 92] (by decide +kernel) (by decide +kernel)
set_option maxRecDepth 20000 in
theorem gX12_about_X12_many : GoodIn wsX12_about (wsV RX12 388 RX12 yX12_many wsX12_many) := goodIn_app (goodIn_of _ (by decide +kernel)) ggX12_about_X12_many
set_option maxRecDepth 20000 in
theorem ggX12_about_X12_places : GoodIn wsX12_about wsX12_places := goodIn_r _ [15, 16, 2, 22, 23, 24, 25, 26, 27, 28, 29, 30, 31, 32, 33, 34, 35, 36, 37, 38, 39, 40, 41, 42, 43, 44, 45, 46, 47, 48, 49, 50, 51, 52, 53, 54, 55, 56, 57, 58, 59, 60, 61, 62, 63, 64, 65, 66, 67, 68, 69, 70, 71, 72, 73, 74, 75, 76, 77, 78, 79, 80, 81, 82, 83, 84, 85, 86, 87, 88, 89, 90, 91, 92] (by decide +kernel) (by decide +kernel)
set_option maxRecDepth 20000 in
theorem gX12_about_X12_places : GoodIn wsX12_about (wsV RX12 378 RX12 yX12_places wsX12_places) := goodIn_app (goodIn_of _ (by decide +kernel)) ggX12_about_X12_places
set_option maxRecDepth 20000 in
theorem ggX12_lies_X12_isIn : GoodIn wsX12_lies wsX12_isIn := goodIn_r _ [6] (by decide +kernel) (by decide +kernel)
set_option maxRecDepth 20000 in
theorem gX12_lies_X12_isIn : GoodIn wsX12_lies (va_wsS RX12 381 yX12_isIn wsX12_isIn) := goodIn_app (goodIn_of _ (by decide +kernel)) ggX12_lies_X12_isIn
set_option maxRecDepth 20000 in
theorem ggX12_told_X12_isIn : GoodIn wsX12_told wsX12_isIn := goodIn_r _ [12] (by decide +kernel) (by decide +kernel)
set_option maxRecDepth 20000 in
theorem gX12_told_X12_isIn : GoodIn wsX12_told (va_wsS RX12 381 yX12_isIn wsX12_isIn) := goodIn_app (goodIn_of _ (by decide +kernel)) ggX12_told_X12_isIn
set_option maxRecDepth 20000 in
theorem ggX12_heard_X12_isIn : GoodIn wsX12_heard wsX12_isIn := goodIn_r _ [4] (by decide +kernel) (by decide +kernel)
set_option maxRecDepth 20000 in
theorem gX12_heard_X12_isIn : GoodIn wsX12_heard (va_wsS RX12 381 yX12_isIn wsX12_isIn) := goodIn_app (goodIn_of _ (by decide +kernel)) ggX12_heard_X12_isIn
set_option maxRecDepth 20000 in
theorem ggX12_heard_X12_told : GoodIn wsX12_heard wsX12_told := goodIn_r _ [8, 9, 10, 11, 12, 13, 14, 15, 16, 1, 2, 3, 4, 17, 18, 19, 20, 21, 22, 23, 24, 25, 26, 27, 28, 29, 30, 31, 32, 33, 34, 35, 36, 37, 38, 39, 40, 41, 42, 43, 44, 45, 46, 47, 48, 49, 50, 51, 52, 53, 54, 55, 56, 57, 58, 59, 60, 61, 62, 63, 64, 65, 66, 67, 68, 69, 70, 71, 72, 73, 74, 75, 76, 77, 78, 79, 80, 81, 82, 83, 84, 85, 86, 87] (by decide +kernel) (by decide +kernel)
set_option maxRecDepth 20000 in
theorem gX12_heard_X12_told : GoodIn wsX12_heard (wsV RX12 508 RX12 yX12_told wsX12_told) := goodIn_app (goodIn_of _ (by decide +kernel)) ggX12_heard_X12_told
set_option maxRecDepth 20000 in
theorem ggX12_seen_X12_isRoom : GoodIn wsX12_seen wsX12_isRoom := goodIn_r _ [5, 6, 7, 8, 4, 9, 10, 11, 12, 13, 14, 27, 28, 29, 30, 31, 32, 33, 34, 35, 36, 37, 38, 39, 40, 41, 42, 43, 44, 45, 46, 47, 48, 49, 50, 51, 52, 53, 54, 55, 56, 57, 58, 59, 60, 61, 62, 63, 64, 65, 66, 67, 68, 69, 70, 71, 72, 73, 74, 75, 76, 77, 78, 79, 80, 81, 82, 83, 84, 85, 86, 87, 88, 89, 90, 91, 92, 93, 94, 95, 96, 97] (by decide +kernel) (by decide +kernel)
set_option maxRecDepth 20000 in
theorem gX12_seen_X12_isRoom : GoodIn wsX12_seen (wsV RX12 385 RX12 yX12_isRoom wsX12_isRoom) := goodIn_app (goodIn_of _ (by decide +kernel)) ggX12_seen_X12_isRoom
set_option maxRecDepth 20000 in
theorem ggX12_seen_X12_told : GoodIn wsX12_seen wsX12_told := goodIn_r _ [18, 19, 20, 21, 22, 23, 24, 25, 26, 12, 13, 4, 14, 27, 28, 29, 30, 31, 32, 33, 34, 35, 36, 37, 38, 39, 40, 41, 42, 43, 44, 45, 46, 47, 48, 49, 50, 51, 52, 53, 54, 55, 56, 57, 58, 59, 60, 61, 62, 63, 64, 65, 66, 67, 68, 69, 70, 71, 72, 73, 74, 75, 76, 77, 78, 79, 80, 81, 82, 83, 84, 85, 86, 87, 88, 89, 90, 91, 92, 93, 94, 95, 96, 97] (by decide +kernel) (by decide +kernel)
set_option maxRecDepth 20000 in
theorem gX12_seen_X12_told : GoodIn wsX12_seen (wsV RX12 508 RX12 yX12_told wsX12_told) := goodIn_app (goodIn_of _ (by decide +kernel)) ggX12_seen_X12_told
set_option maxRecDepth 20000 in
theorem ggX12_untell_X12_isIn : GoodIn wsX12_untell wsX12_isIn := goodIn_r _ [7] (by decide +kernel) (by decide +kernel)
set_option maxRecDepth 20000 in
theorem gX12_untell_X12_isIn : GoodIn wsX12_untell (va_wsS RX12 381 yX12_isIn wsX12_isIn) := goodIn_app (goodIn_of _ (by decide +kernel)) ggX12_untell_X12_isIn
set_option maxRecDepth 20000 in
theorem ggX12_behind_X12_oneOf : GoodIn wsX12_behind wsX12_oneOf := goodIn_r _ [7, 8, 2, 14, 15, 16, 17, 18, 19, 20, 21, 22, 23, 24, 25, 26, 27, 28, 29, 30, 31, 32, 33, 34, 35, 36, 37, 38, 39, 40, 41, 42, 43, 44, 45, 46, 47, 48, 49, 50, 51, 52, 53, 54, 55, 56, 57, 58, 59, 60, 61, 62, 63, 64, 65, 66, 67, 68, 69, 70, 71, 72, 73, 74, 75, 76, 77, 78, 79, 80, 81, 82, 83, 84] (by decide +kernel) (by decide +kernel)
set_option maxRecDepth 20000 in
theorem gX12_behind_X12_oneOf : GoodIn wsX12_behind (wsV RX12 391 RX12 yX12_oneOf wsX12_oneOf) := goodIn_app (goodIn_of _ (by decide +kernel)) ggX12_behind_X12_oneOf
set_option maxRecDepth 20000 in
theorem ggX12_behind_X12_otherOf : GoodIn wsX12_behind wsX12_otherOf := goodIn_r _ [12, 13, 2, 14, 15, 16, 17, 18, 19, 20, 21, 22, 23, 24, 25, 26, 27, 28, 29, 30, 31, 32, 33, 34, 35, 36, 37, 38, 39, 40, 41, 42, 43, 44, 45, 46, 47, 48, 49, 50, 51, 52, 53, 54, 55, 56, 57, 58, 59, 60, 61, 62, 63, 64, 65, 66, 67, 68, 69, 70, 71, 72, 73, 74, 75, 76, 77, 78, 79, 80, 81, 82, 83, 84] (by decide +kernel) (by decide +kernel)
set_option maxRecDepth 20000 in
theorem gX12_behind_X12_otherOf : GoodIn wsX12_behind (wsV RX12 394 RX12 yX12_otherOf wsX12_otherOf) := goodIn_app (goodIn_of _ (by decide +kernel)) ggX12_behind_X12_otherOf
set_option maxRecDepth 20000 in
theorem ggX12_joined_X12_behind : GoodIn wsX12_joined wsX12_behind := goodIn_r _ [14, 15, 7, 16, 17, 18, 4, 19, 20, 21, 22, 23, 24, 25, 26, 27, 28, 29, 30, 31, 32, 33, 34, 35, 36, 37, 38, 39, 40, 41, 42, 43, 44, 45, 46, 47, 48, 49, 50, 51, 52, 53, 54, 55, 56, 57, 58, 59, 60, 61, 62, 63, 64, 65, 66, 67, 68, 69, 70, 71, 72, 73, 74, 75, 76, 77, 78, 79, 80, 81, 82, 83, 84, 85, 86, 87, 88, 89, 90, 91, 92, 93, 94, 95, 96] (by decide +kernel) (by decide +kernel)
set_option maxRecDepth 20000 in
theorem gX12_joined_X12_behind : GoodIn wsX12_joined (wsV RX12 400 RX12 yX12_behind wsX12_behind) := goodIn_app (goodIn_of _ (by decide +kernel)) ggX12_joined_X12_behind
set_option maxRecDepth 20000 in
theorem ggX12_joined_X12_has : GoodIn wsX12_joined wsX12_has := goodIn_r _ [10] (by decide +kernel) (by decide +kernel)
set_option maxRecDepth 20000 in
theorem gX12_joined_X12_has : GoodIn wsX12_joined (va_wsS RX12 397 yX12_has wsX12_has) := goodIn_app (goodIn_of _ (by decide +kernel)) ggX12_joined_X12_has
set_option maxRecDepth 20000 in
theorem ggX12_joined_X12_places : GoodIn wsX12_joined wsX12_places := goodIn_r _ [5, 6, 7, 26, 27, 28, 29, 30, 31, 32, 33, 34, 35, 36, 37, 38, 39, 40, 41, 42, 43, 44, 45, 46, 47, 48, 49, 50, 51, 52, 53, 54, 55, 56, 57, 58, 59, 60, 61, 62, 63, 64, 65, 66, 67, 68, 69, 70, 71, 72, 73, 74, 75, 76, 77, 78, 79, 80, 81, 82, 83, 84, 85, 86, 87, 88, 89, 90, 91, 92, 93, 94, 95, 96] (by decide +kernel) (by decide +kernel)
set_option maxRecDepth 20000 in
theorem gX12_joined_X12_places : GoodIn wsX12_joined (wsV RX12 378 RX12 yX12_places wsX12_places) := goodIn_app (goodIn_of _ (by decide +kernel)) ggX12_joined_X12_places
set_option maxRecDepth 20000 in
theorem ggX12_layTable_X12_behind : GoodIn wsX12_layTable wsX12_behind := goodIn_r _ [17, 2, 3, 18, 19, 20, 8, 21, 22, 23, 24, 25, 26, 27, 32, 33, 34, 35, 36, 37, 38, 39, 40, 41, 42, 43, 44, 45, 46, 47, 48, 49, 50, 51, 52, 53, 54, 55, 56, 57, 58, 59, 60, 61, 62, 63, 64, 65, 66, 67, 68, 69, 70, 71, 72, 73, 74, 75, 76, 77, 78, 79, 80, 81, 82, 83, 84, 85, 86, 87, 88, 89, 90, 91, 92, 93, 94, 95, 96, 97, 98, 99, 100, 101, 102] (by decide +kernel) (by decide +kernel)
set_option maxRecDepth 20000 in
theorem gX12_layTable_X12_behind : GoodIn wsX12_layTable (wsV RX12 400 RX12 yX12_behind wsX12_behind) := goodIn_app (goodIn_of _ (by decide +kernel)) ggX12_layTable_X12_behind
set_option maxRecDepth 20000 in
theorem ggX12_layTable_X12_has : GoodIn wsX12_layTable wsX12_has := goodIn_r _ [13] (by decide +kernel) (by decide +kernel)
set_option maxRecDepth 20000 in
theorem gX12_layTable_X12_has : GoodIn wsX12_layTable (va_wsS RX12 397 yX12_has wsX12_has) := goodIn_app (goodIn_of _ (by decide +kernel)) ggX12_layTable_X12_has
set_option maxRecDepth 20000 in
theorem ggX12_layTable_X12_joined : GoodIn wsX12_layTable wsX12_joined := goodIn_r _ [31, 5, 6, 7, 8, 9, 10, 3, 11, 12, 13, 14, 15, 16, 17, 2, 18, 19, 20, 21, 22, 23, 24, 25, 26, 27, 32, 33, 34, 35, 36, 37, 38, 39, 40, 41, 42, 43, 44, 45, 46, 47, 48, 49, 50, 51, 52, 53, 54, 55, 56, 57, 58, 59, 60, 61, 62, 63, 64, 65, 66, 67, 68, 69, 70, 71, 72, 73, 74, 75, 76, 77, 78, 79, 80, 81, 82, 83, 84, 85, 86, 87, 88, 89, 90, 91, 92, 93, 94, 95, 96, 97, 98, 99, 100, 101, 102] (by decide +kernel) (by decide +kernel)
set_option maxRecDepth 20000 in
theorem gX12_layTable_X12_joined : GoodIn wsX12_layTable (wsV RX12 403 RX12 yX12_joined wsX12_joined) := goodIn_app (goodIn_of _ (by decide +kernel)) ggX12_layTable_X12_joined
set_option maxRecDepth 20000 in
theorem ggX12_layTable_X12_oneOf : GoodIn wsX12_layTable wsX12_oneOf := goodIn_r _ [21, 22, 3, 32, 33, 34, 35, 36, 37, 38, 39, 40, 41, 42, 43, 44, 45, 46, 47, 48, 49, 50, 51, 52, 53, 54, 55, 56, 57, 58, 59, 60, 61, 62, 63, 64, 65, 66, 67, 68, 69, 70, 71, 72, 73, 74, 75, 76, 77, 78, 79, 80, 81, 82, 83, 84, 85, 86, 87, 88, 89, 90, 91, 92, 93, 94, 95, 96, 97, 98, 99, 100, 101, 102] (by decide +kernel) (by decide +kernel)
set_option maxRecDepth 20000 in
theorem gX12_layTable_X12_oneOf : GoodIn wsX12_layTable (wsV RX12 391 RX12 yX12_oneOf wsX12_oneOf) := goodIn_app (goodIn_of _ (by decide +kernel)) ggX12_layTable_X12_oneOf
set_option maxRecDepth 20000 in
theorem ggX12_layTable_X12_places : GoodIn wsX12_layTable wsX12_places := goodIn_r _ [9, 10, 3, 32, 33, 34, 35, 36, 37, 38, 39, 40, 41, 42, 43, 44, 45, 46, 47, 48, 49, 50, 51, 52, 53, 54, 55, 56, 57, 58, 59, 60, 61, 62, 63, 64, 65, 66, 67, 68, 69, 70, 71, 72, 73, 74, 75, 76, 77, 78, 79, 80, 81, 82, 83, 84, 85, 86, 87, 88, 89, 90, 91, 92, 93, 94, 95, 96, 97, 98, 99, 100, 101, 102] (by decide +kernel) (by decide +kernel)
set_option maxRecDepth 20000 in
theorem gX12_layTable_X12_places : GoodIn wsX12_layTable (wsV RX12 378 RX12 yX12_places wsX12_places) := goodIn_app (goodIn_of _ (by decide +kernel)) ggX12_layTable_X12_places
set_option maxRecDepth 20000 in
theorem ggX12_doesPart_X12_has : GoodIn wsX12_doesPart wsX12_has := goodIn_r _ [11] (by decide +kernel) (by decide +kernel)
set_option maxRecDepth 20000 in
theorem gX12_doesPart_X12_has : GoodIn wsX12_doesPart (va_wsS RX12 397 yX12_has wsX12_has) := goodIn_app (goodIn_of _ (by decide +kernel)) ggX12_doesPart_X12_has
set_option maxRecDepth 20000 in
theorem ggX12_doesPart_X12_otherOf : GoodIn wsX12_doesPart wsX12_otherOf := goodIn_r _ [6, 7, 8, 12, 13, 14, 15, 16, 17, 18, 19, 20, 21, 22, 23, 24, 25, 26, 27, 28, 29, 30, 31, 32, 33, 34, 35, 36, 37, 38, 39, 40, 41, 42, 43, 44, 45, 46, 47, 48, 49, 50, 51, 52, 53, 54, 55, 56, 57, 58, 59, 60, 61, 62, 63, 64, 65, 66, 67, 68, 69, 70, 71, 72, 73, 74, 75, 76, 77, 78, 79, 80, 81, 82] (by decide +kernel) (by decide +kernel)
set_option maxRecDepth 20000 in
theorem gX12_doesPart_X12_otherOf : GoodIn wsX12_doesPart (wsV RX12 394 RX12 yX12_otherOf wsX12_otherOf) := goodIn_app (goodIn_of _ (by decide +kernel)) ggX12_doesPart_X12_otherOf
set_option maxRecDepth 20000 in
theorem ggX12_startAnew_X12_layTable : GoodIn wsX12_startAnew wsX12_layTable := goodIn_r _ [21, 22, 23, 3, 24, 25, 26, 27, 15, 28, 29, 30, 31, 32, 33, 34, 35, 36, 37, 38, 39, 40, 41, 42, 43, 44, 45, 46, 47, 48, 49, 50, 51, 52, 53, 54, 55, 56, 57, 58, 59, 60, 61, 62, 63, 64, 65, 66, 67, 68, 69, 70, 71, 72, 73, 74, 75, 76, 77, 78, 79, 80, 81, 82, 83, 84, 85, 86, 87, 88, 89, 90, 91, 92, 93, 94, 95, 96, 97, 98, 99, 100, 101, 102, 103, 104, 105, 106, 107, 108, 109, 110, 111, 112, 113, 114, 115, 116, 117, 118, 119, 120, 121] (by decide +kernel) (by decide +kernel)
set_option maxRecDepth 20000 in
theorem gX12_startAnew_X12_layTable : GoodIn wsX12_startAnew (wsV RX12 406 RX12 yX12_layTable wsX12_layTable) := goodIn_app (goodIn_of _ (by decide +kernel)) ggX12_startAnew_X12_layTable
set_option maxRecDepth 20000 in
theorem ggX12_startAnew_X12_many : GoodIn wsX12_startAnew wsX12_many := goodIn_r _ [16, 17, 3, 51, 52, 53, 54, 55, 56, 57, 58, 59, 60, 61, 62, 63, 64, 65, 66, 67, 68, 69, 70, 71, 72, 73, 74, 75, 76, 77, 78, 79, 80, 81, 82, 83, 84, 85, 86, 87, 88, 89, 90, 91, 92, 93, 94, 95, 96, 97, 98, 99, 100, 101, 102, 103, 104, 105, 106, 107, 108, 109, 110, 111, 112, 113, 114, 115, 116, 117, 118, 119, 120, 121] (by decide +kernel) (by decide +kernel)
set_option maxRecDepth 20000 in
theorem gX12_startAnew_X12_many : GoodIn wsX12_startAnew (wsV RX12 388 RX12 yX12_many wsX12_many) := goodIn_app (goodIn_of _ (by decide +kernel)) ggX12_startAnew_X12_many
set_option maxRecDepth 20000 in
theorem ggX12_room_X12_behind : GoodIn wsX12_room wsX12_behind := goodIn_r _ [23, 24, 11, 25, 26, 27, 4, 28, 29, 30, 31, 32, 33, 34, 45, 46, 47, 48, 49, 50, 51, 52, 53, 54, 55, 56, 57, 58, 59, 60, 61, 62, 63, 64, 65, 66, 67, 68, 69, 70, 71, 72, 73, 74, 75, 76, 77, 78, 79, 80, 81, 82, 83, 84, 85, 86, 87, 88, 89, 90, 91, 92, 93, 94, 95, 96, 97, 98, 99, 100, 101, 102, 103, 104, 105, 106, 107, 108, 109, 110, 111, 112, 113, 114, 115] (by decide +kernel) (by decide +kernel)
set_option maxRecDepth 20000 in
theorem gX12_room_X12_behind : GoodIn wsX12_room (wsV RX12 400 RX12 yX12_behind wsX12_behind) := goodIn_app (goodIn_of _ (by decide +kernel)) ggX12_room_X12_behind
set_option maxRecDepth 20000 in
theorem ggX12_room_X12_creakOf : GoodIn wsX12_room wsX12_creakOf := goodIn_r _ [18, 19, 11, 45, 46, 47, 48, 49, 50, 51, 52, 53, 54, 55, 56, 57, 58, 59, 60, 61, 62, 63, 64, 65, 66, 67, 68, 69, 70, 71, 72, 73, 74, 75, 76, 77, 78, 79, 80, 81, 82, 83, 84, 85, 86, 87, 88, 89, 90, 91, 92, 93, 94, 95, 96, 97, 98, 99, 100, 101, 102, 103, 104, 105, 106, 107, 108, 109, 110, 111, 112, 113, 114, 115] (by decide +kernel) (by decide +kernel)
set_option maxRecDepth 20000 in
theorem gX12_room_X12_creakOf : GoodIn wsX12_room (wsV RX12 430 RX12 yX12_creakOf wsX12_creakOf) := goodIn_app (goodIn_of _ (by decide +kernel)) ggX12_room_X12_creakOf
set_option maxRecDepth 20000 in
theorem ggX12_room_X12_isRoom : GoodIn wsX12_room wsX12_isRoom := goodIn_r _ [5, 6, 7, 8, 4, 9, 10, 11, 12, 13, 14, 45, 46, 47, 48, 49, 50, 51, 52, 53, 54, 55, 56, 57, 58, 59, 60, 61, 62, 63, 64, 65, 66, 67, 68, 69, 70, 71, 72, 73, 74, 75, 76, 77, 78, 79, 80, 81, 82, 83, 84, 85, 86, 87, 88, 89, 90, 91, 92, 93, 94, 95, 96, 97, 98, 99, 100, 101, 102, 103, 104, 105, 106, 107, 108, 109, 110, 111, 112, 113, 114, 115] (by decide +kernel) (by decide +kernel)
set_option maxRecDepth 20000 in
theorem gX12_room_X12_isRoom : GoodIn wsX12_room (wsV RX12 385 RX12 yX12_isRoom wsX12_isRoom) := goodIn_app (goodIn_of _ (by decide +kernel)) ggX12_room_X12_isRoom
set_option maxRecDepth 20000 in
theorem ggX12_room_X12_thingsIn : GoodIn wsX12_room wsX12_thingsIn := goodIn_r _ [38, 39, 40, 41, 42, 4, 43, 44, 11, 45, 46, 47, 48, 49, 50, 51, 52, 53, 54, 55, 56, 57, 58, 59, 60, 61, 62, 63, 64, 65, 66, 67, 68, 69, 70, 71, 72, 73, 74, 75, 76, 77, 78, 79, 80, 81, 82, 83, 84, 85, 86, 87, 88, 89, 90, 91, 92, 93, 94, 95, 96, 97, 98, 99, 100, 101, 102, 103, 104, 105, 106, 107, 108, 109, 110, 111, 112, 113, 114, 115] (by decide +kernel) (by decide +kernel)
set_option maxRecDepth 20000 in
theorem gX12_room_X12_thingsIn : GoodIn wsX12_room (wsV RX12 433 RX12 yX12_thingsIn wsX12_thingsIn) := goodIn_app (goodIn_of _ (by decide +kernel)) ggX12_room_X12_thingsIn
set_option maxRecDepth 20000 in
theorem ggX12_door_X12_doesPart : GoodIn wsX12_door wsX12_doesPart := goodIn_r _ [21, 3, 13, 14, 15, 6, 16, 17, 2, 22, 23, 24, 25, 26, 27, 28, 29, 30, 31, 32, 33, 34, 35, 36, 37, 38, 39, 40, 41, 42, 43, 44, 45, 46, 47, 48, 49, 50, 51, 52, 53, 54, 55, 56, 57, 58, 59, 60, 61, 62, 63, 64, 65, 66, 67, 68, 69, 70, 71, 72, 73, 74, 75, 76, 77, 78, 79, 80, 81, 82, 83, 84, 85, 86, 87, 88, 89, 90, 91, 92, 93, 94, 95] (by decide +kernel) (by decide +kernel)
set_option maxRecDepth 20000 in
theorem gX12_door_X12_doesPart : GoodIn wsX12_door (wsV RX12 442 RX12 yX12_doesPart wsX12_doesPart) := goodIn_app (goodIn_of _ (by decide +kernel)) ggX12_door_X12_doesPart
set_option maxRecDepth 20000 in
theorem ggX12_door_X12_isIn : GoodIn wsX12_door wsX12_isIn := goodIn_r _ [7] (by decide +kernel) (by decide +kernel)
set_option maxRecDepth 20000 in
theorem gX12_door_X12_isIn : GoodIn wsX12_door (va_wsS RX12 381 yX12_isIn wsX12_isIn) := goodIn_app (goodIn_of _ (by decide +kernel)) ggX12_door_X12_isIn
set_option maxRecDepth 20000 in
theorem ggX12_door_X12_oneOf : GoodIn wsX12_door wsX12_oneOf := goodIn_r _ [11, 12, 2, 25, 26, 27, 28, 29, 30, 31, 32, 33, 34, 35, 36, 37, 38, 39, 40, 41, 42, 43, 44, 45, 46, 47, 48, 49, 50, 51, 52, 53, 54, 55, 56, 57, 58, 59, 60, 61, 62, 63, 64, 65, 66, 67, 68, 69, 70, 71, 72, 73, 74, 75, 76, 77, 78, 79, 80, 81, 82, 83, 84, 85, 86, 87, 88, 89, 90, 91, 92, 93, 94, 95] (by decide +kernel) (by decide +kernel)
set_option maxRecDepth 20000 in
theorem gX12_door_X12_oneOf : GoodIn wsX12_door (wsV RX12 391 RX12 yX12_oneOf wsX12_oneOf) := goodIn_app (goodIn_of _ (by decide +kernel)) ggX12_door_X12_oneOf
set_option maxRecDepth 20000 in
theorem ggX12_door_X12_otherOf : GoodIn wsX12_door wsX12_otherOf := goodIn_r _ [16, 17, 2, 25, 26, 27, 28, 29, 30, 31, 32, 33, 34, 35, 36, 37, 38, 39, 40, 41, 42, 43, 44, 45, 46, 47, 48, 49, 50, 51, 52, 53, 54, 55, 56, 57, 58, 59, 60, 61, 62, 63, 64, 65, 66, 67, 68, 69, 70, 71, 72, 73, 74, 75, 76, 77, 78, 79, 80, 81, 82, 83, 84, 85, 86, 87, 88, 89, 90, 91, 92, 93, 94, 95] (by decide +kernel) (by decide +kernel)
set_option maxRecDepth 20000 in
theorem gX12_door_X12_otherOf : GoodIn wsX12_door (wsV RX12 394 RX12 yX12_otherOf wsX12_otherOf) := goodIn_app (goodIn_of _ (by decide +kernel)) ggX12_door_X12_otherOf
set_option maxRecDepth 20000 in
theorem ggX12_far_X12_areRooms : GoodIn wsX12_far wsX12_areRooms := goodIn_r _ [5, 6, 7, 8, 4, 9, 10, 11, 12, 13, 14, 15, 16, 17, 18, 24, 25, 26, 27, 28, 29, 30, 31, 32, 33, 34, 35, 36, 37, 38, 39, 40, 41, 42, 43, 44, 45, 46, 47, 48, 49, 50, 51, 52, 53, 54, 55, 56, 57, 58, 59, 60, 61, 62, 63, 64, 65, 66, 67, 68, 69, 70, 71, 72, 73, 74, 75, 76, 77, 78, 79, 80, 81, 82, 83, 84, 85, 86, 87, 88, 89, 90, 91, 92, 93, 94] (by decide +kernel) (by decide +kernel)
set_option maxRecDepth 20000 in
theorem gX12_far_X12_areRooms : GoodIn wsX12_far (wsV RX12 445 RX12 yX12_areRooms wsX12_areRooms) := goodIn_app (goodIn_of _ (by decide +kernel)) ggX12_far_X12_areRooms
set_option maxRecDepth 20000 in
theorem ggX12_far_X12_farOf : GoodIn wsX12_far wsX12_farOf := goodIn_r _ [22, 23, 24, 25, 26, 27, 28, 29, 30, 31, 32, 33, 34, 35, 36, 37, 38, 39, 40, 41, 42, 43, 44, 45, 46, 47, 48, 49, 50, 51, 52, 53, 54, 55, 56, 57, 58, 59, 60, 61, 62, 63, 64, 65, 66, 67, 68, 69, 70, 71, 72, 73, 74, 75, 76, 77, 78, 79, 80, 81, 82, 83, 84, 85, 86, 87, 88, 89, 90, 91, 92, 93, 94] (by decide +kernel) (by decide +kernel)
set_option maxRecDepth 20000 in
theorem gX12_far_X12_farOf : GoodIn wsX12_far (wsV RX12 421 RX12 yX12_farOf wsX12_farOf) := goodIn_app (goodIn_of _ (by decide +kernel)) ggX12_far_X12_farOf
theorem iw_X12_feed_X12 : ∀ w ∈ wsX120, w ∈ wsX12_feed := fun _ h => List.mem_cons_of_mem _ (List.mem_append_right _ h)
theorem iw_X12_end_X12 : ∀ w ∈ wsX120, w ∈ wsX12_end := fun _ h => List.mem_cons_of_mem _ (List.mem_append_right _ h)
theorem iw_X12_about_X12 : ∀ w ∈ wsX120, w ∈ wsX12_about := fun _ h => List.mem_cons_of_mem _ (List.mem_append_right _ h)
theorem iw_X12_lies_X12 : ∀ w ∈ wsX120, w ∈ wsX12_lies := fun _ h => List.mem_cons_of_mem _ (List.mem_append_right _ h)
theorem iw_X12_told_X12 : ∀ w ∈ wsX120, w ∈ wsX12_told := fun _ h => List.mem_cons_of_mem _ (List.mem_append_right _ h)
theorem iw_X12_untell_X12 : ∀ w ∈ wsX120, w ∈ wsX12_untell := fun _ h => List.mem_cons_of_mem _ (List.mem_append_right _ h)
theorem iw_X12_behind_X12 : ∀ w ∈ wsX120, w ∈ wsX12_behind := fun _ h => List.mem_cons_of_mem _ (List.mem_append_right _ h)
theorem iw_X12_layTable_X12 : ∀ w ∈ wsX120, w ∈ wsX12_layTable := fun _ h => List.mem_cons_of_mem _ (List.mem_append_right _ h)
theorem iw_X12_doesPart_X12 : ∀ w ∈ wsX120, w ∈ wsX12_doesPart := fun _ h => List.mem_cons_of_mem _ (List.mem_append_right _ h)
theorem iw_X12_startAnew_X12 : ∀ w ∈ wsX120, w ∈ wsX12_startAnew := fun _ h => List.mem_cons_of_mem _ (List.mem_append_right _ h)
theorem iw_X12_door_X12 : ∀ w ∈ wsX120, w ∈ wsX12_door := fun _ h => List.mem_cons_of_mem _ (List.mem_append_right _ h)
