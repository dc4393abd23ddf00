def wsX11_isRoom : List Cond := .code yX11_isRoom cX11_isRoom 2 (some .boolean) :: ([.fieldLink RX11 10 "SoldHouse" "plan" "LSoldHouse$Plan;", .fieldLink RX11 101 "SoldHouse$Plan" "rooms" "I"] ++ wsX110 ++ wsX50)
def wsX11_isThing : List Cond := .code yX11_isThing cX11_isThing 2 (some .boolean) :: ([.fieldLink RX11 10 "SoldHouse" "plan" "LSoldHouse$Plan;", .fieldLink RX11 253 "SoldHouse$Plan" "things" "I"] ++ wsX110 ++ wsX50)
def wsX11_isDoor : List Cond := .code yX11_isDoor cX11_isDoor 2 (some .boolean) :: ([.fieldLink RX11 10 "SoldHouse" "plan" "LSoldHouse$Plan;", .fieldLink RX11 309 "SoldHouse$Plan" "doors" "I"] ++ wsX110 ++ wsX50)
def wsX11_areRooms : List Cond := .code yX11_areRooms cX11_areRooms 2 (some .boolean) :: ([.fieldLink RX11 10 "SoldHouse" "plan" "LSoldHouse$Plan;", .fieldLink RX11 101 "SoldHouse$Plan" "rooms" "I"] ++ wsX110 ++ wsX50)
def wsX11_isMinute : List Cond := .code yX11_isMinute cX11_isMinute 1 (some .boolean) :: ([])
def wsX11_fault : List Cond := .code yX11_fault cX11_fault 2 (some .int) :: ([.fieldLink RX11 31 "SoldHouse" "reader" "LSoldHouse$Reader;", .fieldLink RX11 104 "SoldHouse$Reader" "fault" "I", .fieldLink RX11 107 "SoldHouse$Reader" "faultPlace" "I"] ++ wsX110 ++ wsX60)
def wsX11_room : List Cond := .code yX11_room cX11_room 3 (some .int) :: ([.fieldLink RX11 10 "SoldHouse" "plan" "LSoldHouse$Plan;", .fieldLink RX11 114 "SoldHouse$Plan" "creaks" "[I", .fieldLink RX11 40 "SoldHouse" "floor" "LSoldHouse$Floor;", .fieldLink RX11 118 "SoldHouse$Floor" "next" "[I", .fieldLink RX11 63 "SoldHouse" "memory" "LSoldHouse$Memory;", .methodLink RX11 110 yX11_isRoom, .instanceMethod yX11_isRoom, .selects RX11 yX11_isRoom yX11_isRoom, .initialized RX11, .code yX11_isRoom cX11_isRoom 2 (some .boolean), .fieldLink RX11 101 "SoldHouse$Plan" "rooms" "I", .methodLink RX11 121 yX3_thingsWith, .instanceMethod yX3_thingsWith, .selects RX3 yX3_thingsWith yX3_thingsWith, .initialized RX3, .code yX3_thingsWith cX3_thingsWith 5 (some .int), .fieldLink RX3 30 "SoldHouse$Memory" "floor" "LSoldHouse$Floor;", .fieldLink RX3 34 "SoldHouse$Floor" "plan" "LSoldHouse$Plan;", .fieldLink RX3 40 "SoldHouse$Plan" "things" "I", .fieldLink RX3 11 "SoldHouse$Memory" "now" "[I"] ++ wsX110 ++ wsX50 ++ wsX00 ++ wsX30)
def wsX11_thing_r1 : List Cond := [Cond.fieldLink RX11 63 "SoldHouse" "memory" "LSoldHouse$Memory;", Cond.fieldLink RX11 128 "SoldHouse$Memory" "now" "[I", Cond.fieldLink RX11 10 "SoldHouse" "plan" "LSoldHouse$Plan;", Cond.fieldLink RX11 131 "SoldHouse$Plan" "us" "[I", Cond.fieldLink RX11 134 "SoldHouse$Plan" "them" "[I", Cond.methodLink RX11 125 yX11_isThing, Cond.instanceMethod yX11_isThing, Cond.selects RX11 yX11_isThing yX11_isThing, Cond.initialized RX11, Cond.code yX11_isThing cX11_isThing 2 (some .boolean), Cond.fieldLink RX11 253 "SoldHouse$Plan" "things" "I", Cond.methodLink RX11 137 yX3_sureOf, Cond.instanceMethod yX3_sureOf, Cond.selects RX3 yX3_sureOf yX3_sureOf, Cond.initialized RX3, Cond.code yX3_sureOf cX3_sureOf 5 (some .int), Cond.fieldLink RX3 30 "SoldHouse$Memory" "floor" "LSoldHouse$Floor;", Cond.fieldLink RX3 34 "SoldHouse$Floor" "plan" "LSoldHouse$Plan;", Cond.fieldLink RX3 69 "SoldHouse$Plan" "sure" "LSoldHouse$Formula;", Cond.fieldLink RX3 73 "SoldHouse$Formula" "told" "Z", Cond.fieldLink RX3 79 "SoldHouse$Plan" "us" "[I", Cond.fieldLink RX3 82 "SoldHouse$Plan" "them" "[I", Cond.methodLink RX3 97 Lib.Math.min.name, Cond.static Lib.Math.min.name]
def wsX11_thing_r2 : List Cond := [Cond.initialized "java/lang/Math", Cond.code Lib.Math.min.name Lib.Math.min.code 2 (some .int), Cond.methodLink RX3 102 Lib.Math.max.name, Cond.static Lib.Math.max.name, Cond.code Lib.Math.max.name Lib.Math.max.code 2 (some .int), Cond.methodLink RX3 85 yX3_farOff, Cond.instanceMethod yX3_farOff, Cond.selects RX3 yX3_farOff yX3_farOff, Cond.code yX3_farOff cX3_farOff 4 (some .int), Cond.methodLink RX3 65 yX0_farOf, Cond.instanceMethod yX0_farOf, Cond.selects RX0 yX0_farOf yX0_farOf, Cond.initialized RX0, Cond.code yX0_farOf cX0_farOf 3 (some .int), Cond.fieldLink RX0 15 "SoldHouse$Floor" "far" "[I", Cond.methodLink RX3 89 yX1_know, Cond.instanceMethod yX1_know, Cond.selects RX1 yX1_know yX1_know, Cond.initialized RX1, Cond.code yX1_know cX1_know 6 none, Cond.fieldLink RX1 16 "SoldHouse$Formula" "known" "[I", Cond.methodLink RX3 93 yX1_work, Cond.instanceMethod yX1_work, Cond.selects RX1 yX1_work yX1_work]
def wsX11_thing_r3 : List Cond := [Cond.code yX1_work cX1_work 4 (some .int), Cond.fieldLink RX1 19 "SoldHouse$Formula" "size" "I", Cond.fieldLink RX1 9 "SoldHouse$Formula" "steps" "[I", Cond.fieldLink RX1 13 "SoldHouse$Formula" "stack" "[I", Cond.methodLink RX1 30 yX1_join, Cond.static yX1_join, Cond.code yX1_join cX1_join 3 (some .int)]
def wsX11_thing : List Cond := .code yX11_thing cX11_thing 3 (some .int) :: ((wsX11_thing_r1 ++ (wsX11_thing_r2 ++ wsX11_thing_r3)) ++ wsX110 ++ wsX30 ++ wsX50 ++ wsX00 ++ wsX10)
def wsX11_door : List Cond := .code yX11_door cX11_door 3 (some .int) :: ([.fieldLink RX11 10 "SoldHouse" "plan" "LSoldHouse$Plan;", .fieldLink RX11 144 "SoldHouse$Plan" "doorFrom" "[I", .fieldLink RX11 147 "SoldHouse$Plan" "doorTo" "[I", .fieldLink RX11 40 "SoldHouse" "floor" "LSoldHouse$Floor;", .fieldLink RX11 150 "SoldHouse$Floor" "parting" "I", .fieldLink RX11 153 "SoldHouse$Floor" "near" "[I", .methodLink RX11 141 yX11_isDoor, .instanceMethod yX11_isDoor, .selects RX11 yX11_isDoor yX11_isDoor, .initialized RX11, .code yX11_isDoor cX11_isDoor 2 (some .boolean), .fieldLink RX11 309 "SoldHouse$Plan" "doors" "I"] ++ wsX110 ++ wsX50 ++ wsX00)
def wsX11_far : List Cond := .code yX11_far cX11_far 3 (some .int) :: ([.fieldLink RX11 40 "SoldHouse" "floor" "LSoldHouse$Floor;", .methodLink RX11 110 yX11_isRoom, .instanceMethod yX11_isRoom, .selects RX11 yX11_isRoom yX11_isRoom, .initialized RX11, .code yX11_isRoom cX11_isRoom 2 (some .boolean), .fieldLink RX11 10 "SoldHouse" "plan" "LSoldHouse$Plan;", .fieldLink RX11 101 "SoldHouse$Plan" "rooms" "I", .methodLink RX11 156 yX0_farOf, .instanceMethod yX0_farOf, .selects RX0 yX0_farOf yX0_farOf, .initialized RX0, .code yX0_farOf cX0_farOf 3 (some .int), .fieldLink RX0 15 "SoldHouse$Floor" "far" "[I"] ++ wsX110 ++ wsX50 ++ wsX00)
def wsX11_tell_r1 : List Cond := [Cond.fieldLink RX11 63 "SoldHouse" "memory" "LSoldHouse$Memory;", Cond.fieldLink RX11 128 "SoldHouse$Memory" "now" "[I", Cond.methodLink RX11 125 yX11_isThing, Cond.instanceMethod yX11_isThing, Cond.selects RX11 yX11_isThing yX11_isThing, Cond.initialized RX11, Cond.code yX11_isThing cX11_isThing 2 (some .boolean), Cond.fieldLink RX11 10 "SoldHouse" "plan" "LSoldHouse$Plan;", Cond.fieldLink RX11 253 "SoldHouse$Plan" "things" "I", Cond.methodLink RX11 159 yX3_speak, Cond.instanceMethod yX3_speak, Cond.selects RX3 yX3_speak yX3_speak, Cond.initialized RX3, Cond.code yX3_speak cX3_speak 3 none, Cond.fieldLink RX3 11 "SoldHouse$Memory" "now" "[I", Cond.methodLink RX3 97 Lib.Math.min.name, Cond.static Lib.Math.min.name, Cond.initialized "java/lang/Math", Cond.code Lib.Math.min.name Lib.Math.min.code 2 (some .int), Cond.methodLink RX11 163 yX3_keepAct, Cond.instanceMethod yX3_keepAct, Cond.selects RX3 yX3_keepAct yX3_keepAct, Cond.code yX3_keepAct cX3_keepAct 1 none, Cond.fieldLink RX3 128 "SoldHouse$Memory" "undone" "I"]
def wsX11_tell_r2 : List Cond := [Cond.fieldLink RX3 131 "SoldHouse$Memory" "done" "I", Cond.fieldLink RX3 134 "SoldHouse$Memory" "oldest" "I", Cond.fieldLink RX3 20 "SoldHouse$Memory" "kept" "[[I", Cond.methodLink RX3 115 arraycopyName, Cond.native arraycopyName, Cond.static arraycopyName, Cond.initialized "java/lang/System", Cond.methodLink RX11 166 yX3_isRight, Cond.instanceMethod yX3_isRight, Cond.selects RX3 yX3_isRight yX3_isRight, Cond.code yX3_isRight cX3_isRight 3 (some .boolean)]
def wsX11_tell : List Cond := .code yX11_tell cX11_tell 2 (some .int) :: ((wsX11_tell_r1 ++ wsX11_tell_r2) ++ wsX110 ++ wsX30 ++ wsX50)
def wsX11_hear_r1 : List Cond := [Cond.fieldLink RX11 63 "SoldHouse" "memory" "LSoldHouse$Memory;", Cond.fieldLink RX11 128 "SoldHouse$Memory" "now" "[I", Cond.methodLink RX11 125 yX11_isThing, Cond.instanceMethod yX11_isThing, Cond.selects RX11 yX11_isThing yX11_isThing, Cond.initialized RX11, Cond.code yX11_isThing cX11_isThing 2 (some .boolean), Cond.fieldLink RX11 10 "SoldHouse" "plan" "LSoldHouse$Plan;", Cond.fieldLink RX11 253 "SoldHouse$Plan" "things" "I", Cond.methodLink RX11 159 yX3_speak, Cond.instanceMethod yX3_speak, Cond.selects RX3 yX3_speak yX3_speak, Cond.initialized RX3, Cond.code yX3_speak cX3_speak 3 none, Cond.fieldLink RX3 11 "SoldHouse$Memory" "now" "[I", Cond.methodLink RX3 97 Lib.Math.min.name, Cond.static Lib.Math.min.name, Cond.initialized "java/lang/Math", Cond.code Lib.Math.min.name Lib.Math.min.code 2 (some .int), Cond.methodLink RX11 163 yX3_keepAct, Cond.instanceMethod yX3_keepAct, Cond.selects RX3 yX3_keepAct yX3_keepAct, Cond.code yX3_keepAct cX3_keepAct 1 none, Cond.fieldLink RX3 128 "SoldHouse$Memory" "undone" "I"]
def wsX11_hear_r2 : List Cond := [Cond.fieldLink RX3 131 "SoldHouse$Memory" "done" "I", Cond.fieldLink RX3 134 "SoldHouse$Memory" "oldest" "I", Cond.fieldLink RX3 20 "SoldHouse$Memory" "kept" "[[I", Cond.methodLink RX3 115 arraycopyName, Cond.native arraycopyName, Cond.static arraycopyName, Cond.initialized "java/lang/System"]
def wsX11_hear : List Cond := .code yX11_hear cX11_hear 2 (some .int) :: ((wsX11_hear_r1 ++ wsX11_hear_r2) ++ wsX110 ++ wsX30 ++ wsX50)
def wsX11_send : List Cond := .code yX11_send cX11_send 2 (some .int) :: ([.fieldLink RX11 63 "SoldHouse" "memory" "LSoldHouse$Memory;", .fieldLink RX11 128 "SoldHouse$Memory" "now" "[I", .methodLink RX11 125 yX11_isThing, .instanceMethod yX11_isThing, .selects RX11 yX11_isThing yX11_isThing, .initialized RX11, .code yX11_isThing cX11_isThing 2 (some .boolean), .fieldLink RX11 10 "SoldHouse" "plan" "LSoldHouse$Plan;", .fieldLink RX11 253 "SoldHouse$Plan" "things" "I", .methodLink RX11 163 yX3_keepAct, .instanceMethod yX3_keepAct, .selects RX3 yX3_keepAct yX3_keepAct, .initialized RX3, .code yX3_keepAct cX3_keepAct 1 none, .fieldLink RX3 128 "SoldHouse$Memory" "undone" "I", .fieldLink RX3 131 "SoldHouse$Memory" "done" "I", .fieldLink RX3 134 "SoldHouse$Memory" "oldest" "I", .fieldLink RX3 11 "SoldHouse$Memory" "now" "[I", .fieldLink RX3 20 "SoldHouse$Memory" "kept" "[[I", .methodLink RX3 115 arraycopyName, .native arraycopyName, .static arraycopyName, .initialized "java/lang/System"] ++ wsX110 ++ wsX30 ++ wsX50)
def wsX11_carry_r1 : List Cond := [Cond.fieldLink RX11 10 "SoldHouse" "plan" "LSoldHouse$Plan;", Cond.fieldLink RX11 63 "SoldHouse" "memory" "LSoldHouse$Memory;", Cond.fieldLink RX11 128 "SoldHouse$Memory" "now" "[I", Cond.methodLink RX11 125 yX11_isThing, Cond.instanceMethod yX11_isThing, Cond.selects RX11 yX11_isThing yX11_isThing, Cond.initialized RX11, Cond.code yX11_isThing cX11_isThing 2 (some .boolean), Cond.fieldLink RX11 253 "SoldHouse$Plan" "things" "I", Cond.methodLink RX11 141 yX11_isDoor, Cond.instanceMethod yX11_isDoor, Cond.selects RX11 yX11_isDoor yX11_isDoor, Cond.code yX11_isDoor cX11_isDoor 2 (some .boolean), Cond.fieldLink RX11 309 "SoldHouse$Plan" "doors" "I", Cond.methodLink RX11 170 yX5_behind, Cond.instanceMethod yX5_behind, Cond.selects RX5 yX5_behind yX5_behind, Cond.initialized RX5, Cond.code yX5_behind cX5_behind 3 (some .int), Cond.fieldLink RX5 19 "SoldHouse$Plan" "doorFrom" "[I", Cond.fieldLink RX5 22 "SoldHouse$Plan" "doorTo" "[I", Cond.methodLink RX11 173 yX3_bring, Cond.instanceMethod yX3_bring, Cond.selects RX3 yX3_bring yX3_bring]
def wsX11_carry_r2 : List Cond := [Cond.initialized RX3, Cond.code yX3_bring cX3_bring 3 none, Cond.fieldLink RX3 11 "SoldHouse$Memory" "now" "[I", Cond.methodLink RX11 163 yX3_keepAct, Cond.instanceMethod yX3_keepAct, Cond.selects RX3 yX3_keepAct yX3_keepAct, Cond.code yX3_keepAct cX3_keepAct 1 none, Cond.fieldLink RX3 128 "SoldHouse$Memory" "undone" "I", Cond.fieldLink RX3 131 "SoldHouse$Memory" "done" "I", Cond.fieldLink RX3 134 "SoldHouse$Memory" "oldest" "I", Cond.fieldLink RX3 20 "SoldHouse$Memory" "kept" "[[I", Cond.methodLink RX3 115 arraycopyName, Cond.native arraycopyName, Cond.static arraycopyName, Cond.initialized "java/lang/System"]
def wsX11_carry : List Cond := .code yX11_carry cX11_carry 4 (some .int) :: ((wsX11_carry_r1 ++ wsX11_carry_r2) ++ wsX110 ++ wsX30 ++ wsX50)
def wsX3_stepBack : List Cond := .code yX3_stepBack cX3_stepBack 1 (some .boolean) :: ([.fieldLink RX3 131 "SoldHouse$Memory" "done" "I", .fieldLink RX3 128 "SoldHouse$Memory" "undone" "I", .fieldLink RX3 20 "SoldHouse$Memory" "kept" "[[I", .fieldLink RX3 134 "SoldHouse$Memory" "oldest" "I", .fieldLink RX3 11 "SoldHouse$Memory" "now" "[I", .methodLink RX3 115 arraycopyName, .native arraycopyName, .static arraycopyName, .initialized "java/lang/System"] ++ wsX30)
def wsX3_stepOn : List Cond := .code yX3_stepOn cX3_stepOn 1 (some .boolean) :: ([.fieldLink RX3 128 "SoldHouse$Memory" "undone" "I", .fieldLink RX3 131 "SoldHouse$Memory" "done" "I", .fieldLink RX3 20 "SoldHouse$Memory" "kept" "[[I", .fieldLink RX3 134 "SoldHouse$Memory" "oldest" "I", .fieldLink RX3 11 "SoldHouse$Memory" "now" "[I", .methodLink RX3 115 arraycopyName, .native arraycopyName, .static arraycopyName, .initialized "java/lang/System"] ++ wsX30)
def wsX11_undo : List Cond := .code yX11_undo cX11_undo 1 (some .boolean) :: ([.fieldLink RX11 63 "SoldHouse" "memory" "LSoldHouse$Memory;", .methodLink RX11 180 yX3_stepBack, .instanceMethod yX3_stepBack, .selects RX3 yX3_stepBack yX3_stepBack, .initialized RX3, .code yX3_stepBack cX3_stepBack 1 (some .boolean), .fieldLink RX3 131 "SoldHouse$Memory" "done" "I", .fieldLink RX3 128 "SoldHouse$Memory" "undone" "I", .fieldLink RX3 20 "SoldHouse$Memory" "kept" "[[I", .fieldLink RX3 134 "SoldHouse$Memory" "oldest" "I", .fieldLink RX3 11 "SoldHouse$Memory" "now" "[I", .methodLink RX3 115 arraycopyName, .native arraycopyName, .static arraycopyName, .initialized "java/lang/System"] ++ wsX110 ++ wsX30)
def wsX11_redo : List Cond := .code yX11_redo cX11_redo 1 (some .boolean) :: ([.fieldLink RX11 63 "SoldHouse" "memory" "LSoldHouse$Memory;", .methodLink RX11 184 yX3_stepOn, .instanceMethod yX3_stepOn, .selects RX3 yX3_stepOn yX3_stepOn, .initialized RX3, .code yX3_stepOn cX3_stepOn 1 (some .boolean), .fieldLink RX3 128 "SoldHouse$Memory" "undone" "I", .fieldLink RX3 131 "SoldHouse$Memory" "done" "I", .fieldLink RX3 20 "SoldHouse$Memory" "kept" "[[I", .fieldLink RX3 134 "SoldHouse$Memory" "oldest" "I", .fieldLink RX3 11 "SoldHouse$Memory" "now" "[I", .methodLink RX3 115 arraycopyName, .native arraycopyName, .static arraycopyName, .initialized "java/lang/System"] ++ wsX110 ++ wsX30)
def wsX11_ways_r1 : List Cond := [Cond.fieldLink RX11 49 "SoldHouse" "routes" "LSoldHouse$Routes;", Cond.methodLink RX11 110 yX11_isRoom, Cond.instanceMethod yX11_isRoom, Cond.selects RX11 yX11_isRoom yX11_isRoom, Cond.initialized RX11, Cond.code yX11_isRoom cX11_isRoom 2 (some .boolean), Cond.fieldLink RX11 10 "SoldHouse" "plan" "LSoldHouse$Plan;", Cond.fieldLink RX11 101 "SoldHouse$Plan" "rooms" "I", Cond.methodLink RX11 196 yX7_countWays, Cond.instanceMethod yX7_countWays, Cond.selects RX7 yX7_countWays yX7_countWays, Cond.initialized RX7, Cond.code yX7_countWays cX7_countWays 5 (some .int), Cond.fieldLink RX7 21 "SoldHouse$Routes" "floor" "LSoldHouse$Floor;", Cond.fieldLink RX7 15 "SoldHouse$Routes" "cost" "[I", Cond.fieldLink RX7 52 "SoldHouse$Floor" "plan" "LSoldHouse$Plan;", Cond.fieldLink RX7 56 "SoldHouse$Plan" "rooms" "I", Cond.methodLink RX7 25 yX0_farOf, Cond.instanceMethod yX0_farOf, Cond.selects RX0 yX0_farOf yX0_farOf, Cond.initialized RX0, Cond.code yX0_farOf cX0_farOf 3 (some .int), Cond.fieldLink RX0 15 "SoldHouse$Floor" "far" "[I", Cond.methodLink RX7 46 yJ7_fill_53178]
def wsX11_ways_r2 : List Cond := [Cond.static yJ7_fill_53178, Cond.initialized RJ7, Cond.code yJ7_fill_53178 cJ7_fill_53178 4 none, Cond.methodLink RX7 62 yX7_waysInto, Cond.instanceMethod yX7_waysInto, Cond.selects RX7 yX7_waysInto yX7_waysInto, Cond.code yX7_waysInto cX7_waysInto 6 (some .int), Cond.fieldLink RX7 82 "SoldHouse$Floor" "next" "[I"]
def wsX11_ways : List Cond := .code yX11_ways cX11_ways 3 (some .int) :: ((wsX11_ways_r1 ++ wsX11_ways_r2) ++ wsX110 ++ wsX50 ++ wsX70 ++ wsX00)
def wsX0_allRooms : List Cond := .code yX0_allRooms cX0_allRooms 1 (some .int) :: ([.fieldLink RX0 21 "SoldHouse$Floor" "plan" "LSoldHouse$Plan;", .fieldLink RX0 43 "SoldHouse$Plan" "rooms" "I"] ++ wsX00 ++ wsX50)
def wsX0_countPieces : List Cond := .code yX0_countPieces cX0_countPieces 4 (some .int) :: ([.fieldLink RX0 21 "SoldHouse$Floor" "plan" "LSoldHouse$Plan;", .fieldLink RX0 43 "SoldHouse$Plan" "rooms" "I", .methodLink RX0 60 yX0_allRooms, .instanceMethod yX0_allRooms, .selects RX0 yX0_allRooms yX0_allRooms, .initialized RX0, .code yX0_allRooms cX0_allRooms 1 (some .int), .methodLink RX0 64 yX0_reach, .instanceMethod yX0_reach, .selects RX0 yX0_reach yX0_reach, .code yX0_reach cX0_reach 5 (some .int), .methodLink RX0 57 yX0_behindDoors, .instanceMethod yX0_behindDoors, .selects RX0 yX0_behindDoors yX0_behindDoors, .code yX0_behindDoors cX0_behindDoors 4 (some .int), .fieldLink RX0 9 "SoldHouse$Floor" "next" "[I"] ++ wsX00 ++ wsX50)
def wsX0_middleRoom : List Cond := .code yX0_middleRoom cX0_middleRoom 5 (some .int) :: ([.fieldLink RX0 21 "SoldHouse$Floor" "plan" "LSoldHouse$Plan;", .fieldLink RX0 43 "SoldHouse$Plan" "rooms" "I", .methodLink RX0 85 yX0_farthestFrom, .instanceMethod yX0_farthestFrom, .selects RX0 yX0_farthestFrom yX0_farthestFrom, .initialized RX0, .code yX0_farthestFrom cX0_farthestFrom 4 (some .int), .methodLink RX0 71 Lib.Math.max.name, .static Lib.Math.max.name, .initialized "java/lang/Math", .code Lib.Math.max.name Lib.Math.max.code 2 (some .int), .methodLink RX0 68 yX0_farOf, .instanceMethod yX0_farOf, .selects RX0 yX0_farOf yX0_farOf, .code yX0_farOf cX0_farOf 3 (some .int), .fieldLink RX0 15 "SoldHouse$Floor" "far" "[I"] ++ wsX00 ++ wsX50)
def wsX0_creakingRooms : List Cond := .code yX0_creakingRooms cX0_creakingRooms 4 (some .int) :: ([.fieldLink RX0 21 "SoldHouse$Floor" "plan" "LSoldHouse$Plan;", .fieldLink RX0 43 "SoldHouse$Plan" "rooms" "I", .fieldLink RX0 88 "SoldHouse$Plan" "creaks" "[I"] ++ wsX00 ++ wsX50)
def wsX11_pieces : List Cond := .code yX11_pieces cX11_pieces 1 (some .int) :: ([.fieldLink RX11 40 "SoldHouse" "floor" "LSoldHouse$Floor;", .methodLink RX11 199 yX0_countPieces, .instanceMethod yX0_countPieces, .selects RX0 yX0_countPieces yX0_countPieces, .initialized RX0, .code yX0_countPieces cX0_countPieces 4 (some .int), .fieldLink RX0 21 "SoldHouse$Floor" "plan" "LSoldHouse$Plan;", .fieldLink RX0 43 "SoldHouse$Plan" "rooms" "I", .methodLink RX0 60 yX0_allRooms, .instanceMethod yX0_allRooms, .selects RX0 yX0_allRooms yX0_allRooms, .code yX0_allRooms cX0_allRooms 1 (some .int), .methodLink RX0 64 yX0_reach, .instanceMethod yX0_reach, .selects RX0 yX0_reach yX0_reach, .code yX0_reach cX0_reach 5 (some .int), .methodLink RX0 57 yX0_behindDoors, .instanceMethod yX0_behindDoors, .selects RX0 yX0_behindDoors yX0_behindDoors, .code yX0_behindDoors cX0_behindDoors 4 (some .int), .fieldLink RX0 9 "SoldHouse$Floor" "next" "[I"] ++ wsX110 ++ wsX00 ++ wsX50)
def wsX11_parts : List Cond := .code yX11_parts cX11_parts 1 (some .int) :: ([.fieldLink RX11 40 "SoldHouse" "floor" "LSoldHouse$Floor;", .fieldLink RX11 150 "SoldHouse$Floor" "parting" "I"] ++ wsX110 ++ wsX00)
def wsX11_hunt_r1 : List Cond := [Cond.fieldLink RX11 56 "SoldHouse" "hunter" "LSoldHouse$Hunter;", Cond.methodLink RX11 203 yX11_areRooms, Cond.instanceMethod yX11_areRooms, Cond.selects RX11 yX11_areRooms yX11_areRooms, Cond.initialized RX11, Cond.code yX11_areRooms cX11_areRooms 2 (some .boolean), Cond.fieldLink RX11 10 "SoldHouse" "plan" "LSoldHouse$Plan;", Cond.fieldLink RX11 101 "SoldHouse$Plan" "rooms" "I", Cond.methodLink RX11 206 yX2_fewestAsks, Cond.instanceMethod yX2_fewestAsks, Cond.selects RX2 yX2_fewestAsks yX2_fewestAsks, Cond.initialized RX2, Cond.code yX2_fewestAsks cX2_fewestAsks 5 (some .int), Cond.fieldLink RX2 9 "SoldHouse$Hunter" "asks" "[I", Cond.methodLink RX2 19 yX2_bestDoor, Cond.instanceMethod yX2_bestDoor, Cond.selects RX2 yX2_bestDoor yX2_bestDoor, Cond.code yX2_bestDoor cX2_bestDoor 5 (some .int), Cond.fieldLink RX2 15 "SoldHouse$Hunter" "floor" "LSoldHouse$Floor;", Cond.fieldLink RX2 35 "SoldHouse$Floor" "plan" "LSoldHouse$Plan;", Cond.fieldLink RX2 41 "SoldHouse$Plan" "doors" "I", Cond.methodLink RX2 28 yX2_asksBy, Cond.instanceMethod yX2_asksBy, Cond.selects RX2 yX2_asksBy yX2_asksBy]
def wsX11_hunt_r2 : List Cond := [Cond.code yX2_asksBy cX2_asksBy 6 (some .int), Cond.fieldLink RX2 47 "SoldHouse$Floor" "near" "[I", Cond.fieldLink RX2 50 "SoldHouse$Floor" "parting" "I", Cond.methodLink RX2 53 Lib.Math.max.name, Cond.static Lib.Math.max.name, Cond.initialized "java/lang/Math", Cond.code Lib.Math.max.name Lib.Math.max.code 2 (some .int), Cond.methodLink RX2 23 yJ6_bitCount_0f7a4, Cond.static yJ6_bitCount_0f7a4, Cond.initialized RJ6, Cond.code yJ6_bitCount_0f7a4 cJ6_bitCount_0f7a4 1 (some .int), Cond.constant RJ6 265 (1431655765), Cond.constant RJ6 266 (858993459), Cond.constant RJ6 267 (252645135)]
def wsX11_hunt : List Cond := .code yX11_hunt cX11_hunt 2 (some .int) :: ((wsX11_hunt_r1 ++ wsX11_hunt_r2) ++ wsX110 ++ wsX50 ++ wsX20 ++ wsX00)
def wsX11_first_r1 : List Cond := [Cond.fieldLink RX11 56 "SoldHouse" "hunter" "LSoldHouse$Hunter;", Cond.methodLink RX11 203 yX11_areRooms, Cond.instanceMethod yX11_areRooms, Cond.selects RX11 yX11_areRooms yX11_areRooms, Cond.initialized RX11, Cond.code yX11_areRooms cX11_areRooms 2 (some .boolean), Cond.fieldLink RX11 10 "SoldHouse" "plan" "LSoldHouse$Plan;", Cond.fieldLink RX11 101 "SoldHouse$Plan" "rooms" "I", Cond.methodLink RX11 210 yX2_firstDoor, Cond.instanceMethod yX2_firstDoor, Cond.selects RX2 yX2_firstDoor yX2_firstDoor, Cond.initialized RX2, Cond.code yX2_firstDoor cX2_firstDoor 2 (some .int), Cond.methodLink RX2 32 yX2_fewestAsks, Cond.instanceMethod yX2_fewestAsks, Cond.selects RX2 yX2_fewestAsks yX2_fewestAsks, Cond.code yX2_fewestAsks cX2_fewestAsks 5 (some .int), Cond.fieldLink RX2 9 "SoldHouse$Hunter" "asks" "[I", Cond.methodLink RX2 19 yX2_bestDoor, Cond.instanceMethod yX2_bestDoor, Cond.selects RX2 yX2_bestDoor yX2_bestDoor, Cond.code yX2_bestDoor cX2_bestDoor 5 (some .int), Cond.fieldLink RX2 15 "SoldHouse$Hunter" "floor" "LSoldHouse$Floor;", Cond.fieldLink RX2 35 "SoldHouse$Floor" "plan" "LSoldHouse$Plan;"]
def wsX11_first_r2 : List Cond := [Cond.fieldLink RX2 41 "SoldHouse$Plan" "doors" "I", Cond.methodLink RX2 28 yX2_asksBy, Cond.instanceMethod yX2_asksBy, Cond.selects RX2 yX2_asksBy yX2_asksBy, Cond.code yX2_asksBy cX2_asksBy 6 (some .int), Cond.fieldLink RX2 47 "SoldHouse$Floor" "near" "[I", Cond.fieldLink RX2 50 "SoldHouse$Floor" "parting" "I", Cond.methodLink RX2 53 Lib.Math.max.name, Cond.static Lib.Math.max.name, Cond.initialized "java/lang/Math", Cond.code Lib.Math.max.name Lib.Math.max.code 2 (some .int), Cond.methodLink RX2 23 yJ6_bitCount_0f7a4, Cond.static yJ6_bitCount_0f7a4, Cond.initialized RJ6, Cond.code yJ6_bitCount_0f7a4 cJ6_bitCount_0f7a4 1 (some .int), Cond.constant RJ6 265 (1431655765), Cond.constant RJ6 266 (858993459), Cond.constant RJ6 267 (252645135)]
def wsX11_first : List Cond := .code yX11_first cX11_first 2 (some .int) :: ((wsX11_first_r1 ++ wsX11_first_r2) ++ wsX110 ++ wsX50 ++ wsX20 ++ wsX00)
def wsX11_meet_r1 : List Cond := [Cond.fieldLink RX11 40 "SoldHouse" "floor" "LSoldHouse$Floor;", Cond.methodLink RX11 110 yX11_isRoom, Cond.instanceMethod yX11_isRoom, Cond.selects RX11 yX11_isRoom yX11_isRoom, Cond.initialized RX11, Cond.code yX11_isRoom cX11_isRoom 2 (some .boolean), Cond.fieldLink RX11 10 "SoldHouse" "plan" "LSoldHouse$Plan;", Cond.fieldLink RX11 101 "SoldHouse$Plan" "rooms" "I", Cond.methodLink RX11 213 yX0_meetingRoom, Cond.instanceMethod yX0_meetingRoom, Cond.selects RX0 yX0_meetingRoom yX0_meetingRoom, Cond.initialized RX0, Cond.code yX0_meetingRoom cX0_meetingRoom 6 (some .int), Cond.fieldLink RX0 21 "SoldHouse$Floor" "plan" "LSoldHouse$Plan;", Cond.fieldLink RX0 43 "SoldHouse$Plan" "rooms" "I", Cond.methodLink RX0 68 yX0_farOf, Cond.instanceMethod yX0_farOf, Cond.selects RX0 yX0_farOf yX0_farOf, Cond.code yX0_farOf cX0_farOf 3 (some .int), Cond.fieldLink RX0 15 "SoldHouse$Floor" "far" "[I", Cond.methodLink RX0 76 yX0_minutesTo, Cond.instanceMethod yX0_minutesTo, Cond.selects RX0 yX0_minutesTo yX0_minutesTo, Cond.code yX0_minutesTo cX0_minutesTo 4 (some .int)]
def wsX11_meet_r2 : List Cond := [Cond.methodLink RX0 71 Lib.Math.max.name, Cond.static Lib.Math.max.name, Cond.initialized "java/lang/Math", Cond.code Lib.Math.max.name Lib.Math.max.code 2 (some .int), Cond.methodLink RX11 216 yX0_minutesTo]
def wsX11_meet : List Cond := .code yX11_meet cX11_meet 5 (some .int) :: ((wsX11_meet_r1 ++ wsX11_meet_r2) ++ wsX110 ++ wsX50 ++ wsX00)
def wsX11_bar_r1 : List Cond := [Cond.fieldLink RX11 40 "SoldHouse" "floor" "LSoldHouse$Floor;", Cond.methodLink RX11 110 yX11_isRoom, Cond.instanceMethod yX11_isRoom, Cond.selects RX11 yX11_isRoom yX11_isRoom, Cond.initialized RX11, Cond.code yX11_isRoom cX11_isRoom 2 (some .boolean), Cond.fieldLink RX11 10 "SoldHouse" "plan" "LSoldHouse$Plan;", Cond.fieldLink RX11 101 "SoldHouse$Plan" "rooms" "I", Cond.methodLink RX11 220 yX0_barringRooms, Cond.instanceMethod yX0_barringRooms, Cond.selects RX0 yX0_barringRooms yX0_barringRooms, Cond.initialized RX0, Cond.code yX0_barringRooms cX0_barringRooms 7 (some .int), Cond.methodLink RX0 60 yX0_allRooms, Cond.instanceMethod yX0_allRooms, Cond.selects RX0 yX0_allRooms yX0_allRooms, Cond.code yX0_allRooms cX0_allRooms 1 (some .int), Cond.fieldLink RX0 21 "SoldHouse$Floor" "plan" "LSoldHouse$Plan;", Cond.fieldLink RX0 43 "SoldHouse$Plan" "rooms" "I", Cond.methodLink RX0 80 yJ6_bitCount_0f7a4, Cond.static yJ6_bitCount_0f7a4, Cond.initialized RJ6, Cond.code yJ6_bitCount_0f7a4 cJ6_bitCount_0f7a4 1 (some .int), Cond.constant RJ6 265 (1431655765)]
def wsX11_bar_r2 : List Cond := [Cond.constant RJ6 266 (858993459), Cond.constant RJ6 267 (252645135), Cond.methodLink RX0 64 yX0_reach, Cond.instanceMethod yX0_reach, Cond.selects RX0 yX0_reach yX0_reach, Cond.code yX0_reach cX0_reach 5 (some .int), Cond.methodLink RX0 57 yX0_behindDoors, Cond.instanceMethod yX0_behindDoors, Cond.selects RX0 yX0_behindDoors yX0_behindDoors, Cond.code yX0_behindDoors cX0_behindDoors 4 (some .int), Cond.fieldLink RX0 9 "SoldHouse$Floor" "next" "[I", Cond.methodLink RX11 223 yJ6_bitCount_0f7a4]
def wsX11_bar : List Cond := .code yX11_bar cX11_bar 5 (some .int) :: ((wsX11_bar_r1 ++ wsX11_bar_r2) ++ wsX110 ++ wsX50 ++ wsX00)
def wsX11_centre : List Cond := .code yX11_centre cX11_centre 1 (some .int) :: ([.fieldLink RX11 40 "SoldHouse" "floor" "LSoldHouse$Floor;", .methodLink RX11 231 yX0_middleRoom, .instanceMethod yX0_middleRoom, .selects RX0 yX0_middleRoom yX0_middleRoom, .initialized RX0, .code yX0_middleRoom cX0_middleRoom 5 (some .int), .fieldLink RX0 21 "SoldHouse$Floor" "plan" "LSoldHouse$Plan;", .fieldLink RX0 43 "SoldHouse$Plan" "rooms" "I", .methodLink RX0 85 yX0_farthestFrom, .instanceMethod yX0_farthestFrom, .selects RX0 yX0_farthestFrom yX0_farthestFrom, .code yX0_farthestFrom cX0_farthestFrom 4 (some .int), .methodLink RX0 71 Lib.Math.max.name, .static Lib.Math.max.name, .initialized "java/lang/Math", .code Lib.Math.max.name Lib.Math.max.code 2 (some .int), .methodLink RX0 68 yX0_farOf, .instanceMethod yX0_farOf, .selects RX0 yX0_farOf yX0_farOf, .code yX0_farOf cX0_farOf 3 (some .int), .fieldLink RX0 15 "SoldHouse$Floor" "far" "[I"] ++ wsX110 ++ wsX00 ++ wsX50)
def wsX11_nooks : List Cond := .code yX11_nooks cX11_nooks 3 (some .int) :: ([.fieldLink RX11 10 "SoldHouse" "plan" "LSoldHouse$Plan;", .fieldLink RX11 101 "SoldHouse$Plan" "rooms" "I", .fieldLink RX11 40 "SoldHouse" "floor" "LSoldHouse$Floor;", .fieldLink RX11 118 "SoldHouse$Floor" "next" "[I", .methodLink RX11 223 yJ6_bitCount_0f7a4, .static yJ6_bitCount_0f7a4, .initialized RJ6, .code yJ6_bitCount_0f7a4 cJ6_bitCount_0f7a4 1 (some .int), .constant RJ6 265 (1431655765), .constant RJ6 266 (858993459), .constant RJ6 267 (252645135)] ++ wsX110 ++ wsX50 ++ wsX00)
def wsX11_echo : List Cond := .code yX11_echo cX11_echo 6 (some .int) :: ([.fieldLink RX11 10 "SoldHouse" "plan" "LSoldHouse$Plan;", .fieldLink RX11 101 "SoldHouse$Plan" "rooms" "I", .fieldLink RX11 40 "SoldHouse" "floor" "LSoldHouse$Floor;", .fieldLink RX11 114 "SoldHouse$Plan" "creaks" "[I", .methodLink RX11 110 yX11_isRoom, .instanceMethod yX11_isRoom, .selects RX11 yX11_isRoom yX11_isRoom, .initialized RX11, .code yX11_isRoom cX11_isRoom 2 (some .boolean), .methodLink RX11 156 yX0_farOf, .instanceMethod yX0_farOf, .selects RX0 yX0_farOf yX0_farOf, .initialized RX0, .code yX0_farOf cX0_farOf 3 (some .int), .fieldLink RX0 15 "SoldHouse$Floor" "far" "[I"] ++ wsX110 ++ wsX50 ++ wsX00)
def wsX3_mostMended : List Cond := .code yX3_mostMended cX3_mostMended 6 (some .int) :: ([.fieldLink RX3 30 "SoldHouse$Memory" "floor" "LSoldHouse$Floor;", .fieldLink RX3 34 "SoldHouse$Floor" "plan" "LSoldHouse$Plan;", .fieldLink RX3 40 "SoldHouse$Plan" "things" "I", .fieldLink RX3 11 "SoldHouse$Memory" "now" "[I", .methodLink RX3 85 yX3_farOff, .instanceMethod yX3_farOff, .selects RX3 yX3_farOff yX3_farOff, .initialized RX3, .code yX3_farOff cX3_farOff 4 (some .int), .methodLink RX3 65 yX0_farOf, .instanceMethod yX0_farOf, .selects RX0 yX0_farOf yX0_farOf, .initialized RX0, .code yX0_farOf cX0_farOf 3 (some .int), .fieldLink RX0 15 "SoldHouse$Floor" "far" "[I"] ++ wsX30 ++ wsX00 ++ wsX50)
def wsX11_mend : List Cond := .code yX11_mend cX11_mend 2 (some .int) :: ([.fieldLink RX11 63 "SoldHouse" "memory" "LSoldHouse$Memory;", .methodLink RX11 234 yX3_mostMended, .instanceMethod yX3_mostMended, .selects RX3 yX3_mostMended yX3_mostMended, .initialized RX3, .code yX3_mostMended cX3_mostMended 6 (some .int), .fieldLink RX3 30 "SoldHouse$Memory" "floor" "LSoldHouse$Floor;", .fieldLink RX3 34 "SoldHouse$Floor" "plan" "LSoldHouse$Plan;", .fieldLink RX3 40 "SoldHouse$Plan" "things" "I", .fieldLink RX3 11 "SoldHouse$Memory" "now" "[I", .methodLink RX3 85 yX3_farOff, .instanceMethod yX3_farOff, .selects RX3 yX3_farOff yX3_farOff, .code yX3_farOff cX3_farOff 4 (some .int), .methodLink RX3 65 yX0_farOf, .instanceMethod yX0_farOf, .selects RX0 yX0_farOf yX0_farOf, .initialized RX0, .code yX0_farOf cX0_farOf 3 (some .int), .fieldLink RX0 15 "SoldHouse$Floor" "far" "[I"] ++ wsX110 ++ wsX30 ++ wsX00 ++ wsX50)
def wsX10_betterElsewhere : List Cond := .code yX10_betterElsewhere cX10_betterElsewhere 5 (some .int) :: ([.fieldLink RX10 9 "SoldHouse$Trader" "memory" "LSoldHouse$Memory;", .fieldLink RX10 15 "SoldHouse$Memory" "floor" "LSoldHouse$Floor;", .fieldLink RX10 21 "SoldHouse$Floor" "plan" "LSoldHouse$Plan;", .fieldLink RX10 27 "SoldHouse$Plan" "things" "I", .fieldLink RX10 33 "SoldHouse$Plan" "them" "[I", .fieldLink RX10 37 "SoldHouse$Plan" "us" "[I", .methodLink RX10 40 yX10_isOurs, .instanceMethod yX10_isOurs, .selects RX10 yX10_isOurs yX10_isOurs, .initialized RX10, .code yX10_isOurs cX10_isOurs 2 (some .boolean), .fieldLink RX10 44 "SoldHouse$Memory" "now" "[I"] ++ wsX100 ++ wsX30 ++ wsX00 ++ wsX50)
def wsX11_regret : List Cond := .code yX11_regret cX11_regret 1 (some .int) :: ([.fieldLink RX11 72 "SoldHouse" "trader" "LSoldHouse$Trader;", .methodLink RX11 237 yX10_betterElsewhere, .instanceMethod yX10_betterElsewhere, .selects RX10 yX10_betterElsewhere yX10_betterElsewhere, .initialized RX10, .code yX10_betterElsewhere cX10_betterElsewhere 5 (some .int), .fieldLink RX10 9 "SoldHouse$Trader" "memory" "LSoldHouse$Memory;", .fieldLink RX10 15 "SoldHouse$Memory" "floor" "LSoldHouse$Floor;", .fieldLink RX10 21 "SoldHouse$Floor" "plan" "LSoldHouse$Plan;", .fieldLink RX10 27 "SoldHouse$Plan" "things" "I", .fieldLink RX10 33 "SoldHouse$Plan" "them" "[I", .fieldLink RX10 37 "SoldHouse$Plan" "us" "[I", .methodLink RX10 40 yX10_isOurs, .instanceMethod yX10_isOurs, .selects RX10 yX10_isOurs yX10_isOurs, .code yX10_isOurs cX10_isOurs 2 (some .boolean), .fieldLink RX10 44 "SoldHouse$Memory" "now" "[I"] ++ wsX110 ++ wsX100 ++ wsX30 ++ wsX00 ++ wsX50)
def wsX10_isFair : List Cond := .code yX10_isFair cX10_isFair 4 (some .boolean) :: ([.fieldLink RX10 9 "SoldHouse$Trader" "memory" "LSoldHouse$Memory;", .fieldLink RX10 15 "SoldHouse$Memory" "floor" "LSoldHouse$Floor;", .fieldLink RX10 21 "SoldHouse$Floor" "plan" "LSoldHouse$Plan;", .fieldLink RX10 27 "SoldHouse$Plan" "things" "I", .methodLink RX10 40 yX10_isOurs, .instanceMethod yX10_isOurs, .selects RX10 yX10_isOurs yX10_isOurs, .initialized RX10, .code yX10_isOurs cX10_isOurs 2 (some .boolean), .fieldLink RX10 44 "SoldHouse$Memory" "now" "[I", .methodLink RX10 55 yX10_ourGain, .instanceMethod yX10_ourGain, .selects RX10 yX10_ourGain yX10_ourGain, .code yX10_ourGain cX10_ourGain 3 (some .int), .fieldLink RX10 37 "SoldHouse$Plan" "us" "[I", .methodLink RX10 58 yX10_theirGain, .instanceMethod yX10_theirGain, .selects RX10 yX10_theirGain yX10_theirGain, .code yX10_theirGain cX10_theirGain 3 (some .int), .fieldLink RX10 33 "SoldHouse$Plan" "them" "[I"] ++ wsX100 ++ wsX30 ++ wsX00 ++ wsX50)
def wsX10_bestPair_r1 : List Cond := [Cond.methodLink RX10 47 yX10_isFair, Cond.instanceMethod yX10_isFair, Cond.selects RX10 yX10_isFair yX10_isFair, Cond.initialized RX10, Cond.code yX10_isFair cX10_isFair 4 (some .boolean), Cond.fieldLink RX10 9 "SoldHouse$Trader" "memory" "LSoldHouse$Memory;", Cond.fieldLink RX10 15 "SoldHouse$Memory" "floor" "LSoldHouse$Floor;", Cond.fieldLink RX10 21 "SoldHouse$Floor" "plan" "LSoldHouse$Plan;", Cond.fieldLink RX10 27 "SoldHouse$Plan" "things" "I", Cond.methodLink RX10 40 yX10_isOurs, Cond.instanceMethod yX10_isOurs, Cond.selects RX10 yX10_isOurs yX10_isOurs, Cond.code yX10_isOurs cX10_isOurs 2 (some .boolean), Cond.fieldLink RX10 44 "SoldHouse$Memory" "now" "[I", Cond.methodLink RX10 55 yX10_ourGain, Cond.instanceMethod yX10_ourGain, Cond.selects RX10 yX10_ourGain yX10_ourGain, Cond.code yX10_ourGain cX10_ourGain 3 (some .int), Cond.fieldLink RX10 37 "SoldHouse$Plan" "us" "[I", Cond.methodLink RX10 58 yX10_theirGain, Cond.instanceMethod yX10_theirGain, Cond.selects RX10 yX10_theirGain yX10_theirGain, Cond.code yX10_theirGain cX10_theirGain 3 (some .int), Cond.fieldLink RX10 33 "SoldHouse$Plan" "them" "[I"]
def wsX10_bestPair_r2 : List Cond := [Cond.methodLink RX10 51 yX10_gainOf, Cond.instanceMethod yX10_gainOf, Cond.selects RX10 yX10_gainOf yX10_gainOf, Cond.code yX10_gainOf cX10_gainOf 3 (some .int)]
def wsX10_bestPair : List Cond := .code yX10_bestPair cX10_bestPair 6 (some .int) :: ((wsX10_bestPair_r1 ++ wsX10_bestPair_r2) ++ wsX100 ++ wsX30 ++ wsX00 ++ wsX50)
def wsX11_trade_r1 : List Cond := [Cond.fieldLink RX11 72 "SoldHouse" "trader" "LSoldHouse$Trader;", Cond.methodLink RX11 240 yX10_bestPair, Cond.instanceMethod yX10_bestPair, Cond.selects RX10 yX10_bestPair yX10_bestPair, Cond.initialized RX10, Cond.code yX10_bestPair cX10_bestPair 6 (some .int), Cond.methodLink RX10 47 yX10_isFair, Cond.instanceMethod yX10_isFair, Cond.selects RX10 yX10_isFair yX10_isFair, Cond.code yX10_isFair cX10_isFair 4 (some .boolean), Cond.fieldLink RX10 9 "SoldHouse$Trader" "memory" "LSoldHouse$Memory;", Cond.fieldLink RX10 15 "SoldHouse$Memory" "floor" "LSoldHouse$Floor;", Cond.fieldLink RX10 21 "SoldHouse$Floor" "plan" "LSoldHouse$Plan;", Cond.fieldLink RX10 27 "SoldHouse$Plan" "things" "I", Cond.methodLink RX10 40 yX10_isOurs, Cond.instanceMethod yX10_isOurs, Cond.selects RX10 yX10_isOurs yX10_isOurs, Cond.code yX10_isOurs cX10_isOurs 2 (some .boolean), Cond.fieldLink RX10 44 "SoldHouse$Memory" "now" "[I", Cond.methodLink RX10 55 yX10_ourGain, Cond.instanceMethod yX10_ourGain, Cond.selects RX10 yX10_ourGain yX10_ourGain, Cond.code yX10_ourGain cX10_ourGain 3 (some .int), Cond.fieldLink RX10 37 "SoldHouse$Plan" "us" "[I"]
def wsX11_trade_r2 : List Cond := [Cond.methodLink RX10 58 yX10_theirGain, Cond.instanceMethod yX10_theirGain, Cond.selects RX10 yX10_theirGain yX10_theirGain, Cond.code yX10_theirGain cX10_theirGain 3 (some .int), Cond.fieldLink RX10 33 "SoldHouse$Plan" "them" "[I", Cond.methodLink RX10 51 yX10_gainOf, Cond.instanceMethod yX10_gainOf, Cond.selects RX10 yX10_gainOf yX10_gainOf, Cond.code yX10_gainOf cX10_gainOf 3 (some .int), Cond.methodLink RX11 243 yX10_gainOf]
def wsX11_trade : List Cond := .code yX11_trade cX11_trade 5 (some .int) :: ((wsX11_trade_r1 ++ wsX11_trade_r2) ++ wsX110 ++ wsX100 ++ wsX30 ++ wsX00 ++ wsX50)
def wsX10_mostPairs_r1 : List Cond := [Cond.fieldLink RX10 9 "SoldHouse$Trader" "memory" "LSoldHouse$Memory;", Cond.fieldLink RX10 15 "SoldHouse$Memory" "floor" "LSoldHouse$Floor;", Cond.fieldLink RX10 21 "SoldHouse$Floor" "plan" "LSoldHouse$Plan;", Cond.fieldLink RX10 27 "SoldHouse$Plan" "things" "I", Cond.methodLink RX10 64 Lib.Math.max.name, Cond.static Lib.Math.max.name, Cond.initialized "java/lang/Math", Cond.code Lib.Math.max.name Lib.Math.max.code 2 (some .int), Cond.methodLink RX10 61 yX10_mostPairs, Cond.instanceMethod yX10_mostPairs, Cond.selects RX10 yX10_mostPairs yX10_mostPairs, Cond.initialized RX10, Cond.methodLink RX10 47 yX10_isFair, Cond.instanceMethod yX10_isFair, Cond.selects RX10 yX10_isFair yX10_isFair, Cond.code yX10_isFair cX10_isFair 4 (some .boolean), Cond.methodLink RX10 40 yX10_isOurs, Cond.instanceMethod yX10_isOurs, Cond.selects RX10 yX10_isOurs yX10_isOurs, Cond.code yX10_isOurs cX10_isOurs 2 (some .boolean), Cond.fieldLink RX10 44 "SoldHouse$Memory" "now" "[I", Cond.methodLink RX10 55 yX10_ourGain, Cond.instanceMethod yX10_ourGain, Cond.selects RX10 yX10_ourGain yX10_ourGain]
def wsX10_mostPairs_r2 : List Cond := [Cond.code yX10_ourGain cX10_ourGain 3 (some .int), Cond.fieldLink RX10 37 "SoldHouse$Plan" "us" "[I", Cond.methodLink RX10 58 yX10_theirGain, Cond.instanceMethod yX10_theirGain, Cond.selects RX10 yX10_theirGain yX10_theirGain, Cond.code yX10_theirGain cX10_theirGain 3 (some .int), Cond.fieldLink RX10 33 "SoldHouse$Plan" "them" "[I"]
def wsX10_mostPairs : List Cond := .code yX10_mostPairs cX10_mostPairs 6 (some .int) :: ((wsX10_mostPairs_r1 ++ wsX10_mostPairs_r2) ++ wsX100 ++ wsX30 ++ wsX00 ++ wsX50)
def wsX10_mostTrades_r1 : List Cond := [Cond.methodLink RX10 61 yX10_mostPairs, Cond.instanceMethod yX10_mostPairs, Cond.selects RX10 yX10_mostPairs yX10_mostPairs, Cond.initialized RX10, Cond.code yX10_mostPairs cX10_mostPairs 6 (some .int), Cond.fieldLink RX10 9 "SoldHouse$Trader" "memory" "LSoldHouse$Memory;", Cond.fieldLink RX10 15 "SoldHouse$Memory" "floor" "LSoldHouse$Floor;", Cond.fieldLink RX10 21 "SoldHouse$Floor" "plan" "LSoldHouse$Plan;", Cond.fieldLink RX10 27 "SoldHouse$Plan" "things" "I", Cond.methodLink RX10 64 Lib.Math.max.name, Cond.static Lib.Math.max.name, Cond.initialized "java/lang/Math", Cond.code Lib.Math.max.name Lib.Math.max.code 2 (some .int), Cond.methodLink RX10 47 yX10_isFair, Cond.instanceMethod yX10_isFair, Cond.selects RX10 yX10_isFair yX10_isFair, Cond.code yX10_isFair cX10_isFair 4 (some .boolean), Cond.methodLink RX10 40 yX10_isOurs, Cond.instanceMethod yX10_isOurs, Cond.selects RX10 yX10_isOurs yX10_isOurs, Cond.code yX10_isOurs cX10_isOurs 2 (some .boolean), Cond.fieldLink RX10 44 "SoldHouse$Memory" "now" "[I", Cond.methodLink RX10 55 yX10_ourGain, Cond.instanceMethod yX10_ourGain]
def wsX10_mostTrades_r2 : List Cond := [Cond.selects RX10 yX10_ourGain yX10_ourGain, Cond.code yX10_ourGain cX10_ourGain 3 (some .int), Cond.fieldLink RX10 37 "SoldHouse$Plan" "us" "[I", Cond.methodLink RX10 58 yX10_theirGain, Cond.instanceMethod yX10_theirGain, Cond.selects RX10 yX10_theirGain yX10_theirGain, Cond.code yX10_theirGain cX10_theirGain 3 (some .int), Cond.fieldLink RX10 33 "SoldHouse$Plan" "them" "[I"]
def wsX10_mostTrades : List Cond := .code yX10_mostTrades cX10_mostTrades 1 (some .int) :: ((wsX10_mostTrades_r1 ++ wsX10_mostTrades_r2) ++ wsX100 ++ wsX30 ++ wsX00 ++ wsX50)
def wsX11_trades_r1 : List Cond := [Cond.fieldLink RX11 72 "SoldHouse" "trader" "LSoldHouse$Trader;", Cond.methodLink RX11 246 yX10_mostTrades, Cond.instanceMethod yX10_mostTrades, Cond.selects RX10 yX10_mostTrades yX10_mostTrades, Cond.initialized RX10, Cond.code yX10_mostTrades cX10_mostTrades 1 (some .int), Cond.methodLink RX10 61 yX10_mostPairs, Cond.instanceMethod yX10_mostPairs, Cond.selects RX10 yX10_mostPairs yX10_mostPairs, Cond.code yX10_mostPairs cX10_mostPairs 6 (some .int), Cond.fieldLink RX10 9 "SoldHouse$Trader" "memory" "LSoldHouse$Memory;", Cond.fieldLink RX10 15 "SoldHouse$Memory" "floor" "LSoldHouse$Floor;", Cond.fieldLink RX10 21 "SoldHouse$Floor" "plan" "LSoldHouse$Plan;", Cond.fieldLink RX10 27 "SoldHouse$Plan" "things" "I", Cond.methodLink RX10 64 Lib.Math.max.name, Cond.static Lib.Math.max.name, Cond.initialized "java/lang/Math", Cond.code Lib.Math.max.name Lib.Math.max.code 2 (some .int), Cond.methodLink RX10 47 yX10_isFair, Cond.instanceMethod yX10_isFair, Cond.selects RX10 yX10_isFair yX10_isFair, Cond.code yX10_isFair cX10_isFair 4 (some .boolean), Cond.methodLink RX10 40 yX10_isOurs, Cond.instanceMethod yX10_isOurs]
def wsX11_trades_r2 : List Cond := [Cond.selects RX10 yX10_isOurs yX10_isOurs, Cond.code yX10_isOurs cX10_isOurs 2 (some .boolean), Cond.fieldLink RX10 44 "SoldHouse$Memory" "now" "[I", Cond.methodLink RX10 55 yX10_ourGain, Cond.instanceMethod yX10_ourGain, Cond.selects RX10 yX10_ourGain yX10_ourGain, Cond.code yX10_ourGain cX10_ourGain 3 (some .int), Cond.fieldLink RX10 37 "SoldHouse$Plan" "us" "[I", Cond.methodLink RX10 58 yX10_theirGain, Cond.instanceMethod yX10_theirGain, Cond.selects RX10 yX10_theirGain yX10_theirGain, Cond.code yX10_theirGain cX10_theirGain 3 (some .int), Cond.fieldLink RX10 33 "SoldHouse$Plan" "them" "[I"]
def wsX11_trades : List Cond := .code yX11_trades cX11_trades 1 (some .int) :: ((wsX11_trades_r1 ++ wsX11_trades_r2) ++ wsX110 ++ wsX100 ++ wsX30 ++ wsX00 ++ wsX50)
def wsX10_worthOf : List Cond := .code yX10_worthOf cX10_worthOf 5 (some .int) :: ([.fieldLink RX10 9 "SoldHouse$Trader" "memory" "LSoldHouse$Memory;", .fieldLink RX10 15 "SoldHouse$Memory" "floor" "LSoldHouse$Floor;", .fieldLink RX10 21 "SoldHouse$Floor" "plan" "LSoldHouse$Plan;", .fieldLink RX10 27 "SoldHouse$Plan" "things" "I", .fieldLink RX10 44 "SoldHouse$Memory" "now" "[I"] ++ wsX100 ++ wsX30 ++ wsX00 ++ wsX50)
def wsX11_wealth : List Cond := .code yX11_wealth cX11_wealth 2 (some .int) :: ([.fieldLink RX11 72 "SoldHouse" "trader" "LSoldHouse$Trader;", .fieldLink RX11 10 "SoldHouse" "plan" "LSoldHouse$Plan;", .fieldLink RX11 131 "SoldHouse$Plan" "us" "[I", .fieldLink RX11 134 "SoldHouse$Plan" "them" "[I", .methodLink RX11 249 yX10_worthOf, .instanceMethod yX10_worthOf, .selects RX10 yX10_worthOf yX10_worthOf, .initialized RX10, .code yX10_worthOf cX10_worthOf 5 (some .int), .fieldLink RX10 9 "SoldHouse$Trader" "memory" "LSoldHouse$Memory;", .fieldLink RX10 15 "SoldHouse$Memory" "floor" "LSoldHouse$Floor;", .fieldLink RX10 21 "SoldHouse$Floor" "plan" "LSoldHouse$Plan;", .fieldLink RX10 27 "SoldHouse$Plan" "things" "I", .fieldLink RX10 44 "SoldHouse$Memory" "now" "[I"] ++ wsX110 ++ wsX50 ++ wsX100 ++ wsX30 ++ wsX00)
def wsX11_off : List Cond := .code yX11_off cX11_off 3 (some .int) :: ([.fieldLink RX11 10 "SoldHouse" "plan" "LSoldHouse$Plan;", .fieldLink RX11 253 "SoldHouse$Plan" "things" "I", .fieldLink RX11 63 "SoldHouse" "memory" "LSoldHouse$Memory;", .fieldLink RX11 128 "SoldHouse$Memory" "now" "[I", .methodLink RX11 256 yX3_farOff, .instanceMethod yX3_farOff, .selects RX3 yX3_farOff yX3_farOff, .initialized RX3, .code yX3_farOff cX3_farOff 4 (some .int), .fieldLink RX3 30 "SoldHouse$Memory" "floor" "LSoldHouse$Floor;", .methodLink RX3 65 yX0_farOf, .instanceMethod yX0_farOf, .selects RX0 yX0_farOf yX0_farOf, .initialized RX0, .code yX0_farOf cX0_farOf 3 (some .int), .fieldLink RX0 15 "SoldHouse$Floor" "far" "[I"] ++ wsX110 ++ wsX50 ++ wsX30 ++ wsX00)
def wsX3_rightThings : List Cond := .code yX3_rightThings cX3_rightThings 4 (some .int) :: ([.fieldLink RX3 30 "SoldHouse$Memory" "floor" "LSoldHouse$Floor;", .fieldLink RX3 34 "SoldHouse$Floor" "plan" "LSoldHouse$Plan;", .fieldLink RX3 40 "SoldHouse$Plan" "things" "I", .methodLink RX3 61 yX3_isRight, .instanceMethod yX3_isRight, .selects RX3 yX3_isRight yX3_isRight, .initialized RX3, .code yX3_isRight cX3_isRight 3 (some .boolean)] ++ wsX30 ++ wsX00 ++ wsX50)
def wsX11_right : List Cond := .code yX11_right cX11_right 1 (some .int) :: ([.fieldLink RX11 63 "SoldHouse" "memory" "LSoldHouse$Memory;", .fieldLink RX11 128 "SoldHouse$Memory" "now" "[I", .methodLink RX11 260 yX3_rightThings, .instanceMethod yX3_rightThings, .selects RX3 yX3_rightThings yX3_rightThings, .initialized RX3, .code yX3_rightThings cX3_rightThings 4 (some .int), .fieldLink RX3 30 "SoldHouse$Memory" "floor" "LSoldHouse$Floor;", .fieldLink RX3 34 "SoldHouse$Floor" "plan" "LSoldHouse$Plan;", .fieldLink RX3 40 "SoldHouse$Plan" "things" "I", .methodLink RX3 61 yX3_isRight, .instanceMethod yX3_isRight, .selects RX3 yX3_isRight yX3_isRight, .code yX3_isRight cX3_isRight 3 (some .boolean)] ++ wsX110 ++ wsX30 ++ wsX00 ++ wsX50)
def wsX11_deep : List Cond := .code yX11_deep cX11_deep 4 (some .int) :: ([.fieldLink RX11 10 "SoldHouse" "plan" "LSoldHouse$Plan;", .fieldLink RX11 253 "SoldHouse$Plan" "things" "I", .fieldLink RX11 63 "SoldHouse" "memory" "LSoldHouse$Memory;", .fieldLink RX11 128 "SoldHouse$Memory" "now" "[I"] ++ wsX110 ++ wsX50 ++ wsX30)
def wsX11_stay_r1 : List Cond := [Cond.fieldLink RX11 63 "SoldHouse" "memory" "LSoldHouse$Memory;", Cond.methodLink RX11 125 yX11_isThing, Cond.instanceMethod yX11_isThing, Cond.selects RX11 yX11_isThing yX11_isThing, Cond.initialized RX11, Cond.code yX11_isThing cX11_isThing 2 (some .boolean), Cond.fieldLink RX11 10 "SoldHouse" "plan" "LSoldHouse$Plan;", Cond.fieldLink RX11 253 "SoldHouse$Plan" "things" "I", Cond.methodLink RX11 263 yX3_oddsToStay, Cond.instanceMethod yX3_oddsToStay, Cond.selects RX3 yX3_oddsToStay yX3_oddsToStay, Cond.initialized RX3, Cond.code yX3_oddsToStay cX3_oddsToStay 7 (some .int), Cond.fieldLink RX3 11 "SoldHouse$Memory" "now" "[I", Cond.methodLink RX3 102 Lib.Math.max.name, Cond.static Lib.Math.max.name, Cond.initialized "java/lang/Math", Cond.code Lib.Math.max.name Lib.Math.max.code 2 (some .int), Cond.methodLink RX3 108 yX3_sureOf, Cond.instanceMethod yX3_sureOf, Cond.selects RX3 yX3_sureOf yX3_sureOf, Cond.code yX3_sureOf cX3_sureOf 5 (some .int), Cond.fieldLink RX3 30 "SoldHouse$Memory" "floor" "LSoldHouse$Floor;", Cond.fieldLink RX3 34 "SoldHouse$Floor" "plan" "LSoldHouse$Plan;"]
def wsX11_stay_r2 : List Cond := [Cond.fieldLink RX3 69 "SoldHouse$Plan" "sure" "LSoldHouse$Formula;", Cond.fieldLink RX3 73 "SoldHouse$Formula" "told" "Z", Cond.fieldLink RX3 79 "SoldHouse$Plan" "us" "[I", Cond.fieldLink RX3 82 "SoldHouse$Plan" "them" "[I", Cond.methodLink RX3 97 Lib.Math.min.name, Cond.static Lib.Math.min.name, Cond.code Lib.Math.min.name Lib.Math.min.code 2 (some .int), Cond.methodLink RX3 85 yX3_farOff, Cond.instanceMethod yX3_farOff, Cond.selects RX3 yX3_farOff yX3_farOff, Cond.code yX3_farOff cX3_farOff 4 (some .int), Cond.methodLink RX3 65 yX0_farOf, Cond.instanceMethod yX0_farOf, Cond.selects RX0 yX0_farOf yX0_farOf, Cond.initialized RX0, Cond.code yX0_farOf cX0_farOf 3 (some .int), Cond.fieldLink RX0 15 "SoldHouse$Floor" "far" "[I", Cond.methodLink RX3 89 yX1_know, Cond.instanceMethod yX1_know, Cond.selects RX1 yX1_know yX1_know, Cond.initialized RX1, Cond.code yX1_know cX1_know 6 none, Cond.fieldLink RX1 16 "SoldHouse$Formula" "known" "[I", Cond.methodLink RX3 93 yX1_work]
def wsX11_stay_r3 : List Cond := [Cond.instanceMethod yX1_work, Cond.selects RX1 yX1_work yX1_work, Cond.code yX1_work cX1_work 4 (some .int), Cond.fieldLink RX1 19 "SoldHouse$Formula" "size" "I", Cond.fieldLink RX1 9 "SoldHouse$Formula" "steps" "[I", Cond.fieldLink RX1 13 "SoldHouse$Formula" "stack" "[I", Cond.methodLink RX1 30 yX1_join, Cond.static yX1_join, Cond.code yX1_join cX1_join 3 (some .int), Cond.methodLink RX3 112 yX3_commonOf, Cond.static yX3_commonOf, Cond.code yX3_commonOf cX3_commonOf 6 (some .int)]
def wsX11_stay : List Cond := .code yX11_stay cX11_stay 4 (some .int) :: ((wsX11_stay_r1 ++ (wsX11_stay_r2 ++ wsX11_stay_r3)) ++ wsX110 ++ wsX50 ++ wsX30 ++ wsX00 ++ wsX10)
def wsX11_will_r1 : List Cond := [Cond.fieldLink RX11 63 "SoldHouse" "memory" "LSoldHouse$Memory;", Cond.methodLink RX11 125 yX11_isThing, Cond.instanceMethod yX11_isThing, Cond.selects RX11 yX11_isThing yX11_isThing, Cond.initialized RX11, Cond.code yX11_isThing cX11_isThing 2 (some .boolean), Cond.fieldLink RX11 10 "SoldHouse" "plan" "LSoldHouse$Plan;", Cond.fieldLink RX11 253 "SoldHouse$Plan" "things" "I", Cond.methodLink RX11 266 yX3_thoughtBehind, Cond.instanceMethod yX3_thoughtBehind, Cond.selects RX3 yX3_thoughtBehind yX3_thoughtBehind, Cond.initialized RX3, Cond.code yX3_thoughtBehind cX3_thoughtBehind 4 (some .int), Cond.fieldLink RX3 11 "SoldHouse$Memory" "now" "[I", Cond.fieldLink RX3 15 "SoldHouse$Memory" "ahead" "[I", Cond.methodLink RX3 115 arraycopyName, Cond.native arraycopyName, Cond.static arraycopyName, Cond.initialized "java/lang/System", Cond.methodLink RX3 121 yX3_passDay, Cond.instanceMethod yX3_passDay, Cond.selects RX3 yX3_passDay yX3_passDay, Cond.code yX3_passDay cX3_passDay 5 (some .int), Cond.fieldLink RX3 30 "SoldHouse$Memory" "floor" "LSoldHouse$Floor;"]
def wsX11_will_r2 : List Cond := [Cond.fieldLink RX3 34 "SoldHouse$Floor" "plan" "LSoldHouse$Plan;", Cond.fieldLink RX3 105 "SoldHouse$Plan" "rooms" "I", Cond.methodLink RX3 102 Lib.Math.max.name, Cond.static Lib.Math.max.name, Cond.initialized "java/lang/Math", Cond.code Lib.Math.max.name Lib.Math.max.code 2 (some .int), Cond.fieldLink RX3 40 "SoldHouse$Plan" "things" "I", Cond.methodLink RX3 108 yX3_sureOf, Cond.instanceMethod yX3_sureOf, Cond.selects RX3 yX3_sureOf yX3_sureOf, Cond.code yX3_sureOf cX3_sureOf 5 (some .int), Cond.fieldLink RX3 69 "SoldHouse$Plan" "sure" "LSoldHouse$Formula;", Cond.fieldLink RX3 73 "SoldHouse$Formula" "told" "Z", Cond.fieldLink RX3 79 "SoldHouse$Plan" "us" "[I", Cond.fieldLink RX3 82 "SoldHouse$Plan" "them" "[I", Cond.methodLink RX3 97 Lib.Math.min.name, Cond.static Lib.Math.min.name, Cond.code Lib.Math.min.name Lib.Math.min.code 2 (some .int), Cond.methodLink RX3 85 yX3_farOff, Cond.instanceMethod yX3_farOff, Cond.selects RX3 yX3_farOff yX3_farOff, Cond.code yX3_farOff cX3_farOff 4 (some .int), Cond.methodLink RX3 65 yX0_farOf, Cond.instanceMethod yX0_farOf]
def wsX11_will_r3 : List Cond := [Cond.selects RX0 yX0_farOf yX0_farOf, Cond.initialized RX0, Cond.code yX0_farOf cX0_farOf 3 (some .int), Cond.fieldLink RX0 15 "SoldHouse$Floor" "far" "[I", Cond.methodLink RX3 89 yX1_know, Cond.instanceMethod yX1_know, Cond.selects RX1 yX1_know yX1_know, Cond.initialized RX1, Cond.code yX1_know cX1_know 6 none, Cond.fieldLink RX1 16 "SoldHouse$Formula" "known" "[I", Cond.methodLink RX3 93 yX1_work, Cond.instanceMethod yX1_work, Cond.selects RX1 yX1_work yX1_work, Cond.code yX1_work cX1_work 4 (some .int), Cond.fieldLink RX1 19 "SoldHouse$Formula" "size" "I", Cond.fieldLink RX1 9 "SoldHouse$Formula" "steps" "[I", Cond.fieldLink RX1 13 "SoldHouse$Formula" "stack" "[I", Cond.methodLink RX1 30 yX1_join, Cond.static yX1_join, Cond.code yX1_join cX1_join 3 (some .int)]
def wsX11_will : List Cond := .code yX11_will cX11_will 3 (some .int) :: ((wsX11_will_r1 ++ (wsX11_will_r2 ++ wsX11_will_r3)) ++ wsX110 ++ wsX50 ++ wsX30 ++ wsX00 ++ wsX10)
def wsX3_daysTillLost_r1 : List Cond := [Cond.fieldLink RX3 30 "SoldHouse$Memory" "floor" "LSoldHouse$Floor;", Cond.fieldLink RX3 34 "SoldHouse$Floor" "plan" "LSoldHouse$Plan;", Cond.fieldLink RX3 40 "SoldHouse$Plan" "things" "I", Cond.fieldLink RX3 11 "SoldHouse$Memory" "now" "[I", Cond.fieldLink RX3 15 "SoldHouse$Memory" "ahead" "[I", Cond.methodLink RX3 115 arraycopyName, Cond.native arraycopyName, Cond.static arraycopyName, Cond.initialized "java/lang/System", Cond.methodLink RX3 125 yX3_rightThings, Cond.instanceMethod yX3_rightThings, Cond.selects RX3 yX3_rightThings yX3_rightThings, Cond.initialized RX3, Cond.code yX3_rightThings cX3_rightThings 4 (some .int), Cond.methodLink RX3 61 yX3_isRight, Cond.instanceMethod yX3_isRight, Cond.selects RX3 yX3_isRight yX3_isRight, Cond.code yX3_isRight cX3_isRight 3 (some .boolean), Cond.methodLink RX3 121 yX3_passDay, Cond.instanceMethod yX3_passDay, Cond.selects RX3 yX3_passDay yX3_passDay, Cond.code yX3_passDay cX3_passDay 5 (some .int), Cond.fieldLink RX3 105 "SoldHouse$Plan" "rooms" "I", Cond.methodLink RX3 102 Lib.Math.max.name]
def wsX3_daysTillLost_r2 : List Cond := [Cond.static Lib.Math.max.name, Cond.initialized "java/lang/Math", Cond.code Lib.Math.max.name Lib.Math.max.code 2 (some .int), Cond.methodLink RX3 108 yX3_sureOf, Cond.instanceMethod yX3_sureOf, Cond.selects RX3 yX3_sureOf yX3_sureOf, Cond.code yX3_sureOf cX3_sureOf 5 (some .int), Cond.fieldLink RX3 69 "SoldHouse$Plan" "sure" "LSoldHouse$Formula;", Cond.fieldLink RX3 73 "SoldHouse$Formula" "told" "Z", Cond.fieldLink RX3 79 "SoldHouse$Plan" "us" "[I", Cond.fieldLink RX3 82 "SoldHouse$Plan" "them" "[I", Cond.methodLink RX3 97 Lib.Math.min.name, Cond.static Lib.Math.min.name, Cond.code Lib.Math.min.name Lib.Math.min.code 2 (some .int), Cond.methodLink RX3 85 yX3_farOff, Cond.instanceMethod yX3_farOff, Cond.selects RX3 yX3_farOff yX3_farOff, Cond.code yX3_farOff cX3_farOff 4 (some .int), Cond.methodLink RX3 65 yX0_farOf, Cond.instanceMethod yX0_farOf, Cond.selects RX0 yX0_farOf yX0_farOf, Cond.initialized RX0, Cond.code yX0_farOf cX0_farOf 3 (some .int), Cond.fieldLink RX0 15 "SoldHouse$Floor" "far" "[I"]
def wsX3_daysTillLost_r3 : List Cond := [Cond.methodLink RX3 89 yX1_know, Cond.instanceMethod yX1_know, Cond.selects RX1 yX1_know yX1_know, Cond.initialized RX1, Cond.code yX1_know cX1_know 6 none, Cond.fieldLink RX1 16 "SoldHouse$Formula" "known" "[I", Cond.methodLink RX3 93 yX1_work, Cond.instanceMethod yX1_work, Cond.selects RX1 yX1_work yX1_work, Cond.code yX1_work cX1_work 4 (some .int), Cond.fieldLink RX1 19 "SoldHouse$Formula" "size" "I", Cond.fieldLink RX1 9 "SoldHouse$Formula" "steps" "[I", Cond.fieldLink RX1 13 "SoldHouse$Formula" "stack" "[I", Cond.methodLink RX1 30 yX1_join, Cond.static yX1_join, Cond.code yX1_join cX1_join 3 (some .int)]
def wsX3_daysTillLost : List Cond := .code yX3_daysTillLost cX3_daysTillLost 2 (some .int) :: ((wsX3_daysTillLost_r1 ++ (wsX3_daysTillLost_r2 ++ wsX3_daysTillLost_r3)) ++ wsX30 ++ wsX00 ++ wsX50 ++ wsX10)
def wsX11_lost_r1 : List Cond := [Cond.fieldLink RX11 63 "SoldHouse" "memory" "LSoldHouse$Memory;", Cond.methodLink RX11 269 yX3_daysTillLost, Cond.instanceMethod yX3_daysTillLost, Cond.selects RX3 yX3_daysTillLost yX3_daysTillLost, Cond.initialized RX3, Cond.code yX3_daysTillLost cX3_daysTillLost 2 (some .int), Cond.fieldLink RX3 30 "SoldHouse$Memory" "floor" "LSoldHouse$Floor;", Cond.fieldLink RX3 34 "SoldHouse$Floor" "plan" "LSoldHouse$Plan;", Cond.fieldLink RX3 40 "SoldHouse$Plan" "things" "I", Cond.fieldLink RX3 11 "SoldHouse$Memory" "now" "[I", Cond.fieldLink RX3 15 "SoldHouse$Memory" "ahead" "[I", Cond.methodLink RX3 115 arraycopyName, Cond.native arraycopyName, Cond.static arraycopyName, Cond.initialized "java/lang/System", Cond.methodLink RX3 125 yX3_rightThings, Cond.instanceMethod yX3_rightThings, Cond.selects RX3 yX3_rightThings yX3_rightThings, Cond.code yX3_rightThings cX3_rightThings 4 (some .int), Cond.methodLink RX3 61 yX3_isRight, Cond.instanceMethod yX3_isRight, Cond.selects RX3 yX3_isRight yX3_isRight, Cond.code yX3_isRight cX3_isRight 3 (some .boolean), Cond.methodLink RX3 121 yX3_passDay]
def wsX11_lost_r2 : List Cond := [Cond.instanceMethod yX3_passDay, Cond.selects RX3 yX3_passDay yX3_passDay, Cond.code yX3_passDay cX3_passDay 5 (some .int), Cond.fieldLink RX3 105 "SoldHouse$Plan" "rooms" "I", Cond.methodLink RX3 102 Lib.Math.max.name, Cond.static Lib.Math.max.name, Cond.initialized "java/lang/Math", Cond.code Lib.Math.max.name Lib.Math.max.code 2 (some .int), Cond.methodLink RX3 108 yX3_sureOf, Cond.instanceMethod yX3_sureOf, Cond.selects RX3 yX3_sureOf yX3_sureOf, Cond.code yX3_sureOf cX3_sureOf 5 (some .int), Cond.fieldLink RX3 69 "SoldHouse$Plan" "sure" "LSoldHouse$Formula;", Cond.fieldLink RX3 73 "SoldHouse$Formula" "told" "Z", Cond.fieldLink RX3 79 "SoldHouse$Plan" "us" "[I", Cond.fieldLink RX3 82 "SoldHouse$Plan" "them" "[I", Cond.methodLink RX3 97 Lib.Math.min.name, Cond.static Lib.Math.min.name, Cond.code Lib.Math.min.name Lib.Math.min.code 2 (some .int), Cond.methodLink RX3 85 yX3_farOff, Cond.instanceMethod yX3_farOff, Cond.selects RX3 yX3_farOff yX3_farOff, Cond.code yX3_farOff cX3_farOff 4 (some .int), Cond.methodLink RX3 65 yX0_farOf]
def wsX11_lost_r3 : List Cond := [Cond.instanceMethod yX0_farOf, Cond.selects RX0 yX0_farOf yX0_farOf, Cond.initialized RX0, Cond.code yX0_farOf cX0_farOf 3 (some .int), Cond.fieldLink RX0 15 "SoldHouse$Floor" "far" "[I", Cond.methodLink RX3 89 yX1_know, Cond.instanceMethod yX1_know, Cond.selects RX1 yX1_know yX1_know, Cond.initialized RX1, Cond.code yX1_know cX1_know 6 none, Cond.fieldLink RX1 16 "SoldHouse$Formula" "known" "[I", Cond.methodLink RX3 93 yX1_work, Cond.instanceMethod yX1_work, Cond.selects RX1 yX1_work yX1_work, Cond.code yX1_work cX1_work 4 (some .int), Cond.fieldLink RX1 19 "SoldHouse$Formula" "size" "I", Cond.fieldLink RX1 9 "SoldHouse$Formula" "steps" "[I", Cond.fieldLink RX1 13 "SoldHouse$Formula" "stack" "[I", Cond.methodLink RX1 30 yX1_join, Cond.static yX1_join, Cond.code yX1_join cX1_join 3 (some .int)]
def wsX11_lost : List Cond := .code yX11_lost cX11_lost 1 (some .int) :: ((wsX11_lost_r1 ++ (wsX11_lost_r2 ++ wsX11_lost_r3)) ++ wsX110 ++ wsX30 ++ wsX00 ++ wsX50 ++ wsX10)
def wsX11_lies : List Cond := .code yX11_lies cX11_lies 2 (some .int) :: ([.fieldLink RX11 49 "SoldHouse" "routes" "LSoldHouse$Routes;", .fieldLink RX11 187 "SoldHouse$Routes" "lying" "I", .fieldLink RX11 272 "SoldHouse$Routes" "lie" "[I"] ++ wsX110 ++ wsX70)
def wsX11_seen : List Cond := .code yX11_seen cX11_seen 4 (some .int) :: ([.fieldLink RX11 79 "SoldHouse" "night" "LSoldHouse$Night;", .methodLink RX11 110 yX11_isRoom, .instanceMethod yX11_isRoom, .selects RX11 yX11_isRoom yX11_isRoom, .initialized RX11, .code yX11_isRoom cX11_isRoom 2 (some .boolean), .fieldLink RX11 10 "SoldHouse" "plan" "LSoldHouse$Plan;", .fieldLink RX11 101 "SoldHouse$Plan" "rooms" "I", .methodLink RX11 275 yX11_isMinute, .static yX11_isMinute, .code yX11_isMinute cX11_isMinute 1 (some .boolean), .methodLink RX11 281 yX4_note, .instanceMethod yX4_note, .selects RX4 yX4_note yX4_note, .initialized RX4, .code yX4_note cX4_note 4 (some .int), .fieldLink RX4 37 "SoldHouse$Night" "count" "I", .fieldLink RX4 11 "SoldHouse$Night" "minute" "[I", .fieldLink RX4 15 "SoldHouse$Night" "rooms" "[I", .fieldLink RX4 18 "SoldHouse$Night" "toldAt" "[I", .fieldLink RX4 41 "SoldHouse$Night" "time" "I", .fieldLink RX4 21 "SoldHouse$Night" "untoldAt" "[I"] ++ wsX110 ++ wsX50 ++ wsX40)
def wsX4_takeBack : List Cond := .code yX4_takeBack cX4_takeBack 2 (some .boolean) :: ([.fieldLink RX4 37 "SoldHouse$Night" "count" "I", .fieldLink RX4 21 "SoldHouse$Night" "untoldAt" "[I", .fieldLink RX4 41 "SoldHouse$Night" "time" "I"] ++ wsX40)
def wsX11_untell : List Cond := .code yX11_untell cX11_untell 2 (some .boolean) :: ([.fieldLink RX11 79 "SoldHouse" "night" "LSoldHouse$Night;", .methodLink RX11 285 yX4_takeBack, .instanceMethod yX4_takeBack, .selects RX4 yX4_takeBack yX4_takeBack, .initialized RX4, .code yX4_takeBack cX4_takeBack 2 (some .boolean), .fieldLink RX4 37 "SoldHouse$Night" "count" "I", .fieldLink RX4 21 "SoldHouse$Night" "untoldAt" "[I", .fieldLink RX4 41 "SoldHouse$Night" "time" "I"] ++ wsX110 ++ wsX40)
def wsX3_takeFromBox : List Cond := .code yX3_takeFromBox cX3_takeFromBox 2 (some .int) :: ([.fieldLink RX3 26 "SoldHouse$Memory" "full" "[Z", .fieldLink RX3 23 "SoldHouse$Memory" "box" "[[I", .fieldLink RX3 11 "SoldHouse$Memory" "now" "[I", .methodLink RX3 115 arraycopyName, .native arraycopyName, .static arraycopyName, .initialized "java/lang/System", .methodLink RX3 58 yX3_forgetActs, .instanceMethod yX3_forgetActs, .selects RX3 yX3_forgetActs yX3_forgetActs, .initialized RX3, .code yX3_forgetActs cX3_forgetActs 1 none, .fieldLink RX3 134 "SoldHouse$Memory" "oldest" "I", .fieldLink RX3 131 "SoldHouse$Memory" "done" "I", .fieldLink RX3 128 "SoldHouse$Memory" "undone" "I", .fieldLink RX3 20 "SoldHouse$Memory" "kept" "[[I"] ++ wsX30)
def wsX11_back : List Cond := .code yX11_back cX11_back 2 (some .int) :: ([.fieldLink RX11 63 "SoldHouse" "memory" "LSoldHouse$Memory;", .methodLink RX11 306 yX3_takeFromBox, .instanceMethod yX3_takeFromBox, .selects RX3 yX3_takeFromBox yX3_takeFromBox, .initialized RX3, .code yX3_takeFromBox cX3_takeFromBox 2 (some .int), .fieldLink RX3 26 "SoldHouse$Memory" "full" "[Z", .fieldLink RX3 23 "SoldHouse$Memory" "box" "[[I", .fieldLink RX3 11 "SoldHouse$Memory" "now" "[I", .methodLink RX3 115 arraycopyName, .native arraycopyName, .static arraycopyName, .initialized "java/lang/System", .methodLink RX3 58 yX3_forgetActs, .instanceMethod yX3_forgetActs, .selects RX3 yX3_forgetActs yX3_forgetActs, .code yX3_forgetActs cX3_forgetActs 1 none, .fieldLink RX3 134 "SoldHouse$Memory" "oldest" "I", .fieldLink RX3 131 "SoldHouse$Memory" "done" "I", .fieldLink RX3 128 "SoldHouse$Memory" "undone" "I", .fieldLink RX3 20 "SoldHouse$Memory" "kept" "[[I"] ++ wsX110 ++ wsX30)
def wsX11_about : List Cond := .code yX11_about cX11_about 2 (some .int) :: ([.fieldLink RX11 10 "SoldHouse" "plan" "LSoldHouse$Plan;", .fieldLink RX11 101 "SoldHouse$Plan" "rooms" "I", .fieldLink RX11 309 "SoldHouse$Plan" "doors" "I", .fieldLink RX11 253 "SoldHouse$Plan" "things" "I", .fieldLink RX11 63 "SoldHouse" "memory" "LSoldHouse$Memory;", .fieldLink RX11 128 "SoldHouse$Memory" "now" "[I", .fieldLink RX11 312 "SoldHouse$Memory" "done" "I", .fieldLink RX11 315 "SoldHouse$Memory" "undone" "I", .fieldLink RX11 79 "SoldHouse" "night" "LSoldHouse$Night;", .fieldLink RX11 318 "SoldHouse$Night" "count" "I", .fieldLink RX11 321 "SoldHouse$Night" "time" "I", .fieldLink RX11 22 "SoldHouse" "tape" "LSoldHouse$Tape;", .fieldLink RX11 86 "SoldHouse$Tape" "size" "I", .fieldLink RX11 324 "SoldHouse$Plan" "sure" "LSoldHouse$Formula;", .fieldLink RX11 328 "SoldHouse$Formula" "units" "I", .fieldLink RX11 49 "SoldHouse" "routes" "LSoldHouse$Routes;", .fieldLink RX11 187 "SoldHouse$Routes" "lying" "I"] ++ wsX110 ++ wsX50 ++ wsX30 ++ wsX40 ++ wsX80 ++ wsX10 ++ wsX70)
theorem dX11_isRoom_0 : decode cX11_isRoom 0 = .ok (.iload_n 1, 1) := by decide +kernel
theorem dX11_isRoom_1 : decode cX11_isRoom 1 = .ok (.ifCond .lt 18, 3) := by decide +kernel
theorem dX11_isRoom_4 : decode cX11_isRoom 4 = .ok (.iload_n 1, 1) := by decide +kernel
theorem dX11_isRoom_5 : decode cX11_isRoom 5 = .ok (.aload_n 0, 1) := by decide +kernel
theorem dX11_isRoom_6 : decode cX11_isRoom 6 = .ok (.getfield 10, 3) := by decide +kernel
theorem dX11_isRoom_9 : decode cX11_isRoom 9 = .ok (.getfield 101, 3) := by decide +kernel
theorem dX11_isRoom_12 : decode cX11_isRoom 12 = .ok (.if_icmp .ge 7, 3) := by decide +kernel
theorem dX11_isRoom_19 : decode cX11_isRoom 19 = .ok (.iconst 0, 1) := by decide +kernel
theorem dX11_isRoom_20 : decode cX11_isRoom 20 = .ok (.ireturn, 1) := by decide +kernel
theorem dX11_isThing_0 : decode cX11_isThing 0 = .ok (.iload_n 1, 1) := by decide +kernel
theorem dX11_isThing_1 : decode cX11_isThing 1 = .ok (.ifCond .lt 18, 3) := by decide +kernel
theorem dX11_isThing_4 : decode cX11_isThing 4 = .ok (.iload_n 1, 1) := by decide +kernel
theorem dX11_isThing_5 : decode cX11_isThing 5 = .ok (.aload_n 0, 1) := by decide +kernel
theorem dX11_isThing_6 : decode cX11_isThing 6 = .ok (.getfield 10, 3) := by decide +kernel
theorem dX11_isThing_9 : decode cX11_isThing 9 = .ok (.getfield 253, 3) := by decide +kernel
theorem dX11_isThing_12 : decode cX11_isThing 12 = .ok (.if_icmp .ge 7, 3) := by decide +kernel
theorem dX11_isThing_19 : decode cX11_isThing 19 = .ok (.iconst 0, 1) := by decide +kernel
theorem dX11_isThing_20 : decode cX11_isThing 20 = .ok (.ireturn, 1) := by decide +kernel
theorem dX11_isDoor_0 : decode cX11_isDoor 0 = .ok (.iload_n 1, 1) := by decide +kernel
theorem dX11_isDoor_1 : decode cX11_isDoor 1 = .ok (.ifCond .lt 18, 3) := by decide +kernel
theorem dX11_isDoor_4 : decode cX11_isDoor 4 = .ok (.iload_n 1, 1) := by decide +kernel
theorem dX11_isDoor_5 : decode cX11_isDoor 5 = .ok (.aload_n 0, 1) := by decide +kernel
theorem dX11_isDoor_6 : decode cX11_isDoor 6 = .ok (.getfield 10, 3) := by decide +kernel
theorem dX11_isDoor_9 : decode cX11_isDoor 9 = .ok (.getfield 309, 3) := by decide +kernel
theorem dX11_isDoor_12 : decode cX11_isDoor 12 = .ok (.if_icmp .ge 7, 3) := by decide +kernel
theorem dX11_isDoor_19 : decode cX11_isDoor 19 = .ok (.iconst 0, 1) := by decide +kernel
theorem dX11_isDoor_20 : decode cX11_isDoor 20 = .ok (.ireturn, 1) := by decide +kernel
theorem dX11_areRooms_0 : decode cX11_areRooms 0 = .ok (.iload_n 1, 1) := by decide +kernel
theorem dX11_areRooms_1 : decode cX11_areRooms 1 = .ok (.ifCond .lt 20, 3) := by decide +kernel
theorem dX11_areRooms_4 : decode cX11_areRooms 4 = .ok (.iload_n 1, 1) := by decide +kernel
theorem dX11_areRooms_5 : decode cX11_areRooms 5 = .ok (.iconst 1, 1) := by decide +kernel
theorem dX11_areRooms_6 : decode cX11_areRooms 6 = .ok (.aload_n 0, 1) := by decide +kernel
theorem dX11_areRooms_7 : decode cX11_areRooms 7 = .ok (.getfield 10, 3) := by decide +kernel
theorem dX11_areRooms_10 : decode cX11_areRooms 10 = .ok (.getfield 101, 3) := by decide +kernel
theorem dX11_areRooms_13 : decode cX11_areRooms 13 = .ok (.ishl, 1) := by decide +kernel
theorem dX11_areRooms_14 : decode cX11_areRooms 14 = .ok (.if_icmp .ge 7, 3) := by decide +kernel
theorem dX11_areRooms_17 : decode cX11_areRooms 17 = .ok (.iconst 1, 1) := by decide +kernel
theorem dX11_areRooms_18 : decode cX11_areRooms 18 = .ok (.goto 4, 3) := by decide +kernel
theorem dX11_areRooms_21 : decode cX11_areRooms 21 = .ok (.iconst 0, 1) := by decide +kernel
theorem dX11_areRooms_22 : decode cX11_areRooms 22 = .ok (.ireturn, 1) := by decide +kernel
theorem dX11_isMinute_0 : decode cX11_isMinute 0 = .ok (.iload_n 0, 1) := by decide +kernel
theorem dX11_isMinute_1 : decode cX11_isMinute 1 = .ok (.ifCond .lt 13, 3) := by decide +kernel
theorem dX11_isMinute_4 : decode cX11_isMinute 4 = .ok (.iload_n 0, 1) := by decide +kernel
theorem dX11_isMinute_5 : decode cX11_isMinute 5 = .ok (.bipush 8, 2) := by decide +kernel
theorem dX11_isMinute_7 : decode cX11_isMinute 7 = .ok (.if_icmp .ge 7, 3) := by decide +kernel
theorem dX11_isMinute_10 : decode cX11_isMinute 10 = .ok (.iconst 1, 1) := by decide +kernel
theorem dX11_isMinute_11 : decode cX11_isMinute 11 = .ok (.goto 4, 3) := by decide +kernel
theorem dX11_isMinute_14 : decode cX11_isMinute 14 = .ok (.iconst 0, 1) := by decide +kernel
theorem dX11_isMinute_15 : decode cX11_isMinute 15 = .ok (.ireturn, 1) := by decide +kernel
theorem dX11_fault_0 : decode cX11_fault 0 = .ok (.iload_n 1, 1) := by decide +kernel
theorem dX11_fault_1 : decode cX11_fault 1 = .ok (.lookupswitch 43 #[(0, 27), (1, 35)], 27) := by decide +kernel
theorem dX11_fault_28 : decode cX11_fault 28 = .ok (.aload_n 0, 1) := by decide +kernel
theorem dX11_fault_29 : decode cX11_fault 29 = .ok (.getfield 31, 3) := by decide +kernel
theorem dX11_fault_32 : decode cX11_fault 32 = .ok (.getfield 104, 3) := by decide +kernel
theorem dX11_fault_35 : decode cX11_fault 35 = .ok (.ireturn, 1) := by decide +kernel
theorem dX11_fault_36 : decode cX11_fault 36 = .ok (.aload_n 0, 1) := by decide +kernel
theorem dX11_fault_37 : decode cX11_fault 37 = .ok (.getfield 31, 3) := by decide +kernel
theorem dX11_fault_40 : decode cX11_fault 40 = .ok (.getfield 107, 3) := by decide +kernel
theorem dX11_fault_43 : decode cX11_fault 43 = .ok (.ireturn, 1) := by decide +kernel
theorem dX11_fault_44 : decode cX11_fault 44 = .ok (.iconst (-1), 1) := by decide +kernel
theorem dX11_fault_45 : decode cX11_fault 45 = .ok (.ireturn, 1) := by decide +kernel
theorem dX11_room_0 : decode cX11_room 0 = .ok (.aload_n 0, 1) := by decide +kernel
theorem dX11_room_1 : decode cX11_room 1 = .ok (.iload_n 1, 1) := by decide +kernel
theorem dX11_room_2 : decode cX11_room 2 = .ok (.invokevirtual 110, 3) := by decide +kernel
theorem dX11_room_5 : decode cX11_room 5 = .ok (.ifCond .ne 5, 3) := by decide +kernel
theorem dX11_room_8 : decode cX11_room 8 = .ok (.iconst (-1), 1) := by decide +kernel
theorem dX11_room_9 : decode cX11_room 9 = .ok (.ireturn, 1) := by decide +kernel
theorem dX11_thing_0 : decode cX11_thing 0 = .ok (.aload_n 0, 1) := by decide +kernel
theorem dX11_thing_1 : decode cX11_thing 1 = .ok (.iload_n 1, 1) := by decide +kernel
theorem dX11_thing_2 : decode cX11_thing 2 = .ok (.invokevirtual 125, 3) := by decide +kernel
theorem dX11_thing_5 : decode cX11_thing 5 = .ok (.ifCond .ne 6, 3) := by decide +kernel
theorem dX11_thing_8 : decode cX11_thing 8 = .ok (.bipush (-2), 2) := by decide +kernel
theorem dX11_thing_10 : decode cX11_thing 10 = .ok (.ireturn, 1) := by decide +kernel
theorem dX11_door_0 : decode cX11_door 0 = .ok (.aload_n 0, 1) := by decide +kernel
theorem dX11_door_1 : decode cX11_door 1 = .ok (.iload_n 1, 1) := by decide +kernel
theorem dX11_door_2 : decode cX11_door 2 = .ok (.invokevirtual 141, 3) := by decide +kernel
theorem dX11_door_5 : decode cX11_door 5 = .ok (.ifCond .ne 5, 3) := by decide +kernel
theorem dX11_door_8 : decode cX11_door 8 = .ok (.iconst (-1), 1) := by decide +kernel
theorem dX11_door_9 : decode cX11_door 9 = .ok (.ireturn, 1) := by decide +kernel
theorem dX11_far_0 : decode cX11_far 0 = .ok (.aload_n 0, 1) := by decide +kernel
theorem dX11_far_1 : decode cX11_far 1 = .ok (.iload_n 1, 1) := by decide +kernel
theorem dX11_far_2 : decode cX11_far 2 = .ok (.invokevirtual 110, 3) := by decide +kernel
theorem dX11_far_5 : decode cX11_far 5 = .ok (.ifCond .eq 11, 3) := by decide +kernel
theorem dX11_far_16 : decode cX11_far 16 = .ok (.iconst (-1), 1) := by decide +kernel
theorem dX11_far_17 : decode cX11_far 17 = .ok (.ireturn, 1) := by decide +kernel
theorem dX11_tell_0 : decode cX11_tell 0 = .ok (.aload_n 0, 1) := by decide +kernel
theorem dX11_tell_1 : decode cX11_tell 1 = .ok (.iload_n 1, 1) := by decide +kernel
theorem dX11_tell_2 : decode cX11_tell 2 = .ok (.invokevirtual 125, 3) := by decide +kernel
theorem dX11_tell_5 : decode cX11_tell 5 = .ok (.ifCond .ne 5, 3) := by decide +kernel
theorem dX11_tell_8 : decode cX11_tell 8 = .ok (.iconst (-1), 1) := by decide +kernel
theorem dX11_tell_9 : decode cX11_tell 9 = .ok (.ireturn, 1) := by decide +kernel
theorem dX11_hear_0 : decode cX11_hear 0 = .ok (.aload_n 0, 1) := by decide +kernel
theorem dX11_hear_1 : decode cX11_hear 1 = .ok (.iload_n 1, 1) := by decide +kernel
theorem dX11_hear_2 : decode cX11_hear 2 = .ok (.invokevirtual 125, 3) := by decide +kernel
theorem dX11_hear_5 : decode cX11_hear 5 = .ok (.ifCond .ne 5, 3) := by decide +kernel
theorem dX11_hear_8 : decode cX11_hear 8 = .ok (.iconst (-1), 1) := by decide +kernel
theorem dX11_hear_9 : decode cX11_hear 9 = .ok (.ireturn, 1) := by decide +kernel
theorem dX11_send_0 : decode cX11_send 0 = .ok (.aload_n 0, 1) := by decide +kernel
theorem dX11_send_1 : decode cX11_send 1 = .ok (.iload_n 1, 1) := by decide +kernel
theorem dX11_send_2 : decode cX11_send 2 = .ok (.invokevirtual 125, 3) := by decide +kernel
theorem dX11_send_5 : decode cX11_send 5 = .ok (.ifCond .ne 5, 3) := by decide +kernel
theorem dX11_send_8 : decode cX11_send 8 = .ok (.iconst (-1), 1) := by decide +kernel
theorem dX11_send_9 : decode cX11_send 9 = .ok (.ireturn, 1) := by decide +kernel
theorem dX11_carry_0 : decode cX11_carry 0 = .ok (.aload_n 0, 1) := by decide +kernel
theorem dX11_carry_1 : decode cX11_carry 1 = .ok (.iload_n 1, 1) := by decide +kernel
theorem dX11_carry_2 : decode cX11_carry 2 = .ok (.invokevirtual 125, 3) := by decide +kernel
theorem dX11_carry_5 : decode cX11_carry 5 = .ok (.ifCond .eq 11, 3) := by decide +kernel
theorem dX11_carry_16 : decode cX11_carry 16 = .ok (.iconst (-1), 1) := by decide +kernel
theorem dX11_carry_17 : decode cX11_carry 17 = .ok (.ireturn, 1) := by decide +kernel
theorem dX3_stepBack_0 : decode cX3_stepBack 0 = .ok (.aload_n 0, 1) := by decide +kernel
theorem dX3_stepBack_1 : decode cX3_stepBack 1 = .ok (.getfield 131, 3) := by decide +kernel
theorem dX3_stepBack_4 : decode cX3_stepBack 4 = .ok (.ifCond .ne 5, 3) := by decide +kernel
theorem dX3_stepBack_7 : decode cX3_stepBack 7 = .ok (.iconst 0, 1) := by decide +kernel
theorem dX3_stepBack_8 : decode cX3_stepBack 8 = .ok (.ireturn, 1) := by decide +kernel
theorem dX3_stepOn_0 : decode cX3_stepOn 0 = .ok (.aload_n 0, 1) := by decide +kernel
theorem dX3_stepOn_1 : decode cX3_stepOn 1 = .ok (.getfield 128, 3) := by decide +kernel
theorem dX3_stepOn_4 : decode cX3_stepOn 4 = .ok (.ifCond .ne 5, 3) := by decide +kernel
theorem dX3_stepOn_7 : decode cX3_stepOn 7 = .ok (.iconst 0, 1) := by decide +kernel
theorem dX3_stepOn_8 : decode cX3_stepOn 8 = .ok (.ireturn, 1) := by decide +kernel
theorem dX11_undo_0 : decode cX11_undo 0 = .ok (.aload_n 0, 1) := by decide +kernel
theorem dX11_undo_1 : decode cX11_undo 1 = .ok (.getfield 63, 3) := by decide +kernel
theorem dX11_undo_4 : decode cX11_undo 4 = .ok (.invokevirtual 180, 3) := by decide +kernel
theorem dX11_undo_7 : decode cX11_undo 7 = .ok (.ireturn, 1) := by decide +kernel
theorem dX11_redo_0 : decode cX11_redo 0 = .ok (.aload_n 0, 1) := by decide +kernel
theorem dX11_redo_1 : decode cX11_redo 1 = .ok (.getfield 63, 3) := by decide +kernel
theorem dX11_redo_4 : decode cX11_redo 4 = .ok (.invokevirtual 184, 3) := by decide +kernel
theorem dX11_redo_7 : decode cX11_redo 7 = .ok (.ireturn, 1) := by decide +kernel
theorem dX11_ways_0 : decode cX11_ways 0 = .ok (.aload_n 0, 1) := by decide +kernel
theorem dX11_ways_1 : decode cX11_ways 1 = .ok (.iload_n 1, 1) := by decide +kernel
theorem dX11_ways_2 : decode cX11_ways 2 = .ok (.invokevirtual 110, 3) := by decide +kernel
theorem dX11_ways_5 : decode cX11_ways 5 = .ok (.ifCond .eq 11, 3) := by decide +kernel
theorem dX11_ways_16 : decode cX11_ways 16 = .ok (.iconst (-1), 1) := by decide +kernel
theorem dX11_ways_17 : decode cX11_ways 17 = .ok (.ireturn, 1) := by decide +kernel
theorem dX0_allRooms_0 : decode cX0_allRooms 0 = .ok (.iconst 1, 1) := by decide +kernel
theorem dX0_allRooms_1 : decode cX0_allRooms 1 = .ok (.aload_n 0, 1) := by decide +kernel
theorem dX0_allRooms_2 : decode cX0_allRooms 2 = .ok (.getfield 21, 3) := by decide +kernel
theorem dX0_allRooms_5 : decode cX0_allRooms 5 = .ok (.getfield 43, 3) := by decide +kernel
theorem dX0_allRooms_8 : decode cX0_allRooms 8 = .ok (.ishl, 1) := by decide +kernel
theorem dX0_allRooms_9 : decode cX0_allRooms 9 = .ok (.iconst 1, 1) := by decide +kernel
theorem dX0_allRooms_10 : decode cX0_allRooms 10 = .ok (.isub, 1) := by decide +kernel
theorem dX0_allRooms_11 : decode cX0_allRooms 11 = .ok (.ireturn, 1) := by decide +kernel
theorem dX0_countPieces_0 : decode cX0_countPieces 0 = .ok (.iconst 0, 1) := by decide +kernel
theorem dX0_countPieces_1 : decode cX0_countPieces 1 = .ok (.istore_n 1, 1) := by decide +kernel
theorem dX0_countPieces_2 : decode cX0_countPieces 2 = .ok (.aload_n 0, 1) := by decide +kernel
theorem dX0_countPieces_3 : decode cX0_countPieces 3 = .ok (.invokevirtual 60, 3) := by decide +kernel
theorem dX0_countPieces_6 : decode cX0_countPieces 6 = .ok (.istore_n 2, 1) := by decide +kernel
theorem dX0_countPieces_7 : decode cX0_countPieces 7 = .ok (.iconst 0, 1) := by decide +kernel
theorem dX0_countPieces_8 : decode cX0_countPieces 8 = .ok (.istore_n 3, 1) := by decide +kernel
theorem dX0_countPieces_9 : decode cX0_countPieces 9 = .ok (.iload_n 3, 1) := by decide +kernel
theorem dX0_countPieces_10 : decode cX0_countPieces 10 = .ok (.aload_n 0, 1) := by decide +kernel
theorem dX0_countPieces_11 : decode cX0_countPieces 11 = .ok (.getfield 21, 3) := by decide +kernel
theorem dX0_countPieces_14 : decode cX0_countPieces 14 = .ok (.getfield 43, 3) := by decide +kernel
theorem dX0_countPieces_17 : decode cX0_countPieces 17 = .ok (.if_icmp .ge 35, 3) := by decide +kernel
theorem dX0_countPieces_52 : decode cX0_countPieces 52 = .ok (.iload_n 1, 1) := by decide +kernel
theorem dX0_countPieces_53 : decode cX0_countPieces 53 = .ok (.ireturn, 1) := by decide +kernel
theorem dX0_middleRoom_0 : decode cX0_middleRoom 0 = .ok (.iconst (-1), 1) := by decide +kernel
theorem dX0_middleRoom_1 : decode cX0_middleRoom 1 = .ok (.istore_n 1, 1) := by decide +kernel
theorem dX0_middleRoom_2 : decode cX0_middleRoom 2 = .ok (.bipush 8, 2) := by decide +kernel
theorem dX0_middleRoom_4 : decode cX0_middleRoom 4 = .ok (.istore_n 2, 1) := by decide +kernel
theorem dX0_middleRoom_5 : decode cX0_middleRoom 5 = .ok (.iconst 0, 1) := by decide +kernel
theorem dX0_middleRoom_6 : decode cX0_middleRoom 6 = .ok (.istore_n 3, 1) := by decide +kernel
theorem dX0_middleRoom_7 : decode cX0_middleRoom 7 = .ok (.iload_n 3, 1) := by decide +kernel
theorem dX0_middleRoom_8 : decode cX0_middleRoom 8 = .ok (.aload_n 0, 1) := by decide +kernel
theorem dX0_middleRoom_9 : decode cX0_middleRoom 9 = .ok (.getfield 21, 3) := by decide +kernel
theorem dX0_middleRoom_12 : decode cX0_middleRoom 12 = .ok (.getfield 43, 3) := by decide +kernel
theorem dX0_middleRoom_15 : decode cX0_middleRoom 15 = .ok (.if_icmp .ge 27, 3) := by decide +kernel
theorem dX0_middleRoom_42 : decode cX0_middleRoom 42 = .ok (.iload_n 1, 1) := by decide +kernel
theorem dX0_middleRoom_43 : decode cX0_middleRoom 43 = .ok (.ireturn, 1) := by decide +kernel
theorem dX0_creakingRooms_0 : decode cX0_creakingRooms 0 = .ok (.iconst 0, 1) := by decide +kernel
theorem dX0_creakingRooms_1 : decode cX0_creakingRooms 1 = .ok (.istore_n 2, 1) := by decide +kernel
theorem dX0_creakingRooms_2 : decode cX0_creakingRooms 2 = .ok (.iconst 0, 1) := by decide +kernel
theorem dX0_creakingRooms_3 : decode cX0_creakingRooms 3 = .ok (.istore_n 3, 1) := by decide +kernel
theorem dX0_creakingRooms_4 : decode cX0_creakingRooms 4 = .ok (.iload_n 3, 1) := by decide +kernel
theorem dX0_creakingRooms_5 : decode cX0_creakingRooms 5 = .ok (.aload_n 0, 1) := by decide +kernel
theorem dX0_creakingRooms_6 : decode cX0_creakingRooms 6 = .ok (.getfield 21, 3) := by decide +kernel
theorem dX0_creakingRooms_9 : decode cX0_creakingRooms 9 = .ok (.getfield 43, 3) := by decide +kernel
theorem dX0_creakingRooms_12 : decode cX0_creakingRooms 12 = .ok (.if_icmp .ge 28, 3) := by decide +kernel
theorem dX0_creakingRooms_40 : decode cX0_creakingRooms 40 = .ok (.iload_n 2, 1) := by decide +kernel
theorem dX0_creakingRooms_41 : decode cX0_creakingRooms 41 = .ok (.ireturn, 1) := by decide +kernel
theorem dX11_pieces_0 : decode cX11_pieces 0 = .ok (.aload_n 0, 1) := by decide +kernel
theorem dX11_pieces_1 : decode cX11_pieces 1 = .ok (.getfield 40, 3) := by decide +kernel
theorem dX11_pieces_4 : decode cX11_pieces 4 = .ok (.invokevirtual 199, 3) := by decide +kernel
theorem dX11_pieces_7 : decode cX11_pieces 7 = .ok (.ireturn, 1) := by decide +kernel
theorem dX11_parts_0 : decode cX11_parts 0 = .ok (.aload_n 0, 1) := by decide +kernel
theorem dX11_parts_1 : decode cX11_parts 1 = .ok (.getfield 40, 3) := by decide +kernel
theorem dX11_parts_4 : decode cX11_parts 4 = .ok (.getfield 150, 3) := by decide +kernel
theorem dX11_parts_7 : decode cX11_parts 7 = .ok (.ireturn, 1) := by decide +kernel
theorem dX11_hunt_0 : decode cX11_hunt 0 = .ok (.iload_n 1, 1) := by decide +kernel
theorem dX11_hunt_1 : decode cX11_hunt 1 = .ok (.ifCond .eq 11, 3) := by decide +kernel
theorem dX11_hunt_4 : decode cX11_hunt 4 = .ok (.aload_n 0, 1) := by decide +kernel
theorem dX11_hunt_5 : decode cX11_hunt 5 = .ok (.iload_n 1, 1) := by decide +kernel
theorem dX11_hunt_6 : decode cX11_hunt 6 = .ok (.invokevirtual 203, 3) := by decide +kernel
theorem dX11_hunt_9 : decode cX11_hunt 9 = .ok (.ifCond .ne 5, 3) := by decide +kernel
theorem dX11_hunt_12 : decode cX11_hunt 12 = .ok (.iconst (-1), 1) := by decide +kernel
theorem dX11_hunt_13 : decode cX11_hunt 13 = .ok (.ireturn, 1) := by decide +kernel
theorem dX11_first_0 : decode cX11_first 0 = .ok (.iload_n 1, 1) := by decide +kernel
theorem dX11_first_1 : decode cX11_first 1 = .ok (.ifCond .eq 11, 3) := by decide +kernel
theorem dX11_first_4 : decode cX11_first 4 = .ok (.aload_n 0, 1) := by decide +kernel
theorem dX11_first_5 : decode cX11_first 5 = .ok (.iload_n 1, 1) := by decide +kernel
theorem dX11_first_6 : decode cX11_first 6 = .ok (.invokevirtual 203, 3) := by decide +kernel
theorem dX11_first_9 : decode cX11_first 9 = .ok (.ifCond .ne 5, 3) := by decide +kernel
theorem dX11_first_12 : decode cX11_first 12 = .ok (.iconst (-1), 1) := by decide +kernel
theorem dX11_first_13 : decode cX11_first 13 = .ok (.ireturn, 1) := by decide +kernel
theorem dX11_meet_0 : decode cX11_meet 0 = .ok (.aload_n 0, 1) := by decide +kernel
theorem dX11_meet_1 : decode cX11_meet 1 = .ok (.iload_n 1, 1) := by decide +kernel
theorem dX11_meet_2 : decode cX11_meet 2 = .ok (.invokevirtual 110, 3) := by decide +kernel
theorem dX11_meet_5 : decode cX11_meet 5 = .ok (.ifCond .eq 11, 3) := by decide +kernel
theorem dX11_meet_16 : decode cX11_meet 16 = .ok (.iconst (-1), 1) := by decide +kernel
theorem dX11_meet_17 : decode cX11_meet 17 = .ok (.ireturn, 1) := by decide +kernel
theorem dX11_bar_0 : decode cX11_bar 0 = .ok (.aload_n 0, 1) := by decide +kernel
theorem dX11_bar_1 : decode cX11_bar 1 = .ok (.iload_n 1, 1) := by decide +kernel
theorem dX11_bar_2 : decode cX11_bar 2 = .ok (.invokevirtual 110, 3) := by decide +kernel
theorem dX11_bar_5 : decode cX11_bar 5 = .ok (.ifCond .eq 11, 3) := by decide +kernel
theorem dX11_bar_16 : decode cX11_bar 16 = .ok (.iconst (-1), 1) := by decide +kernel
theorem dX11_bar_17 : decode cX11_bar 17 = .ok (.ireturn, 1) := by decide +kernel
theorem dX11_centre_0 : decode cX11_centre 0 = .ok (.aload_n 0, 1) := by decide +kernel
theorem dX11_centre_1 : decode cX11_centre 1 = .ok (.getfield 40, 3) := by decide +kernel
theorem dX11_centre_4 : decode cX11_centre 4 = .ok (.invokevirtual 231, 3) := by decide +kernel
theorem dX11_centre_7 : decode cX11_centre 7 = .ok (.ireturn, 1) := by decide +kernel
theorem dX11_nooks_0 : decode cX11_nooks 0 = .ok (.iconst 0, 1) := by decide +kernel
theorem dX11_nooks_1 : decode cX11_nooks 1 = .ok (.istore_n 1, 1) := by decide +kernel
theorem dX11_nooks_2 : decode cX11_nooks 2 = .ok (.iconst 0, 1) := by decide +kernel
theorem dX11_nooks_3 : decode cX11_nooks 3 = .ok (.istore_n 2, 1) := by decide +kernel
theorem dX11_nooks_4 : decode cX11_nooks 4 = .ok (.iload_n 2, 1) := by decide +kernel
theorem dX11_nooks_5 : decode cX11_nooks 5 = .ok (.aload_n 0, 1) := by decide +kernel
theorem dX11_nooks_6 : decode cX11_nooks 6 = .ok (.getfield 10, 3) := by decide +kernel
theorem dX11_nooks_9 : decode cX11_nooks 9 = .ok (.getfield 101, 3) := by decide +kernel
theorem dX11_nooks_12 : decode cX11_nooks 12 = .ok (.if_icmp .ge 31, 3) := by decide +kernel
theorem dX11_nooks_43 : decode cX11_nooks 43 = .ok (.iload_n 1, 1) := by decide +kernel
theorem dX11_nooks_44 : decode cX11_nooks 44 = .ok (.ireturn, 1) := by decide +kernel
theorem dX11_echo_0 : decode cX11_echo 0 = .ok (.aload_n 0, 1) := by decide +kernel
theorem dX11_echo_1 : decode cX11_echo 1 = .ok (.iload_n 1, 1) := by decide +kernel
theorem dX11_echo_2 : decode cX11_echo 2 = .ok (.invokevirtual 110, 3) := by decide +kernel
theorem dX11_echo_5 : decode cX11_echo 5 = .ok (.ifCond .eq 13, 3) := by decide +kernel
theorem dX11_echo_18 : decode cX11_echo 18 = .ok (.iconst (-1), 1) := by decide +kernel
theorem dX11_echo_19 : decode cX11_echo 19 = .ok (.ireturn, 1) := by decide +kernel
theorem dX3_mostMended_0 : decode cX3_mostMended 0 = .ok (.iload_n 1, 1) := by decide +kernel
theorem dX3_mostMended_1 : decode cX3_mostMended 1 = .ok (.istore_n 2, 1) := by decide +kernel
theorem dX3_mostMended_2 : decode cX3_mostMended 2 = .ok (.iconst 0, 1) := by decide +kernel
theorem dX3_mostMended_3 : decode cX3_mostMended 3 = .ok (.istore_n 3, 1) := by decide +kernel
theorem dX3_mostMended_4 : decode cX3_mostMended 4 = .ok (.iconst 0, 1) := by decide +kernel
theorem dX3_mostMended_5 : decode cX3_mostMended 5 = .ok (.istore 4, 2) := by decide +kernel
theorem dX3_mostMended_7 : decode cX3_mostMended 7 = .ok (.iload 4, 2) := by decide +kernel
theorem dX3_mostMended_9 : decode cX3_mostMended 9 = .ok (.bipush 8, 2) := by decide +kernel
theorem dX3_mostMended_11 : decode cX3_mostMended 11 = .ok (.if_icmp .ge 62, 3) := by decide +kernel
theorem dX3_mostMended_14 : decode cX3_mostMended 14 = .ok (.iconst 0, 1) := by decide +kernel
theorem dX3_mostMended_15 : decode cX3_mostMended 15 = .ok (.istore 5, 2) := by decide +kernel
theorem dX3_mostMended_17 : decode cX3_mostMended 17 = .ok (.iload 5, 2) := by decide +kernel
theorem dX3_mostMended_19 : decode cX3_mostMended 19 = .ok (.aload_n 0, 1) := by decide +kernel
theorem dX3_mostMended_20 : decode cX3_mostMended 20 = .ok (.getfield 30, 3) := by decide +kernel
theorem dX3_mostMended_23 : decode cX3_mostMended 23 = .ok (.getfield 34, 3) := by decide +kernel
theorem dX3_mostMended_26 : decode cX3_mostMended 26 = .ok (.getfield 40, 3) := by decide +kernel
theorem dX3_mostMended_29 : decode cX3_mostMended 29 = .ok (.if_icmp .ge 38, 3) := by decide +kernel
theorem dX3_mostMended_67 : decode cX3_mostMended 67 = .ok (.iinc 4 1, 3) := by decide +kernel
theorem dX3_mostMended_70 : decode cX3_mostMended 70 = .ok (.goto (-63), 3) := by decide +kernel
theorem dX3_mostMended_73 : decode cX3_mostMended 73 = .ok (.iload_n 3, 1) := by decide +kernel
theorem dX3_mostMended_74 : decode cX3_mostMended 74 = .ok (.ireturn, 1) := by decide +kernel
theorem dX11_mend_0 : decode cX11_mend 0 = .ok (.iload_n 1, 1) := by decide +kernel
theorem dX11_mend_1 : decode cX11_mend 1 = .ok (.ifCond .lt 9, 3) := by decide +kernel
theorem dX11_mend_4 : decode cX11_mend 4 = .ok (.iload_n 1, 1) := by decide +kernel
theorem dX11_mend_5 : decode cX11_mend 5 = .ok (.bipush 99, 2) := by decide +kernel
theorem dX11_mend_7 : decode cX11_mend 7 = .ok (.if_icmp .le 5, 3) := by decide +kernel
theorem dX11_mend_10 : decode cX11_mend 10 = .ok (.iconst (-1), 1) := by decide +kernel
theorem dX11_mend_11 : decode cX11_mend 11 = .ok (.ireturn, 1) := by decide +kernel
theorem dX11_mend_12 : decode cX11_mend 12 = .ok (.aload_n 0, 1) := by decide +kernel
theorem dX11_mend_13 : decode cX11_mend 13 = .ok (.getfield 63, 3) := by decide +kernel
theorem dX11_mend_16 : decode cX11_mend 16 = .ok (.iload_n 1, 1) := by decide +kernel
theorem dX11_mend_17 : decode cX11_mend 17 = .ok (.invokevirtual 234, 3) := by decide +kernel
theorem dX11_mend_20 : decode cX11_mend 20 = .ok (.ireturn, 1) := by decide +kernel
theorem dX10_betterElsewhere_0 : decode cX10_betterElsewhere 0 = .ok (.aload_n 0, 1) := by decide +kernel
theorem dX10_betterElsewhere_1 : decode cX10_betterElsewhere 1 = .ok (.getfield 9, 3) := by decide +kernel
theorem dX10_betterElsewhere_4 : decode cX10_betterElsewhere 4 = .ok (.getfield 15, 3) := by decide +kernel
theorem dX10_betterElsewhere_7 : decode cX10_betterElsewhere 7 = .ok (.getfield 21, 3) := by decide +kernel
theorem dX10_betterElsewhere_10 : decode cX10_betterElsewhere 10 = .ok (.astore_n 1, 1) := by decide +kernel
theorem dX10_betterElsewhere_11 : decode cX10_betterElsewhere 11 = .ok (.iconst 0, 1) := by decide +kernel
theorem dX10_betterElsewhere_12 : decode cX10_betterElsewhere 12 = .ok (.istore_n 2, 1) := by decide +kernel
theorem dX10_betterElsewhere_13 : decode cX10_betterElsewhere 13 = .ok (.iconst 0, 1) := by decide +kernel
theorem dX10_betterElsewhere_14 : decode cX10_betterElsewhere 14 = .ok (.istore_n 3, 1) := by decide +kernel
theorem dX10_betterElsewhere_15 : decode cX10_betterElsewhere 15 = .ok (.iload_n 3, 1) := by decide +kernel
theorem dX10_betterElsewhere_16 : decode cX10_betterElsewhere 16 = .ok (.aload_n 1, 1) := by decide +kernel
theorem dX10_betterElsewhere_17 : decode cX10_betterElsewhere 17 = .ok (.getfield 27, 3) := by decide +kernel
theorem dX10_betterElsewhere_20 : decode cX10_betterElsewhere 20 = .ok (.if_icmp .ge 51, 3) := by decide +kernel
theorem dX10_betterElsewhere_71 : decode cX10_betterElsewhere 71 = .ok (.iload_n 2, 1) := by decide +kernel
theorem dX10_betterElsewhere_72 : decode cX10_betterElsewhere 72 = .ok (.ireturn, 1) := by decide +kernel
theorem dX11_regret_0 : decode cX11_regret 0 = .ok (.aload_n 0, 1) := by decide +kernel
theorem dX11_regret_1 : decode cX11_regret 1 = .ok (.getfield 72, 3) := by decide +kernel
theorem dX11_regret_4 : decode cX11_regret 4 = .ok (.invokevirtual 237, 3) := by decide +kernel
theorem dX11_regret_7 : decode cX11_regret 7 = .ok (.ireturn, 1) := by decide +kernel
theorem dX10_isFair_0 : decode cX10_isFair 0 = .ok (.aload_n 0, 1) := by decide +kernel
theorem dX10_isFair_1 : decode cX10_isFair 1 = .ok (.getfield 9, 3) := by decide +kernel
theorem dX10_isFair_4 : decode cX10_isFair 4 = .ok (.getfield 15, 3) := by decide +kernel
theorem dX10_isFair_7 : decode cX10_isFair 7 = .ok (.getfield 21, 3) := by decide +kernel
theorem dX10_isFair_10 : decode cX10_isFair 10 = .ok (.getfield 27, 3) := by decide +kernel
theorem dX10_isFair_13 : decode cX10_isFair 13 = .ok (.istore_n 3, 1) := by decide +kernel
theorem dX10_isFair_14 : decode cX10_isFair 14 = .ok (.iload_n 1, 1) := by decide +kernel
theorem dX10_isFair_15 : decode cX10_isFair 15 = .ok (.iload_n 3, 1) := by decide +kernel
theorem dX10_isFair_16 : decode cX10_isFair 16 = .ok (.if_icmp .ge 24, 3) := by decide +kernel
theorem dX10_isFair_40 : decode cX10_isFair 40 = .ok (.iconst 0, 1) := by decide +kernel
theorem dX10_isFair_41 : decode cX10_isFair 41 = .ok (.ireturn, 1) := by decide +kernel
theorem dX10_bestPair_0 : decode cX10_bestPair 0 = .ok (.iconst (-1), 1) := by decide +kernel
theorem dX10_bestPair_1 : decode cX10_bestPair 1 = .ok (.istore_n 1, 1) := by decide +kernel
theorem dX10_bestPair_2 : decode cX10_bestPair 2 = .ok (.iconst (-1), 1) := by decide +kernel
theorem dX10_bestPair_3 : decode cX10_bestPair 3 = .ok (.istore_n 2, 1) := by decide +kernel
theorem dX10_bestPair_4 : decode cX10_bestPair 4 = .ok (.iconst 0, 1) := by decide +kernel
theorem dX10_bestPair_5 : decode cX10_bestPair 5 = .ok (.istore_n 3, 1) := by decide +kernel
theorem dX10_bestPair_6 : decode cX10_bestPair 6 = .ok (.iload_n 3, 1) := by decide +kernel
theorem dX10_bestPair_7 : decode cX10_bestPair 7 = .ok (.bipush 36, 2) := by decide +kernel
theorem dX10_bestPair_9 : decode cX10_bestPair 9 = .ok (.if_icmp .ge 55, 3) := by decide +kernel
theorem dX10_bestPair_12 : decode cX10_bestPair 12 = .ok (.iload_n 3, 1) := by decide +kernel
theorem dX10_bestPair_13 : decode cX10_bestPair 13 = .ok (.bipush 6, 2) := by decide +kernel
theorem dX10_bestPair_15 : decode cX10_bestPair 15 = .ok (.idiv, 1) := by decide +kernel
theorem dX10_bestPair_16 : decode cX10_bestPair 16 = .ok (.istore 4, 2) := by decide +kernel
theorem dX10_bestPair_18 : decode cX10_bestPair 18 = .ok (.iload_n 3, 1) := by decide +kernel
theorem dX10_bestPair_19 : decode cX10_bestPair 19 = .ok (.bipush 6, 2) := by decide +kernel
theorem dX10_bestPair_21 : decode cX10_bestPair 21 = .ok (.irem, 1) := by decide +kernel
theorem dX10_bestPair_22 : decode cX10_bestPair 22 = .ok (.istore 5, 2) := by decide +kernel
theorem dX10_bestPair_24 : decode cX10_bestPair 24 = .ok (.aload_n 0, 1) := by decide +kernel
theorem dX10_bestPair_25 : decode cX10_bestPair 25 = .ok (.iload 4, 2) := by decide +kernel
theorem dX10_bestPair_27 : decode cX10_bestPair 27 = .ok (.iload 5, 2) := by decide +kernel
theorem dX10_bestPair_29 : decode cX10_bestPair 29 = .ok (.invokevirtual 47, 3) := by decide +kernel
theorem dX10_bestPair_32 : decode cX10_bestPair 32 = .ok (.ifCond .eq 26, 3) := by decide +kernel
theorem dX10_bestPair_58 : decode cX10_bestPair 58 = .ok (.iinc 3 1, 3) := by decide +kernel
theorem dX10_bestPair_61 : decode cX10_bestPair 61 = .ok (.goto (-55), 3) := by decide +kernel
theorem dX10_bestPair_64 : decode cX10_bestPair 64 = .ok (.iload_n 1, 1) := by decide +kernel
theorem dX10_bestPair_65 : decode cX10_bestPair 65 = .ok (.ireturn, 1) := by decide +kernel
theorem dX11_trade_0 : decode cX11_trade 0 = .ok (.aload_n 0, 1) := by decide +kernel
theorem dX11_trade_1 : decode cX11_trade 1 = .ok (.getfield 72, 3) := by decide +kernel
theorem dX11_trade_4 : decode cX11_trade 4 = .ok (.invokevirtual 240, 3) := by decide +kernel
theorem dX11_trade_7 : decode cX11_trade 7 = .ok (.istore_n 2, 1) := by decide +kernel
theorem dX11_trade_8 : decode cX11_trade 8 = .ok (.iload_n 2, 1) := by decide +kernel
theorem dX11_trade_9 : decode cX11_trade 9 = .ok (.iconst (-1), 1) := by decide +kernel
theorem dX11_trade_10 : decode cX11_trade 10 = .ok (.if_icmp .ne 5, 3) := by decide +kernel
theorem dX11_trade_13 : decode cX11_trade 13 = .ok (.iconst (-1), 1) := by decide +kernel
theorem dX11_trade_14 : decode cX11_trade 14 = .ok (.ireturn, 1) := by decide +kernel
theorem dX10_mostPairs_0 : decode cX10_mostPairs 0 = .ok (.aload_n 0, 1) := by decide +kernel
theorem dX10_mostPairs_1 : decode cX10_mostPairs 1 = .ok (.getfield 9, 3) := by decide +kernel
theorem dX10_mostPairs_4 : decode cX10_mostPairs 4 = .ok (.getfield 15, 3) := by decide +kernel
theorem dX10_mostPairs_7 : decode cX10_mostPairs 7 = .ok (.getfield 21, 3) := by decide +kernel
theorem dX10_mostPairs_10 : decode cX10_mostPairs 10 = .ok (.getfield 27, 3) := by decide +kernel
theorem dX10_mostPairs_13 : decode cX10_mostPairs 13 = .ok (.istore_n 3, 1) := by decide +kernel
theorem dX10_mostPairs_14 : decode cX10_mostPairs 14 = .ok (.iload_n 1, 1) := by decide +kernel
theorem dX10_mostPairs_15 : decode cX10_mostPairs 15 = .ok (.iload_n 3, 1) := by decide +kernel
theorem dX10_mostPairs_16 : decode cX10_mostPairs 16 = .ok (.if_icmp .lt 5, 3) := by decide +kernel
theorem dX10_mostPairs_19 : decode cX10_mostPairs 19 = .ok (.iconst 0, 1) := by decide +kernel
theorem dX10_mostPairs_20 : decode cX10_mostPairs 20 = .ok (.ireturn, 1) := by decide +kernel
theorem dX10_mostTrades_0 : decode cX10_mostTrades 0 = .ok (.aload_n 0, 1) := by decide +kernel
theorem dX10_mostTrades_1 : decode cX10_mostTrades 1 = .ok (.iconst 0, 1) := by decide +kernel
theorem dX10_mostTrades_2 : decode cX10_mostTrades 2 = .ok (.iconst 0, 1) := by decide +kernel
theorem dX10_mostTrades_3 : decode cX10_mostTrades 3 = .ok (.invokevirtual 61, 3) := by decide +kernel
theorem dX10_mostTrades_6 : decode cX10_mostTrades 6 = .ok (.ireturn, 1) := by decide +kernel
theorem dX11_trades_0 : decode cX11_trades 0 = .ok (.aload_n 0, 1) := by decide +kernel
theorem dX11_trades_1 : decode cX11_trades 1 = .ok (.getfield 72, 3) := by decide +kernel
theorem dX11_trades_4 : decode cX11_trades 4 = .ok (.invokevirtual 246, 3) := by decide +kernel
theorem dX11_trades_7 : decode cX11_trades 7 = .ok (.ireturn, 1) := by decide +kernel
theorem dX10_worthOf_0 : decode cX10_worthOf 0 = .ok (.iconst 0, 1) := by decide +kernel
theorem dX10_worthOf_1 : decode cX10_worthOf 1 = .ok (.istore_n 3, 1) := by decide +kernel
theorem dX10_worthOf_2 : decode cX10_worthOf 2 = .ok (.iconst 0, 1) := by decide +kernel
theorem dX10_worthOf_3 : decode cX10_worthOf 3 = .ok (.istore 4, 2) := by decide +kernel
theorem dX10_worthOf_5 : decode cX10_worthOf 5 = .ok (.iload 4, 2) := by decide +kernel
theorem dX10_worthOf_7 : decode cX10_worthOf 7 = .ok (.aload_n 0, 1) := by decide +kernel
theorem dX10_worthOf_8 : decode cX10_worthOf 8 = .ok (.getfield 9, 3) := by decide +kernel
theorem dX10_worthOf_11 : decode cX10_worthOf 11 = .ok (.getfield 15, 3) := by decide +kernel
theorem dX10_worthOf_14 : decode cX10_worthOf 14 = .ok (.getfield 21, 3) := by decide +kernel
theorem dX10_worthOf_17 : decode cX10_worthOf 17 = .ok (.getfield 27, 3) := by decide +kernel
theorem dX10_worthOf_20 : decode cX10_worthOf 20 = .ok (.if_icmp .ge 33, 3) := by decide +kernel
theorem dX10_worthOf_53 : decode cX10_worthOf 53 = .ok (.iload_n 3, 1) := by decide +kernel
theorem dX10_worthOf_54 : decode cX10_worthOf 54 = .ok (.ireturn, 1) := by decide +kernel
theorem dX11_wealth_0 : decode cX11_wealth 0 = .ok (.iload_n 1, 1) := by decide +kernel
theorem dX11_wealth_1 : decode cX11_wealth 1 = .ok (.lookupswitch 59 #[(0, 27), (1, 43)], 27) := by decide +kernel
theorem dX11_wealth_28 : decode cX11_wealth 28 = .ok (.aload_n 0, 1) := by decide +kernel
theorem dX11_wealth_29 : decode cX11_wealth 29 = .ok (.getfield 72, 3) := by decide +kernel
theorem dX11_wealth_32 : decode cX11_wealth 32 = .ok (.iconst 1, 1) := by decide +kernel
theorem dX11_wealth_33 : decode cX11_wealth 33 = .ok (.aload_n 0, 1) := by decide +kernel
theorem dX11_wealth_34 : decode cX11_wealth 34 = .ok (.getfield 10, 3) := by decide +kernel
theorem dX11_wealth_37 : decode cX11_wealth 37 = .ok (.getfield 131, 3) := by decide +kernel
theorem dX11_wealth_40 : decode cX11_wealth 40 = .ok (.invokevirtual 249, 3) := by decide +kernel
theorem dX11_wealth_43 : decode cX11_wealth 43 = .ok (.ireturn, 1) := by decide +kernel
theorem dX11_wealth_44 : decode cX11_wealth 44 = .ok (.aload_n 0, 1) := by decide +kernel
theorem dX11_wealth_45 : decode cX11_wealth 45 = .ok (.getfield 72, 3) := by decide +kernel
theorem dX11_wealth_48 : decode cX11_wealth 48 = .ok (.iconst 0, 1) := by decide +kernel
theorem dX11_wealth_49 : decode cX11_wealth 49 = .ok (.aload_n 0, 1) := by decide +kernel
theorem dX11_wealth_50 : decode cX11_wealth 50 = .ok (.getfield 10, 3) := by decide +kernel
theorem dX11_wealth_53 : decode cX11_wealth 53 = .ok (.getfield 134, 3) := by decide +kernel
theorem dX11_wealth_56 : decode cX11_wealth 56 = .ok (.invokevirtual 249, 3) := by decide +kernel
theorem dX11_wealth_59 : decode cX11_wealth 59 = .ok (.ireturn, 1) := by decide +kernel
theorem dX11_wealth_60 : decode cX11_wealth 60 = .ok (.iconst (-1), 1) := by decide +kernel
theorem dX11_wealth_61 : decode cX11_wealth 61 = .ok (.ireturn, 1) := by decide +kernel
theorem dX11_off_0 : decode cX11_off 0 = .ok (.iconst 0, 1) := by decide +kernel
theorem dX11_off_1 : decode cX11_off 1 = .ok (.istore_n 1, 1) := by decide +kernel
theorem dX11_off_2 : decode cX11_off 2 = .ok (.iconst 0, 1) := by decide +kernel
theorem dX11_off_3 : decode cX11_off 3 = .ok (.istore_n 2, 1) := by decide +kernel
theorem dX11_off_4 : decode cX11_off 4 = .ok (.iload_n 2, 1) := by decide +kernel
theorem dX11_off_5 : decode cX11_off 5 = .ok (.aload_n 0, 1) := by decide +kernel
theorem dX11_off_6 : decode cX11_off 6 = .ok (.getfield 10, 3) := by decide +kernel
theorem dX11_off_9 : decode cX11_off 9 = .ok (.getfield 253, 3) := by decide +kernel
theorem dX11_off_12 : decode cX11_off 12 = .ok (.if_icmp .ge 27, 3) := by decide +kernel
theorem dX11_off_39 : decode cX11_off 39 = .ok (.iload_n 1, 1) := by decide +kernel
theorem dX11_off_40 : decode cX11_off 40 = .ok (.ireturn, 1) := by decide +kernel
theorem dX3_rightThings_0 : decode cX3_rightThings 0 = .ok (.iconst 0, 1) := by decide +kernel
theorem dX3_rightThings_1 : decode cX3_rightThings 1 = .ok (.istore_n 2, 1) := by decide +kernel
theorem dX3_rightThings_2 : decode cX3_rightThings 2 = .ok (.iconst 0, 1) := by decide +kernel
theorem dX3_rightThings_3 : decode cX3_rightThings 3 = .ok (.istore_n 3, 1) := by decide +kernel
theorem dX3_rightThings_4 : decode cX3_rightThings 4 = .ok (.iload_n 3, 1) := by decide +kernel
theorem dX3_rightThings_5 : decode cX3_rightThings 5 = .ok (.aload_n 0, 1) := by decide +kernel
theorem dX3_rightThings_6 : decode cX3_rightThings 6 = .ok (.getfield 30, 3) := by decide +kernel
theorem dX3_rightThings_9 : decode cX3_rightThings 9 = .ok (.getfield 34, 3) := by decide +kernel
theorem dX3_rightThings_12 : decode cX3_rightThings 12 = .ok (.getfield 40, 3) := by decide +kernel
theorem dX3_rightThings_15 : decode cX3_rightThings 15 = .ok (.if_icmp .ge 24, 3) := by decide +kernel
theorem dX3_rightThings_39 : decode cX3_rightThings 39 = .ok (.iload_n 2, 1) := by decide +kernel
theorem dX3_rightThings_40 : decode cX3_rightThings 40 = .ok (.ireturn, 1) := by decide +kernel
theorem dX11_right_0 : decode cX11_right 0 = .ok (.aload_n 0, 1) := by decide +kernel
theorem dX11_right_1 : decode cX11_right 1 = .ok (.getfield 63, 3) := by decide +kernel
theorem dX11_right_4 : decode cX11_right 4 = .ok (.aload_n 0, 1) := by decide +kernel
theorem dX11_right_5 : decode cX11_right 5 = .ok (.getfield 63, 3) := by decide +kernel
theorem dX11_right_8 : decode cX11_right 8 = .ok (.getfield 128, 3) := by decide +kernel
theorem dX11_right_11 : decode cX11_right 11 = .ok (.invokevirtual 260, 3) := by decide +kernel
theorem dX11_right_14 : decode cX11_right 14 = .ok (.ireturn, 1) := by decide +kernel
theorem dX11_deep_0 : decode cX11_deep 0 = .ok (.iload_n 1, 1) := by decide +kernel
theorem dX11_deep_1 : decode cX11_deep 1 = .ok (.ifCond .lt 9, 3) := by decide +kernel
theorem dX11_deep_4 : decode cX11_deep 4 = .ok (.iload_n 1, 1) := by decide +kernel
theorem dX11_deep_5 : decode cX11_deep 5 = .ok (.bipush 99, 2) := by decide +kernel
theorem dX11_deep_7 : decode cX11_deep 7 = .ok (.if_icmp .le 5, 3) := by decide +kernel
theorem dX11_deep_10 : decode cX11_deep 10 = .ok (.iconst (-1), 1) := by decide +kernel
theorem dX11_deep_11 : decode cX11_deep 11 = .ok (.ireturn, 1) := by decide +kernel
theorem dX11_deep_12 : decode cX11_deep 12 = .ok (.iconst 0, 1) := by decide +kernel
theorem dX11_deep_13 : decode cX11_deep 13 = .ok (.istore_n 2, 1) := by decide +kernel
theorem dX11_deep_14 : decode cX11_deep 14 = .ok (.iconst 0, 1) := by decide +kernel
theorem dX11_deep_15 : decode cX11_deep 15 = .ok (.istore_n 3, 1) := by decide +kernel
theorem dX11_deep_16 : decode cX11_deep 16 = .ok (.iload_n 3, 1) := by decide +kernel
theorem dX11_deep_17 : decode cX11_deep 17 = .ok (.aload_n 0, 1) := by decide +kernel
theorem dX11_deep_18 : decode cX11_deep 18 = .ok (.getfield 10, 3) := by decide +kernel
theorem dX11_deep_21 : decode cX11_deep 21 = .ok (.getfield 253, 3) := by decide +kernel
theorem dX11_deep_24 : decode cX11_deep 24 = .ok (.if_icmp .ge 31, 3) := by decide +kernel
theorem dX11_deep_55 : decode cX11_deep 55 = .ok (.iload_n 2, 1) := by decide +kernel
theorem dX11_deep_56 : decode cX11_deep 56 = .ok (.ireturn, 1) := by decide +kernel
theorem dX11_stay_0 : decode cX11_stay 0 = .ok (.aload_n 0, 1) := by decide +kernel
theorem dX11_stay_1 : decode cX11_stay 1 = .ok (.iload_n 1, 1) := by decide +kernel
theorem dX11_stay_2 : decode cX11_stay 2 = .ok (.invokevirtual 125, 3) := by decide +kernel
theorem dX11_stay_5 : decode cX11_stay 5 = .ok (.ifCond .eq 21, 3) := by decide +kernel
theorem dX11_stay_26 : decode cX11_stay 26 = .ok (.iconst (-1), 1) := by decide +kernel
theorem dX11_stay_27 : decode cX11_stay 27 = .ok (.ireturn, 1) := by decide +kernel
theorem dX11_will_0 : decode cX11_will 0 = .ok (.aload_n 0, 1) := by decide +kernel
theorem dX11_will_1 : decode cX11_will 1 = .ok (.iload_n 1, 1) := by decide +kernel
theorem dX11_will_2 : decode cX11_will 2 = .ok (.invokevirtual 125, 3) := by decide +kernel
theorem dX11_will_5 : decode cX11_will 5 = .ok (.ifCond .eq 13, 3) := by decide +kernel
theorem dX11_will_18 : decode cX11_will 18 = .ok (.iconst (-1), 1) := by decide +kernel
theorem dX11_will_19 : decode cX11_will 19 = .ok (.ireturn, 1) := by decide +kernel
theorem dX3_daysTillLost_0 : decode cX3_daysTillLost 0 = .ok (.aload_n 0, 1) := by decide +kernel
theorem dX3_daysTillLost_1 : decode cX3_daysTillLost 1 = .ok (.getfield 30, 3) := by decide +kernel
theorem dX3_daysTillLost_4 : decode cX3_daysTillLost 4 = .ok (.getfield 34, 3) := by decide +kernel
theorem dX3_daysTillLost_7 : decode cX3_daysTillLost 7 = .ok (.getfield 40, 3) := by decide +kernel
theorem dX3_daysTillLost_10 : decode cX3_daysTillLost 10 = .ok (.ifCond .ne 5, 3) := by decide +kernel
theorem dX3_daysTillLost_13 : decode cX3_daysTillLost 13 = .ok (.iconst (-1), 1) := by decide +kernel
theorem dX3_daysTillLost_14 : decode cX3_daysTillLost 14 = .ok (.ireturn, 1) := by decide +kernel
theorem dX11_lost_0 : decode cX11_lost 0 = .ok (.aload_n 0, 1) := by decide +kernel
theorem dX11_lost_1 : decode cX11_lost 1 = .ok (.getfield 63, 3) := by decide +kernel
theorem dX11_lost_4 : decode cX11_lost 4 = .ok (.invokevirtual 269, 3) := by decide +kernel
theorem dX11_lost_7 : decode cX11_lost 7 = .ok (.ireturn, 1) := by decide +kernel
theorem dX11_lies_0 : decode cX11_lies 0 = .ok (.iload_n 1, 1) := by decide +kernel
theorem dX11_lies_1 : decode cX11_lies 1 = .ok (.ifCond .lt 14, 3) := by decide +kernel
theorem dX11_lies_4 : decode cX11_lies 4 = .ok (.iload_n 1, 1) := by decide +kernel
theorem dX11_lies_5 : decode cX11_lies 5 = .ok (.aload_n 0, 1) := by decide +kernel
theorem dX11_lies_6 : decode cX11_lies 6 = .ok (.getfield 49, 3) := by decide +kernel
theorem dX11_lies_9 : decode cX11_lies 9 = .ok (.getfield 187, 3) := by decide +kernel
theorem dX11_lies_12 : decode cX11_lies 12 = .ok (.if_icmp .lt 7, 3) := by decide +kernel
theorem dX11_lies_15 : decode cX11_lies 15 = .ok (.iconst (-1), 1) := by decide +kernel
theorem dX11_lies_16 : decode cX11_lies 16 = .ok (.goto 12, 3) := by decide +kernel
theorem dX11_lies_28 : decode cX11_lies 28 = .ok (.ireturn, 1) := by decide +kernel
theorem dX11_seen_0 : decode cX11_seen 0 = .ok (.aload_n 0, 1) := by decide +kernel
theorem dX11_seen_1 : decode cX11_seen 1 = .ok (.iload_n 2, 1) := by decide +kernel
theorem dX11_seen_2 : decode cX11_seen 2 = .ok (.invokevirtual 110, 3) := by decide +kernel
theorem dX11_seen_5 : decode cX11_seen 5 = .ok (.ifCond .eq 10, 3) := by decide +kernel
theorem dX11_seen_15 : decode cX11_seen 15 = .ok (.iconst (-1), 1) := by decide +kernel
theorem dX11_seen_16 : decode cX11_seen 16 = .ok (.ireturn, 1) := by decide +kernel
theorem dX4_takeBack_0 : decode cX4_takeBack 0 = .ok (.iload_n 1, 1) := by decide +kernel
theorem dX4_takeBack_1 : decode cX4_takeBack 1 = .ok (.ifCond .lt 21, 3) := by decide +kernel
theorem dX4_takeBack_4 : decode cX4_takeBack 4 = .ok (.iload_n 1, 1) := by decide +kernel
theorem dX4_takeBack_5 : decode cX4_takeBack 5 = .ok (.aload_n 0, 1) := by decide +kernel
theorem dX4_takeBack_6 : decode cX4_takeBack 6 = .ok (.getfield 37, 3) := by decide +kernel
theorem dX4_takeBack_9 : decode cX4_takeBack 9 = .ok (.if_icmp .ge 13, 3) := by decide +kernel
theorem dX4_takeBack_22 : decode cX4_takeBack 22 = .ok (.iconst 0, 1) := by decide +kernel
theorem dX4_takeBack_23 : decode cX4_takeBack 23 = .ok (.ireturn, 1) := by decide +kernel
theorem dX11_untell_0 : decode cX11_untell 0 = .ok (.aload_n 0, 1) := by decide +kernel
theorem dX11_untell_1 : decode cX11_untell 1 = .ok (.getfield 79, 3) := by decide +kernel
theorem dX11_untell_4 : decode cX11_untell 4 = .ok (.iload_n 1, 1) := by decide +kernel
theorem dX11_untell_5 : decode cX11_untell 5 = .ok (.invokevirtual 285, 3) := by decide +kernel
theorem dX11_untell_8 : decode cX11_untell 8 = .ok (.ireturn, 1) := by decide +kernel
theorem dX3_takeFromBox_0 : decode cX3_takeFromBox 0 = .ok (.iload_n 1, 1) := by decide +kernel
theorem dX3_takeFromBox_1 : decode cX3_takeFromBox 1 = .ok (.ifCond .lt 17, 3) := by decide +kernel
theorem dX3_takeFromBox_4 : decode cX3_takeFromBox 4 = .ok (.iload_n 1, 1) := by decide +kernel
theorem dX3_takeFromBox_5 : decode cX3_takeFromBox 5 = .ok (.iconst 3, 1) := by decide +kernel
theorem dX3_takeFromBox_6 : decode cX3_takeFromBox 6 = .ok (.if_icmp .ge 12, 3) := by decide +kernel
theorem dX3_takeFromBox_9 : decode cX3_takeFromBox 9 = .ok (.aload_n 0, 1) := by decide +kernel
theorem dX3_takeFromBox_10 : decode cX3_takeFromBox 10 = .ok (.getfield 26, 3) := by decide +kernel
theorem dX3_takeFromBox_13 : decode cX3_takeFromBox 13 = .ok (.iload_n 1, 1) := by decide +kernel
theorem dX3_takeFromBox_14 : decode cX3_takeFromBox 14 = .ok (.baload, 1) := by decide +kernel
theorem dX3_takeFromBox_15 : decode cX3_takeFromBox 15 = .ok (.ifCond .ne 5, 3) := by decide +kernel
theorem dX3_takeFromBox_18 : decode cX3_takeFromBox 18 = .ok (.iconst (-1), 1) := by decide +kernel
theorem dX3_takeFromBox_19 : decode cX3_takeFromBox 19 = .ok (.ireturn, 1) := by decide +kernel
theorem dX11_back_0 : decode cX11_back 0 = .ok (.aload_n 0, 1) := by decide +kernel
theorem dX11_back_1 : decode cX11_back 1 = .ok (.getfield 63, 3) := by decide +kernel
theorem dX11_back_4 : decode cX11_back 4 = .ok (.iload_n 1, 1) := by decide +kernel
theorem dX11_back_5 : decode cX11_back 5 = .ok (.invokevirtual 306, 3) := by decide +kernel
theorem dX11_back_8 : decode cX11_back 8 = .ok (.ireturn, 1) := by decide +kernel
theorem dX11_about_0 : decode cX11_about 0 = .ok (.iload_n 1, 1) := by decide +kernel
theorem dX11_about_1 : decode cX11_about 1 = .ok (.tableswitch 168 0 11 #[63, 71, 79, 87, 98, 109, 117, 125, 133, 141, 149, 160], 63) := by decide +kernel
theorem dX11_about_64 : decode cX11_about 64 = .ok (.aload_n 0, 1) := by decide +kernel
theorem dX11_about_65 : decode cX11_about 65 = .ok (.getfield 10, 3) := by decide +kernel
theorem dX11_about_68 : decode cX11_about 68 = .ok (.getfield 101, 3) := by decide +kernel
theorem dX11_about_71 : decode cX11_about 71 = .ok (.ireturn, 1) := by decide +kernel
theorem dX11_about_72 : decode cX11_about 72 = .ok (.aload_n 0, 1) := by decide +kernel
theorem dX11_about_73 : decode cX11_about 73 = .ok (.getfield 10, 3) := by decide +kernel
theorem dX11_about_76 : decode cX11_about 76 = .ok (.getfield 309, 3) := by decide +kernel
theorem dX11_about_79 : decode cX11_about 79 = .ok (.ireturn, 1) := by decide +kernel
theorem dX11_about_80 : decode cX11_about 80 = .ok (.aload_n 0, 1) := by decide +kernel
theorem dX11_about_81 : decode cX11_about 81 = .ok (.getfield 10, 3) := by decide +kernel
theorem dX11_about_84 : decode cX11_about 84 = .ok (.getfield 253, 3) := by decide +kernel
theorem dX11_about_87 : decode cX11_about 87 = .ok (.ireturn, 1) := by decide +kernel
theorem dX11_about_88 : decode cX11_about 88 = .ok (.aload_n 0, 1) := by decide +kernel
theorem dX11_about_89 : decode cX11_about 89 = .ok (.getfield 63, 3) := by decide +kernel
theorem dX11_about_92 : decode cX11_about 92 = .ok (.getfield 128, 3) := by decide +kernel
theorem dX11_about_95 : decode cX11_about 95 = .ok (.bipush 30, 2) := by decide +kernel
theorem dX11_about_97 : decode cX11_about 97 = .ok (.iaload, 1) := by decide +kernel
theorem dX11_about_98 : decode cX11_about 98 = .ok (.ireturn, 1) := by decide +kernel
theorem dX11_about_99 : decode cX11_about 99 = .ok (.aload_n 0, 1) := by decide +kernel
theorem dX11_about_100 : decode cX11_about 100 = .ok (.getfield 63, 3) := by decide +kernel
theorem dX11_about_103 : decode cX11_about 103 = .ok (.getfield 128, 3) := by decide +kernel
theorem dX11_about_106 : decode cX11_about 106 = .ok (.bipush 31, 2) := by decide +kernel
theorem dX11_about_108 : decode cX11_about 108 = .ok (.iaload, 1) := by decide +kernel
theorem dX11_about_109 : decode cX11_about 109 = .ok (.ireturn, 1) := by decide +kernel
theorem dX11_about_110 : decode cX11_about 110 = .ok (.aload_n 0, 1) := by decide +kernel
theorem dX11_about_111 : decode cX11_about 111 = .ok (.getfield 63, 3) := by decide +kernel
theorem dX11_about_114 : decode cX11_about 114 = .ok (.getfield 312, 3) := by decide +kernel
theorem dX11_about_117 : decode cX11_about 117 = .ok (.ireturn, 1) := by decide +kernel
theorem dX11_about_118 : decode cX11_about 118 = .ok (.aload_n 0, 1) := by decide +kernel
theorem dX11_about_119 : decode cX11_about 119 = .ok (.getfield 63, 3) := by decide +kernel
theorem dX11_about_122 : decode cX11_about 122 = .ok (.getfield 315, 3) := by decide +kernel
theorem dX11_about_125 : decode cX11_about 125 = .ok (.ireturn, 1) := by decide +kernel
theorem dX11_about_126 : decode cX11_about 126 = .ok (.aload_n 0, 1) := by decide +kernel
theorem dX11_about_127 : decode cX11_about 127 = .ok (.getfield 79, 3) := by decide +kernel
theorem dX11_about_130 : decode cX11_about 130 = .ok (.getfield 318, 3) := by decide +kernel
theorem dX11_about_133 : decode cX11_about 133 = .ok (.ireturn, 1) := by decide +kernel
theorem dX11_about_134 : decode cX11_about 134 = .ok (.aload_n 0, 1) := by decide +kernel
theorem dX11_about_135 : decode cX11_about 135 = .ok (.getfield 79, 3) := by decide +kernel
theorem dX11_about_138 : decode cX11_about 138 = .ok (.getfield 321, 3) := by decide +kernel
theorem dX11_about_141 : decode cX11_about 141 = .ok (.ireturn, 1) := by decide +kernel
theorem dX11_about_142 : decode cX11_about 142 = .ok (.aload_n 0, 1) := by decide +kernel
theorem dX11_about_143 : decode cX11_about 143 = .ok (.getfield 22, 3) := by decide +kernel
theorem dX11_about_146 : decode cX11_about 146 = .ok (.getfield 86, 3) := by decide +kernel
theorem dX11_about_149 : decode cX11_about 149 = .ok (.ireturn, 1) := by decide +kernel
theorem dX11_about_150 : decode cX11_about 150 = .ok (.aload_n 0, 1) := by decide +kernel
theorem dX11_about_151 : decode cX11_about 151 = .ok (.getfield 10, 3) := by decide +kernel
theorem dX11_about_154 : decode cX11_about 154 = .ok (.getfield 324, 3) := by decide +kernel
theorem dX11_about_157 : decode cX11_about 157 = .ok (.getfield 328, 3) := by decide +kernel
theorem dX11_about_160 : decode cX11_about 160 = .ok (.ireturn, 1) := by decide +kernel
theorem dX11_about_161 : decode cX11_about 161 = .ok (.aload_n 0, 1) := by decide +kernel
theorem dX11_about_162 : decode cX11_about 162 = .ok (.getfield 49, 3) := by decide +kernel
theorem dX11_about_165 : decode cX11_about 165 = .ok (.getfield 187, 3) := by decide +kernel
theorem dX11_about_168 : decode cX11_about 168 = .ok (.ireturn, 1) := by decide +kernel
theorem dX11_about_169 : decode cX11_about 169 = .ok (.iconst (-1), 1) := by decide +kernel
theorem dX11_about_170 : decode cX11_about 170 = .ok (.ireturn, 1) := by decide +kernel
set_option maxRecDepth 20000 in
theorem ggX11_room_X11_isRoom : GoodIn wsX11_room wsX11_isRoom := goodIn_r _ [10, 1, 11, 21, 22, 23, 24, 25, 26, 27, 28, 29, 30, 31, 32, 33, 34, 35, 36, 37, 38, 39, 40, 41, 42, 43, 44, 45, 46] (by decide +kernel) (by decide +kernel)
set_option maxRecDepth 20000 in
theorem gX11_room_X11_isRoom : GoodIn wsX11_room (wsV RX11 110 RX11 yX11_isRoom wsX11_isRoom) := goodIn_app (goodIn_of _ (by decide +kernel)) ggX11_room_X11_isRoom
set_option maxRecDepth 20000 in
theorem ggX11_thing_X11_isThing : GoodIn wsX11_thing wsX11_isThing := goodIn_r _ [10, 3, 11, 56, 57, 58, 59, 60, 61, 62, 63, 64, 65, 75, 76, 77, 78, 79, 80, 81, 82, 83, 84, 85, 86, 87, 88, 89, 90] (by decide +kernel) (by decide +kernel)
set_option maxRecDepth 20000 in
theorem gX11_thing_X11_isThing : GoodIn wsX11_thing (wsV RX11 125 RX11 yX11_isThing wsX11_isThing) := goodIn_app (goodIn_of _ (by decide +kernel)) ggX11_thing_X11_isThing
set_option maxRecDepth 20000 in
theorem ggX11_door_X11_isDoor : GoodIn wsX11_door wsX11_isDoor := goodIn_r _ [11, 1, 12, 13, 14, 15, 16, 17, 18, 19, 20, 21, 22, 23, 24, 25, 26, 27, 28, 29, 30, 31, 32, 33, 34, 35, 36, 37, 38] (by decide +kernel) (by decide +kernel)
set_option maxRecDepth 20000 in
theorem gX11_door_X11_isDoor : GoodIn wsX11_door (wsV RX11 141 RX11 yX11_isDoor wsX11_isDoor) := goodIn_app (goodIn_of _ (by decide +kernel)) ggX11_door_X11_isDoor
set_option maxRecDepth 20000 in
theorem ggX11_far_X11_isRoom : GoodIn wsX11_far wsX11_isRoom := goodIn_r _ [6, 7, 8, 15, 16, 17, 18, 19, 20, 21, 22, 23, 24, 25, 26, 27, 28, 29, 30, 31, 32, 33, 34, 35, 36, 37, 38, 39, 40] (by decide +kernel) (by decide +kernel)
set_option maxRecDepth 20000 in
theorem gX11_far_X11_isRoom : GoodIn wsX11_far (wsV RX11 110 RX11 yX11_isRoom wsX11_isRoom) := goodIn_app (goodIn_of _ (by decide +kernel)) ggX11_far_X11_isRoom
set_option maxRecDepth 20000 in
theorem ggX11_tell_X11_isThing : GoodIn wsX11_tell wsX11_isThing := goodIn_r _ [7, 8, 9, 36, 37, 38, 39, 40, 41, 42, 43, 44, 45, 55, 56, 57, 58, 59, 60, 61, 62, 63, 64, 65, 66, 67, 68, 69, 70] (by decide +kernel) (by decide +kernel)
set_option maxRecDepth 20000 in
theorem gX11_tell_X11_isThing : GoodIn wsX11_tell (wsV RX11 125 RX11 yX11_isThing wsX11_isThing) := goodIn_app (goodIn_of _ (by decide +kernel)) ggX11_tell_X11_isThing
set_option maxRecDepth 20000 in
theorem ggX11_hear_X11_isThing : GoodIn wsX11_hear wsX11_isThing := goodIn_r _ [7, 8, 9, 32, 33, 34, 35, 36, 37, 38, 39, 40, 41, 51, 52, 53, 54, 55, 56, 57, 58, 59, 60, 61, 62, 63, 64, 65, 66] (by decide +kernel) (by decide +kernel)
set_option maxRecDepth 20000 in
theorem gX11_hear_X11_isThing : GoodIn wsX11_hear (wsV RX11 125 RX11 yX11_isThing wsX11_isThing) := goodIn_app (goodIn_of _ (by decide +kernel)) ggX11_hear_X11_isThing
set_option maxRecDepth 20000 in
theorem ggX11_send_X11_isThing : GoodIn wsX11_send wsX11_isThing := goodIn_r _ [7, 8, 9, 24, 25, 26, 27, 28, 29, 30, 31, 32, 33, 43, 44, 45, 46, 47, 48, 49, 50, 51, 52, 53, 54, 55, 56, 57, 58] (by decide +kernel) (by decide +kernel)
set_option maxRecDepth 20000 in
theorem gX11_send_X11_isThing : GoodIn wsX11_send (wsV RX11 125 RX11 yX11_isThing wsX11_isThing) := goodIn_app (goodIn_of _ (by decide +kernel)) ggX11_send_X11_isThing
set_option maxRecDepth 20000 in
theorem ggX11_carry_X11_isThing : GoodIn wsX11_carry wsX11_isThing := goodIn_r _ [8, 1, 9, 40, 41, 42, 43, 44, 45, 46, 47, 48, 49, 59, 60, 61, 62, 63, 64, 65, 66, 67, 68, 69, 70, 71, 72, 73, 74] (by decide +kernel) (by decide +kernel)
set_option maxRecDepth 20000 in
theorem gX11_carry_X11_isThing : GoodIn wsX11_carry (wsV RX11 125 RX11 yX11_isThing wsX11_isThing) := goodIn_app (goodIn_of _ (by decide +kernel)) ggX11_carry_X11_isThing
set_option maxRecDepth 20000 in
theorem ggX11_undo_X3_stepBack : GoodIn wsX11_undo wsX3_stepBack := goodIn_r _ [6, 7, 8, 9, 10, 11, 12, 13, 14, 15, 26, 27, 28, 29, 30, 31, 32, 33, 34] (by decide +kernel) (by decide +kernel)
set_option maxRecDepth 20000 in
theorem gX11_undo_X3_stepBack : GoodIn wsX11_undo (wsV RX11 180 RX3 yX3_stepBack wsX3_stepBack) := goodIn_app (goodIn_of _ (by decide +kernel)) ggX11_undo_X3_stepBack
set_option maxRecDepth 20000 in
theorem ggX11_redo_X3_stepOn : GoodIn wsX11_redo wsX3_stepOn := goodIn_r _ [6, 7, 8, 9, 10, 11, 12, 13, 14, 15, 26, 27, 28, 29, 30, 31, 32, 33, 34] (by decide +kernel) (by decide +kernel)
set_option maxRecDepth 20000 in
theorem gX11_redo_X3_stepOn : GoodIn wsX11_redo (wsV RX11 184 RX3 yX3_stepOn wsX3_stepOn) := goodIn_app (goodIn_of _ (by decide +kernel)) ggX11_redo_X3_stepOn
set_option maxRecDepth 20000 in
theorem ggX11_ways_X11_isRoom : GoodIn wsX11_ways wsX11_isRoom := goodIn_r _ [6, 7, 8, 33, 34, 35, 36, 37, 38, 39, 40, 41, 42, 43, 44, 45, 46, 47, 48, 49, 50, 51, 52, 53, 54, 55, 56, 57, 58] (by decide +kernel) (by decide +kernel)
set_option maxRecDepth 20000 in
theorem gX11_ways_X11_isRoom : GoodIn wsX11_ways (wsV RX11 110 RX11 yX11_isRoom wsX11_isRoom) := goodIn_app (goodIn_of _ (by decide +kernel)) ggX11_ways_X11_isRoom
set_option maxRecDepth 20000 in
theorem ggX0_countPieces_X0_allRooms : GoodIn wsX0_countPieces wsX0_allRooms := goodIn_r _ [7, 1, 2, 17, 18, 19, 20, 21, 22, 23, 24, 25, 26, 27, 28, 29, 30, 31, 32, 33, 34, 35, 36, 37] (by decide +kernel) (by decide +kernel)
set_option maxRecDepth 20000 in
theorem gX0_countPieces_X0_allRooms : GoodIn wsX0_countPieces (wsV RX0 60 RX0 yX0_allRooms wsX0_allRooms) := goodIn_app (goodIn_of _ (by decide +kernel)) ggX0_countPieces_X0_allRooms
set_option maxRecDepth 20000 in
theorem ggX11_pieces_X0_countPieces : GoodIn wsX11_pieces wsX0_countPieces := goodIn_r _ [6, 7, 8, 9, 10, 11, 5, 12, 13, 14, 15, 16, 17, 18, 19, 20, 21, 32, 33, 34, 35, 36, 37, 38, 39, 40, 41, 42, 43, 44, 45, 46, 47, 48, 49, 50, 51, 52] (by decide +kernel) (by decide +kernel)
set_option maxRecDepth 20000 in
theorem gX11_pieces_X0_countPieces : GoodIn wsX11_pieces (wsV RX11 199 RX0 yX0_countPieces wsX0_countPieces) := goodIn_app (goodIn_of _ (by decide +kernel)) ggX11_pieces_X0_countPieces
set_option maxRecDepth 20000 in
theorem ggX11_hunt_X11_areRooms : GoodIn wsX11_hunt wsX11_areRooms := goodIn_r _ [6, 7, 8, 39, 40, 41, 42, 43, 44, 45, 46, 47, 48, 49, 50, 51, 52, 53, 54, 55, 56, 57, 58, 59, 60, 61, 62, 63, 64] (by decide +kernel) (by decide +kernel)
set_option maxRecDepth 20000 in
theorem gX11_hunt_X11_areRooms : GoodIn wsX11_hunt (wsV RX11 203 RX11 yX11_areRooms wsX11_areRooms) := goodIn_app (goodIn_of _ (by decide +kernel)) ggX11_hunt_X11_areRooms
set_option maxRecDepth 20000 in
theorem ggX11_first_X11_areRooms : GoodIn wsX11_first wsX11_areRooms := goodIn_r _ [6, 7, 8, 43, 44, 45, 46, 47, 48, 49, 50, 51, 52, 53, 54, 55, 56, 57, 58, 59, 60, 61, 62, 63, 64, 65, 66, 67, 68] (by decide +kernel) (by decide +kernel)
set_option maxRecDepth 20000 in
theorem gX11_first_X11_areRooms : GoodIn wsX11_first (wsV RX11 203 RX11 yX11_areRooms wsX11_areRooms) := goodIn_app (goodIn_of _ (by decide +kernel)) ggX11_first_X11_areRooms
set_option maxRecDepth 20000 in
theorem ggX11_meet_X11_isRoom : GoodIn wsX11_meet wsX11_isRoom := goodIn_r _ [6, 7, 8, 30, 31, 32, 33, 34, 35, 36, 37, 38, 39, 40, 41, 42, 43, 44, 45, 46, 47, 48, 49, 50, 51, 52, 53, 54, 55] (by decide +kernel) (by decide +kernel)
set_option maxRecDepth 20000 in
theorem gX11_meet_X11_isRoom : GoodIn wsX11_meet (wsV RX11 110 RX11 yX11_isRoom wsX11_isRoom) := goodIn_app (goodIn_of _ (by decide +kernel)) ggX11_meet_X11_isRoom
set_option maxRecDepth 20000 in
theorem ggX11_bar_X11_isRoom : GoodIn wsX11_bar wsX11_isRoom := goodIn_r _ [6, 7, 8, 37, 38, 39, 40, 41, 42, 43, 44, 45, 46, 47, 48, 49, 50, 51, 52, 53, 54, 55, 56, 57, 58, 59, 60, 61, 62] (by decide +kernel) (by decide +kernel)
set_option maxRecDepth 20000 in
theorem gX11_bar_X11_isRoom : GoodIn wsX11_bar (wsV RX11 110 RX11 yX11_isRoom wsX11_isRoom) := goodIn_app (goodIn_of _ (by decide +kernel)) ggX11_bar_X11_isRoom
set_option maxRecDepth 20000 in
theorem ggX11_centre_X0_middleRoom : GoodIn wsX11_centre wsX0_middleRoom := goodIn_r _ [6, 7, 8, 9, 10, 11, 5, 12, 13, 14, 15, 16, 17, 18, 19, 20, 21, 32, 33, 34, 35, 36, 37, 38, 39, 40, 41, 42, 43, 44, 45, 46, 47, 48, 49, 50, 51, 52] (by decide +kernel) (by decide +kernel)
set_option maxRecDepth 20000 in
theorem gX11_centre_X0_middleRoom : GoodIn wsX11_centre (wsV RX11 231 RX0 yX0_middleRoom wsX0_middleRoom) := goodIn_app (goodIn_of _ (by decide +kernel)) ggX11_centre_X0_middleRoom
set_option maxRecDepth 20000 in
theorem ggX11_echo_X11_isRoom : GoodIn wsX11_echo wsX11_isRoom := goodIn_r _ [9, 1, 2, 16, 17, 18, 19, 20, 21, 22, 23, 24, 25, 26, 27, 28, 29, 30, 31, 32, 33, 34, 35, 36, 37, 38, 39, 40, 41] (by decide +kernel) (by decide +kernel)
set_option maxRecDepth 20000 in
theorem gX11_echo_X11_isRoom : GoodIn wsX11_echo (wsV RX11 110 RX11 yX11_isRoom wsX11_isRoom) := goodIn_app (goodIn_of _ (by decide +kernel)) ggX11_echo_X11_isRoom
set_option maxRecDepth 20000 in
theorem ggX11_mend_X3_mostMended : GoodIn wsX11_mend wsX3_mostMended := goodIn_r _ [6, 7, 8, 9, 10, 11, 12, 13, 5, 14, 15, 16, 17, 18, 19, 20, 31, 32, 33, 34, 35, 36, 37, 38, 39, 40, 41, 42, 43, 44, 45, 46, 47, 48, 49, 50, 51, 52, 53, 54, 55, 56, 57, 58, 59, 60] (by decide +kernel) (by decide +kernel)
set_option maxRecDepth 20000 in
theorem gX11_mend_X3_mostMended : GoodIn wsX11_mend (wsV RX11 234 RX3 yX3_mostMended wsX3_mostMended) := goodIn_app (goodIn_of _ (by decide +kernel)) ggX11_mend_X3_mostMended
set_option maxRecDepth 20000 in
theorem ggX11_regret_X10_betterElsewhere : GoodIn wsX11_regret wsX10_betterElsewhere := goodIn_r _ [6, 7, 8, 9, 10, 11, 12, 13, 14, 15, 5, 16, 17, 28, 29, 30, 31, 32, 33, 34, 35, 36, 37, 38, 39, 40, 41, 42, 43, 44, 45, 46, 47, 48, 49, 50, 51, 52, 53, 54, 55, 56, 57, 58] (by decide +kernel) (by decide +kernel)
set_option maxRecDepth 20000 in
theorem gX11_regret_X10_betterElsewhere : GoodIn wsX11_regret (wsV RX11 237 RX10 yX10_betterElsewhere wsX10_betterElsewhere) := goodIn_app (goodIn_of _ (by decide +kernel)) ggX11_regret_X10_betterElsewhere
set_option maxRecDepth 20000 in
theorem ggX10_bestPair_X10_isFair : GoodIn wsX10_bestPair wsX10_isFair := goodIn_r _ [5, 6, 7, 8, 9, 10, 11, 12, 4, 13, 14, 15, 16, 17, 18, 19, 20, 21, 22, 23, 24, 29, 30, 31, 32, 33, 34, 35, 36, 37, 38, 39, 40, 41, 42, 43, 44, 45, 46, 47, 48, 49, 50, 51, 52, 53, 54, 55, 56, 57, 58, 59] (by decide +kernel) (by decide +kernel)
set_option maxRecDepth 20000 in
theorem gX10_bestPair_X10_isFair : GoodIn wsX10_bestPair (wsV RX10 47 RX10 yX10_isFair wsX10_isFair) := goodIn_app (goodIn_of _ (by decide +kernel)) ggX10_bestPair_X10_isFair
set_option maxRecDepth 20000 in
theorem ggX11_trade_X10_bestPair : GoodIn wsX11_trade wsX10_bestPair := goodIn_r _ [6, 7, 8, 9, 5, 10, 11, 12, 13, 14, 15, 16, 17, 18, 19, 20, 21, 22, 23, 24, 25, 26, 27, 28, 29, 30, 31, 32, 33, 45, 46, 47, 48, 49, 50, 51, 52, 53, 54, 55, 56, 57, 58, 59, 60, 61, 62, 63, 64, 65, 66, 67, 68, 69, 70, 71, 72, 73, 74, 75] (by decide +kernel) (by decide +kernel)
set_option maxRecDepth 20000 in
theorem gX11_trade_X10_bestPair : GoodIn wsX11_trade (wsV RX11 240 RX10 yX10_bestPair wsX10_bestPair) := goodIn_app (goodIn_of _ (by decide +kernel)) ggX11_trade_X10_bestPair
set_option maxRecDepth 20000 in
theorem ggX10_mostTrades_X10_mostPairs : GoodIn wsX10_mostTrades wsX10_mostPairs := goodIn_r _ [5, 6, 7, 8, 9, 10, 11, 12, 13, 1, 2, 3, 4, 14, 15, 16, 17, 18, 19, 20, 21, 22, 23, 24, 25, 26, 27, 28, 29, 30, 31, 32, 33, 34, 35, 36, 37, 38, 39, 40, 41, 42, 43, 44, 45, 46, 47, 48, 49, 50, 51, 52, 53, 54, 55, 56, 57, 58, 59, 60, 61, 62, 63] (by decide +kernel) (by decide +kernel)
set_option maxRecDepth 20000 in
theorem gX10_mostTrades_X10_mostPairs : GoodIn wsX10_mostTrades (wsV RX10 61 RX10 yX10_mostPairs wsX10_mostPairs) := goodIn_app (goodIn_of _ (by decide +kernel)) ggX10_mostTrades_X10_mostPairs
set_option maxRecDepth 20000 in
theorem ggX11_trades_X10_mostTrades : GoodIn wsX11_trades wsX10_mostTrades := goodIn_r _ [6, 7, 8, 9, 5, 10, 11, 12, 13, 14, 15, 16, 17, 18, 19, 20, 21, 22, 23, 24, 25, 26, 27, 28, 29, 30, 31, 32, 33, 34, 35, 36, 37, 48, 49, 50, 51, 52, 53, 54, 55, 56, 57, 58, 59, 60, 61, 62, 63, 64, 65, 66, 67, 68, 69, 70, 71, 72, 73, 74, 75, 76, 77, 78] (by decide +kernel) (by decide +kernel)
set_option maxRecDepth 20000 in
theorem gX11_trades_X10_mostTrades : GoodIn wsX11_trades (wsV RX11 246 RX10 yX10_mostTrades wsX10_mostTrades) := goodIn_app (goodIn_of _ (by decide +kernel)) ggX11_trades_X10_mostTrades
set_option maxRecDepth 20000 in
theorem ggX11_wealth_X10_worthOf : GoodIn wsX11_wealth wsX10_worthOf := goodIn_r _ [9, 10, 11, 12, 13, 14, 41, 42, 43, 44, 45, 46, 47, 48, 49, 50, 51, 52, 53, 54, 55, 25, 26, 27, 28, 29, 30, 31, 32, 33, 34, 35, 36, 37, 38, 39, 40] (by decide +kernel) (by decide +kernel)
set_option maxRecDepth 20000 in
theorem gX11_wealth_X10_worthOf : GoodIn wsX11_wealth (wsV RX11 249 RX10 yX10_worthOf wsX10_worthOf) := goodIn_app (goodIn_of _ (by decide +kernel)) ggX11_wealth_X10_worthOf
set_option maxRecDepth 20000 in
theorem ggX11_right_X3_rightThings : GoodIn wsX11_right wsX3_rightThings := goodIn_r _ [7, 8, 9, 10, 11, 12, 13, 6, 14, 25, 26, 27, 28, 29, 30, 31, 32, 33, 34, 35, 36, 37, 38, 39, 40, 41, 42, 43, 44, 45, 46, 47, 48, 49, 50, 51, 52, 53, 54] (by decide +kernel) (by decide +kernel)
set_option maxRecDepth 20000 in
theorem gX11_right_X3_rightThings : GoodIn wsX11_right (wsV RX11 260 RX3 yX3_rightThings wsX3_rightThings) := goodIn_app (goodIn_of _ (by decide +kernel)) ggX11_right_X3_rightThings
set_option maxRecDepth 20000 in
theorem ggX11_stay_X11_isThing : GoodIn wsX11_stay wsX11_isThing := goodIn_r _ [6, 7, 8, 61, 62, 63, 64, 65, 66, 67, 68, 69, 70, 71, 72, 73, 74, 75, 76, 77, 78, 79, 80, 81, 82, 83, 84, 85, 86] (by decide +kernel) (by decide +kernel)
set_option maxRecDepth 20000 in
theorem gX11_stay_X11_isThing : GoodIn wsX11_stay (wsV RX11 125 RX11 yX11_isThing wsX11_isThing) := goodIn_app (goodIn_of _ (by decide +kernel)) ggX11_stay_X11_isThing
set_option maxRecDepth 20000 in
theorem ggX11_will_X11_isThing : GoodIn wsX11_will wsX11_isThing := goodIn_r _ [6, 7, 8, 69, 70, 71, 72, 73, 74, 75, 76, 77, 78, 79, 80, 81, 82, 83, 84, 85, 86, 87, 88, 89, 90, 91, 92, 93, 94] (by decide +kernel) (by decide +kernel)
set_option maxRecDepth 20000 in
theorem gX11_will_X11_isThing : GoodIn wsX11_will (wsV RX11 125 RX11 yX11_isThing wsX11_isThing) := goodIn_app (goodIn_of _ (by decide +kernel)) ggX11_will_X11_isThing
set_option maxRecDepth 20000 in
theorem ggX11_lost_X3_daysTillLost : GoodIn wsX11_lost wsX3_daysTillLost := goodIn_r _ [6, 7, 8, 9, 10, 11, 12, 13, 14, 15, 16, 17, 18, 5, 19, 20, 21, 22, 23, 24, 25, 26, 27, 28, 29, 30, 31, 32, 33, 34, 35, 36, 37, 38, 39, 40, 41, 42, 43, 44, 45, 46, 47, 48, 49, 50, 51, 52, 53, 54, 55, 56, 57, 58, 59, 60, 61, 62, 63, 64, 65, 66, 67, 68, 69, 80, 81, 82, 83, 84, 85, 86, 87, 88, 89, 90, 91, 92, 93, 94, 95, 96, 97, 98, 99, 100, 101, 102, 103, 104, 105, 106, 107, 108, 109, 110, 111, 112, 113, 114, 115] (by decide +kernel) (by decide +kernel)
set_option maxRecDepth 20000 in
theorem gX11_lost_X3_daysTillLost : GoodIn wsX11_lost (wsV RX11 269 RX3 yX3_daysTillLost wsX3_daysTillLost) := goodIn_app (goodIn_of _ (by decide +kernel)) ggX11_lost_X3_daysTillLost
set_option maxRecDepth 20000 in
theorem ggX11_seen_X11_isRoom : GoodIn wsX11_seen wsX11_isRoom := goodIn_r _ [6, 7, 8, 23, 24, 25, 26, 27, 28, 29, 30, 31, 32, 33, 34, 35, 36, 37, 38, 39, 40, 41, 42, 43, 44, 45, 46, 47, 48] (by decide +kernel) (by decide +kernel)
set_option maxRecDepth 20000 in
theorem gX11_seen_X11_isRoom : GoodIn wsX11_seen (wsV RX11 110 RX11 yX11_isRoom wsX11_isRoom) := goodIn_app (goodIn_of _ (by decide +kernel)) ggX11_seen_X11_isRoom
set_option maxRecDepth 20000 in
theorem ggX11_untell_X4_takeBack : GoodIn wsX11_untell wsX4_takeBack := goodIn_r _ [6, 7, 8, 9, 20, 21, 22, 23, 24, 25, 26, 27, 28, 29] (by decide +kernel) (by decide +kernel)
set_option maxRecDepth 20000 in
theorem gX11_untell_X4_takeBack : GoodIn wsX11_untell (wsV RX11 285 RX4 yX4_takeBack wsX4_takeBack) := goodIn_app (goodIn_of _ (by decide +kernel)) ggX11_untell_X4_takeBack
set_option maxRecDepth 20000 in
theorem ggX11_back_X3_takeFromBox : GoodIn wsX11_back wsX3_takeFromBox := goodIn_r _ [6, 7, 8, 9, 10, 11, 12, 13, 14, 15, 16, 5, 17, 18, 19, 20, 21, 32, 33, 34, 35, 36, 37, 38, 39, 40] (by decide +kernel) (by decide +kernel)
set_option maxRecDepth 20000 in
theorem gX11_back_X3_takeFromBox : GoodIn wsX11_back (wsV RX11 306 RX3 yX3_takeFromBox wsX3_takeFromBox) := goodIn_app (goodIn_of _ (by decide +kernel)) ggX11_back_X3_takeFromBox
theorem iw_X11_isRoom_X11 : ∀ w ∈ wsX110, w ∈ wsX11_isRoom := fun _ h => List.mem_cons_of_mem _ (List.mem_append_left _ (List.mem_append_right _ h))
theorem iw_X11_isRoom_X5 : ∀ w ∈ wsX50, w ∈ wsX11_isRoom := fun _ h => List.mem_cons_of_mem _ (List.mem_append_right _ h)
theorem iw_X11_isThing_X11 : ∀ w ∈ wsX110, w ∈ wsX11_isThing := fun _ h => List.mem_cons_of_mem _ (List.mem_append_left _ (List.mem_append_right _ h))
theorem iw_X11_isThing_X5 : ∀ w ∈ wsX50, w ∈ wsX11_isThing := fun _ h => List.mem_cons_of_mem _ (List.mem_append_right _ h)
theorem iw_X11_isDoor_X11 : ∀ w ∈ wsX110, w ∈ wsX11_isDoor := fun _ h => List.mem_cons_of_mem _ (List.mem_append_left _ (List.mem_append_right _ h))
theorem iw_X11_isDoor_X5 : ∀ w ∈ wsX50, w ∈ wsX11_isDoor := fun _ h => List.mem_cons_of_mem _ (List.mem_append_right _ h)
theorem iw_X11_areRooms_X11 : ∀ w ∈ wsX110, w ∈ wsX11_areRooms := fun _ h => List.mem_cons_of_mem _ (List.mem_append_left _ (List.mem_append_right _ h))
theorem iw_X11_areRooms_X5 : ∀ w ∈ wsX50, w ∈ wsX11_areRooms := fun _ h => List.mem_cons_of_mem _ (List.mem_append_right _ h)
theorem iw_X11_fault_X11 : ∀ w ∈ wsX110, w ∈ wsX11_fault := fun _ h => List.mem_cons_of_mem _ (List.mem_append_left _ (List.mem_append_right _ h))
theorem iw_X11_fault_X6 : ∀ w ∈ wsX60, w ∈ wsX11_fault := fun _ h => List.mem_cons_of_mem _ (List.mem_append_right _ h)
theorem iw_X3_stepBack_X3 : ∀ w ∈ wsX30, w ∈ wsX3_stepBack := fun _ h => List.mem_cons_of_mem _ (List.mem_append_right _ h)
theorem iw_X3_stepOn_X3 : ∀ w ∈ wsX30, w ∈ wsX3_stepOn := fun _ h => List.mem_cons_of_mem _ (List.mem_append_right _ h)
theorem iw_X11_undo_X11 : ∀ w ∈ wsX110, w ∈ wsX11_undo := fun _ h => List.mem_cons_of_mem _ (List.mem_append_left _ (List.mem_append_right _ h))
theorem iw_X11_redo_X11 : ∀ w ∈ wsX110, w ∈ wsX11_redo := fun _ h => List.mem_cons_of_mem _ (List.mem_append_left _ (List.mem_append_right _ h))
theorem iw_X0_allRooms_X0 : ∀ w ∈ wsX00, w ∈ wsX0_allRooms := fun _ h => List.mem_cons_of_mem _ (List.mem_append_left _ (List.mem_append_right _ h))
theorem iw_X0_allRooms_X5 : ∀ w ∈ wsX50, w ∈ wsX0_allRooms := fun _ h => List.mem_cons_of_mem _ (List.mem_append_right _ h)
theorem iw_X0_countPieces_X0 : ∀ w ∈ wsX00, w ∈ wsX0_countPieces := fun _ h => List.mem_cons_of_mem _ (List.mem_append_left _ (List.mem_append_right _ h))
theorem iw_X0_countPieces_X5 : ∀ w ∈ wsX50, w ∈ wsX0_countPieces := fun _ h => List.mem_cons_of_mem _ (List.mem_append_right _ h)
theorem iw_X0_middleRoom_X0 : ∀ w ∈ wsX00, w ∈ wsX0_middleRoom := fun _ h => List.mem_cons_of_mem _ (List.mem_append_left _ (List.mem_append_right _ h))
theorem iw_X0_middleRoom_X5 : ∀ w ∈ wsX50, w ∈ wsX0_middleRoom := fun _ h => List.mem_cons_of_mem _ (List.mem_append_right _ h)
theorem iw_X0_creakingRooms_X0 : ∀ w ∈ wsX00, w ∈ wsX0_creakingRooms := fun _ h => List.mem_cons_of_mem _ (List.mem_append_left _ (List.mem_append_right _ h))
theorem iw_X0_creakingRooms_X5 : ∀ w ∈ wsX50, w ∈ wsX0_creakingRooms := fun _ h => List.mem_cons_of_mem _ (List.mem_append_right _ h)
theorem iw_X11_pieces_X11 : ∀ w ∈ wsX110, w ∈ wsX11_pieces := fun _ h => List.mem_cons_of_mem _ (List.mem_append_left _ (List.mem_append_left _ (List.mem_append_right _ h)))
theorem iw_X11_parts_X0 : ∀ w ∈ wsX00, w ∈ wsX11_parts := fun _ h => List.mem_cons_of_mem _ (List.mem_append_right _ h)
theorem iw_X11_parts_X11 : ∀ w ∈ wsX110, w ∈ wsX11_parts := fun _ h => List.mem_cons_of_mem _ (List.mem_append_left _ (List.mem_append_right _ h))
theorem iw_X11_centre_X11 : ∀ w ∈ wsX110, w ∈ wsX11_centre := fun _ h => List.mem_cons_of_mem _ (List.mem_append_left _ (List.mem_append_left _ (List.mem_append_right _ h)))
theorem iw_X11_nooks_X11 : ∀ w ∈ wsX110, w ∈ wsX11_nooks := fun _ h => List.mem_cons_of_mem _ (List.mem_append_left _ (List.mem_append_left _ (List.mem_append_right _ h)))
theorem iw_X11_nooks_X5 : ∀ w ∈ wsX50, w ∈ wsX11_nooks := fun _ h => List.mem_cons_of_mem _ (List.mem_append_left _ (List.mem_append_right _ h))
theorem iw_X3_mostMended_X0 : ∀ w ∈ wsX00, w ∈ wsX3_mostMended := fun _ h => List.mem_cons_of_mem _ (List.mem_append_left _ (List.mem_append_right _ h))
theorem iw_X3_mostMended_X3 : ∀ w ∈ wsX30, w ∈ wsX3_mostMended := fun _ h => List.mem_cons_of_mem _ (List.mem_append_left _ (List.mem_append_left _ (List.mem_append_right _ h)))
theorem iw_X3_mostMended_X5 : ∀ w ∈ wsX50, w ∈ wsX3_mostMended := fun _ h => List.mem_cons_of_mem _ (List.mem_append_right _ h)
theorem iw_X11_mend_X11 : ∀ w ∈ wsX110, w ∈ wsX11_mend := fun _ h => List.mem_cons_of_mem _ (List.mem_append_left _ (List.mem_append_left _ (List.mem_append_left _ (List.mem_append_right _ h))))
theorem iw_X10_betterElsewhere_X0 : ∀ w ∈ wsX00, w ∈ wsX10_betterElsewhere := fun _ h => List.mem_cons_of_mem _ (List.mem_append_left _ (List.mem_append_right _ h))
theorem iw_X10_betterElsewhere_X10 : ∀ w ∈ wsX100, w ∈ wsX10_betterElsewhere := fun _ h => List.mem_cons_of_mem _ (List.mem_append_left _ (List.mem_append_left _ (List.mem_append_left _ (List.mem_append_right _ h))))
theorem iw_X10_betterElsewhere_X3 : ∀ w ∈ wsX30, w ∈ wsX10_betterElsewhere := fun _ h => List.mem_cons_of_mem _ (List.mem_append_left _ (List.mem_append_left _ (List.mem_append_right _ h)))
theorem iw_X10_betterElsewhere_X5 : ∀ w ∈ wsX50, w ∈ wsX10_betterElsewhere := fun _ h => List.mem_cons_of_mem _ (List.mem_append_right _ h)
theorem iw_X11_regret_X11 : ∀ w ∈ wsX110, w ∈ wsX11_regret := fun _ h => List.mem_cons_of_mem _ (List.mem_append_left _ (List.mem_append_left _ (List.mem_append_left _ (List.mem_append_left _ (List.mem_append_right _ h)))))
theorem iw_X10_isFair_X0 : ∀ w ∈ wsX00, w ∈ wsX10_isFair := fun _ h => List.mem_cons_of_mem _ (List.mem_append_left _ (List.mem_append_right _ h))
theorem iw_X10_isFair_X10 : ∀ w ∈ wsX100, w ∈ wsX10_isFair := fun _ h => List.mem_cons_of_mem _ (List.mem_append_left _ (List.mem_append_left _ (List.mem_append_left _ (List.mem_append_right _ h))))
theorem iw_X10_isFair_X3 : ∀ w ∈ wsX30, w ∈ wsX10_isFair := fun _ h => List.mem_cons_of_mem _ (List.mem_append_left _ (List.mem_append_left _ (List.mem_append_right _ h)))
theorem iw_X10_isFair_X5 : ∀ w ∈ wsX50, w ∈ wsX10_isFair := fun _ h => List.mem_cons_of_mem _ (List.mem_append_right _ h)
theorem iw_X11_trade_X11 : ∀ w ∈ wsX110, w ∈ wsX11_trade := fun _ h => List.mem_cons_of_mem _ (List.mem_append_left _ (List.mem_append_left _ (List.mem_append_left _ (List.mem_append_left _ (List.mem_append_right _ h)))))
theorem iw_X10_mostPairs_X0 : ∀ w ∈ wsX00, w ∈ wsX10_mostPairs := fun _ h => List.mem_cons_of_mem _ (List.mem_append_left _ (List.mem_append_right _ h))
theorem iw_X10_mostPairs_X10 : ∀ w ∈ wsX100, w ∈ wsX10_mostPairs := fun _ h => List.mem_cons_of_mem _ (List.mem_append_left _ (List.mem_append_left _ (List.mem_append_left _ (List.mem_append_right _ h))))
theorem iw_X10_mostPairs_X3 : ∀ w ∈ wsX30, w ∈ wsX10_mostPairs := fun _ h => List.mem_cons_of_mem _ (List.mem_append_left _ (List.mem_append_left _ (List.mem_append_right _ h)))
theorem iw_X10_mostPairs_X5 : ∀ w ∈ wsX50, w ∈ wsX10_mostPairs := fun _ h => List.mem_cons_of_mem _ (List.mem_append_right _ h)
theorem iw_X11_trades_X11 : ∀ w ∈ wsX110, w ∈ wsX11_trades := fun _ h => List.mem_cons_of_mem _ (List.mem_append_left _ (List.mem_append_left _ (List.mem_append_left _ (List.mem_append_left _ (List.mem_append_right _ h)))))
theorem iw_X10_worthOf_X0 : ∀ w ∈ wsX00, w ∈ wsX10_worthOf := fun _ h => List.mem_cons_of_mem _ (List.mem_append_left _ (List.mem_append_right _ h))
theorem iw_X10_worthOf_X10 : ∀ w ∈ wsX100, w ∈ wsX10_worthOf := fun _ h => List.mem_cons_of_mem _ (List.mem_append_left _ (List.mem_append_left _ (List.mem_append_left _ (List.mem_append_right _ h))))
theorem iw_X10_worthOf_X3 : ∀ w ∈ wsX30, w ∈ wsX10_worthOf := fun _ h => List.mem_cons_of_mem _ (List.mem_append_left _ (List.mem_append_left _ (List.mem_append_right _ h)))
theorem iw_X10_worthOf_X5 : ∀ w ∈ wsX50, w ∈ wsX10_worthOf := fun _ h => List.mem_cons_of_mem _ (List.mem_append_right _ h)
theorem iw_X11_wealth_X11 : ∀ w ∈ wsX110, w ∈ wsX11_wealth := fun _ h => List.mem_cons_of_mem _ (List.mem_append_left _ (List.mem_append_left _ (List.mem_append_left _ (List.mem_append_left _ (List.mem_append_right _ h)))))
theorem iw_X11_wealth_X5 : ∀ w ∈ wsX50, w ∈ wsX11_wealth := fun _ h => List.mem_cons_of_mem _ (List.mem_append_left _ (List.mem_append_left _ (List.mem_append_left _ (List.mem_append_right _ h))))
theorem iw_X11_off_X11 : ∀ w ∈ wsX110, w ∈ wsX11_off := fun _ h => List.mem_cons_of_mem _ (List.mem_append_left _ (List.mem_append_left _ (List.mem_append_left _ (List.mem_append_right _ h))))
theorem iw_X11_off_X5 : ∀ w ∈ wsX50, w ∈ wsX11_off := fun _ h => List.mem_cons_of_mem _ (List.mem_append_left _ (List.mem_append_left _ (List.mem_append_right _ h)))
theorem iw_X3_rightThings_X0 : ∀ w ∈ wsX00, w ∈ wsX3_rightThings := fun _ h => List.mem_cons_of_mem _ (List.mem_append_left _ (List.mem_append_right _ h))
theorem iw_X3_rightThings_X3 : ∀ w ∈ wsX30, w ∈ wsX3_rightThings := fun _ h => List.mem_cons_of_mem _ (List.mem_append_left _ (List.mem_append_left _ (List.mem_append_right _ h)))
theorem iw_X3_rightThings_X5 : ∀ w ∈ wsX50, w ∈ wsX3_rightThings := fun _ h => List.mem_cons_of_mem _ (List.mem_append_right _ h)
theorem iw_X11_right_X11 : ∀ w ∈ wsX110, w ∈ wsX11_right := fun _ h => List.mem_cons_of_mem _ (List.mem_append_left _ (List.mem_append_left _ (List.mem_append_left _ (List.mem_append_right _ h))))
theorem iw_X11_right_X3 : ∀ w ∈ wsX30, w ∈ wsX11_right := fun _ h => List.mem_cons_of_mem _ (List.mem_append_left _ (List.mem_append_left _ (List.mem_append_right _ h)))
theorem iw_X11_deep_X11 : ∀ w ∈ wsX110, w ∈ wsX11_deep := fun _ h => List.mem_cons_of_mem _ (List.mem_append_left _ (List.mem_append_left _ (List.mem_append_right _ h)))
theorem iw_X11_deep_X5 : ∀ w ∈ wsX50, w ∈ wsX11_deep := fun _ h => List.mem_cons_of_mem _ (List.mem_append_left _ (List.mem_append_right _ h))
theorem iw_X3_daysTillLost_X0 : ∀ w ∈ wsX00, w ∈ wsX3_daysTillLost := fun _ h => List.mem_cons_of_mem _ (List.mem_append_left _ (List.mem_append_left _ (List.mem_append_right _ h)))
theorem iw_X3_daysTillLost_X3 : ∀ w ∈ wsX30, w ∈ wsX3_daysTillLost := fun _ h => List.mem_cons_of_mem _ (List.mem_append_left _ (List.mem_append_left _ (List.mem_append_left _ (List.mem_append_right _ h))))
theorem iw_X3_daysTillLost_X5 : ∀ w ∈ wsX50, w ∈ wsX3_daysTillLost := fun _ h => List.mem_cons_of_mem _ (List.mem_append_left _ (List.mem_append_right _ h))
theorem iw_X11_lost_X11 : ∀ w ∈ wsX110, w ∈ wsX11_lost := fun _ h => List.mem_cons_of_mem _ (List.mem_append_left _ (List.mem_append_left _ (List.mem_append_left _ (List.mem_append_left _ (List.mem_append_right _ h)))))
theorem iw_X11_lies_X11 : ∀ w ∈ wsX110, w ∈ wsX11_lies := fun _ h => List.mem_cons_of_mem _ (List.mem_append_left _ (List.mem_append_right _ h))
theorem iw_X11_lies_X7 : ∀ w ∈ wsX70, w ∈ wsX11_lies := fun _ h => List.mem_cons_of_mem _ (List.mem_append_right _ h)
theorem iw_X4_takeBack_X4 : ∀ w ∈ wsX40, w ∈ wsX4_takeBack := fun _ h => List.mem_cons_of_mem _ (List.mem_append_right _ h)
theorem iw_X11_untell_X11 : ∀ w ∈ wsX110, w ∈ wsX11_untell := fun _ h => List.mem_cons_of_mem _ (List.mem_append_left _ (List.mem_append_right _ h))
theorem iw_X3_takeFromBox_X3 : ∀ w ∈ wsX30, w ∈ wsX3_takeFromBox := fun _ h => List.mem_cons_of_mem _ (List.mem_append_right _ h)
theorem iw_X11_back_X11 : ∀ w ∈ wsX110, w ∈ wsX11_back := fun _ h => List.mem_cons_of_mem _ (List.mem_append_left _ (List.mem_append_right _ h))
theorem iw_X11_about_X1 : ∀ w ∈ wsX10, w ∈ wsX11_about := fun _ h => List.mem_cons_of_mem _ (List.mem_append_left _ (List.mem_append_right _ h))
theorem iw_X11_about_X11 : ∀ w ∈ wsX110, w ∈ wsX11_about := fun _ h => List.mem_cons_of_mem _ (List.mem_append_left _ (List.mem_append_left _ (List.mem_append_left _ (List.mem_append_left _ (List.mem_append_left _ (List.mem_append_left _ (List.mem_append_right _ h)))))))
theorem iw_X11_about_X3 : ∀ w ∈ wsX30, w ∈ wsX11_about := fun _ h => List.mem_cons_of_mem _ (List.mem_append_left _ (List.mem_append_left _ (List.mem_append_left _ (List.mem_append_left _ (List.mem_append_right _ h)))))
theorem iw_X11_about_X4 : ∀ w ∈ wsX40, w ∈ wsX11_about := fun _ h => List.mem_cons_of_mem _ (List.mem_append_left _ (List.mem_append_left _ (List.mem_append_left _ (List.mem_append_right _ h))))
theorem iw_X11_about_X5 : ∀ w ∈ wsX50, w ∈ wsX11_about := fun _ h => List.mem_cons_of_mem _ (List.mem_append_left _ (List.mem_append_left _ (List.mem_append_left _ (List.mem_append_left _ (List.mem_append_left _ (List.mem_append_right _ h))))))
theorem iw_X11_about_X7 : ∀ w ∈ wsX70, w ∈ wsX11_about := fun _ h => List.mem_cons_of_mem _ (List.mem_append_right _ h)
theorem iw_X11_about_X8 : ∀ w ∈ wsX80, w ∈ wsX11_about := fun _ h => List.mem_cons_of_mem _ (List.mem_append_left _ (List.mem_append_left _ (List.mem_append_right _ h)))
