def wsX11_isRoom : List Cond := .code yX11_isRoom cX11_isRoom 2 (some .boolean) :: ([.fieldLink RX11 10 "SoldHouse" "plan" "LSoldHouse$Plan;", .fieldLink RX11 101 "SoldHouse$Plan" "rooms" "I"] ++ wsX110 ++ wsX50)
def wsX11_isThing : List Cond := .code yX11_isThing cX11_isThing 2 (some .boolean) :: ([.fieldLink RX11 10 "SoldHouse" "plan" "LSoldHouse$Plan;", .fieldLink RX11 253 "SoldHouse$Plan" "things" "I"] ++ wsX110 ++ wsX50)
def wsX11_isDoor : List Cond := .code yX11_isDoor cX11_isDoor 2 (some .boolean) :: ([.fieldLink RX11 10 "SoldHouse" "plan" "LSoldHouse$Plan;", .fieldLink RX11 309 "SoldHouse$Plan" "doors" "I"] ++ wsX110 ++ wsX50)
def wsX11_areRooms : List Cond := .code yX11_areRooms cX11_areRooms 2 (some .boolean) :: ([.fieldLink RX11 10 "SoldHouse" "plan" "LSoldHouse$Plan;", .fieldLink RX11 101 "SoldHouse$Plan" "rooms" "I"] ++ wsX110 ++ wsX50)
def wsX11_isMinute : List Cond := .code yX11_isMinute cX11_isMinute 1 (some .boolean) :: ([])
def wsX11_takeUp_r1 : List Cond := [Cond.fieldLink RX11 40 "SoldHouse" "floor" "LSoldHouse$Floor;", Cond.fieldLink RX11 10 "SoldHouse" "plan" "LSoldHouse$Plan;", Cond.fieldLink RX11 63 "SoldHouse" "memory" "LSoldHouse$Memory;", Cond.fieldLink RX11 79 "SoldHouse" "night" "LSoldHouse$Night;", Cond.fieldLink RX11 318 "SoldHouse$Night" "count" "I", Cond.fieldLink RX11 49 "SoldHouse" "routes" "LSoldHouse$Routes;", Cond.fieldLink RX11 187 "SoldHouse$Routes" "lying" "I", Cond.methodLink RX11 333 yX0_build, Cond.instanceMethod yX0_build, Cond.selects RX0 yX0_build yX0_build, Cond.initialized RX0, Cond.code yX0_build cX0_build 3 none, Cond.fieldLink RX0 21 "SoldHouse$Floor" "plan" "LSoldHouse$Plan;", Cond.fieldLink RX0 9 "SoldHouse$Floor" "next" "[I", Cond.fieldLink RX0 31 "SoldHouse$Plan" "doors" "I", Cond.fieldLink RX0 37 "SoldHouse$Plan" "doorFrom" "[I", Cond.fieldLink RX0 40 "SoldHouse$Plan" "doorTo" "[I", Cond.fieldLink RX0 15 "SoldHouse$Floor" "far" "[I", Cond.fieldLink RX0 43 "SoldHouse$Plan" "rooms" "I", Cond.fieldLink RX0 50 "SoldHouse$Floor" "parting" "I", Cond.fieldLink RX0 18 "SoldHouse$Floor" "near" "[I", Cond.methodLink RX0 25 yJ7_fill_53178, Cond.static yJ7_fill_53178, Cond.initialized RJ7]
def wsX11_takeUp_r2 : List Cond := [Cond.code yJ7_fill_53178 cJ7_fill_53178 4 none, Cond.methodLink RX0 46 yX0_measureFrom, Cond.instanceMethod yX0_measureFrom, Cond.selects RX0 yX0_measureFrom yX0_measureFrom, Cond.code yX0_measureFrom cX0_measureFrom 6 none, Cond.methodLink RX0 57 yX0_behindDoors, Cond.instanceMethod yX0_behindDoors, Cond.selects RX0 yX0_behindDoors yX0_behindDoors, Cond.code yX0_behindDoors cX0_behindDoors 4 (some .int), Cond.methodLink RX0 53 yX0_nearSide, Cond.instanceMethod yX0_nearSide, Cond.selects RX0 yX0_nearSide yX0_nearSide, Cond.code yX0_nearSide cX0_nearSide 5 (some .int), Cond.methodLink RX0 60 yX0_allRooms, Cond.instanceMethod yX0_allRooms, Cond.selects RX0 yX0_allRooms yX0_allRooms, Cond.code yX0_allRooms cX0_allRooms 1 (some .int), Cond.methodLink RX0 64 yX0_reach, Cond.instanceMethod yX0_reach, Cond.selects RX0 yX0_reach yX0_reach, Cond.code yX0_reach cX0_reach 5 (some .int), Cond.methodLink RX11 336 yX3_begin, Cond.instanceMethod yX3_begin, Cond.selects RX3 yX3_begin yX3_begin]
def wsX11_takeUp_r3 : List Cond := [Cond.initialized RX3, Cond.code yX3_begin cX3_begin 3 none, Cond.fieldLink RX3 30 "SoldHouse$Memory" "floor" "LSoldHouse$Floor;", Cond.fieldLink RX3 34 "SoldHouse$Floor" "plan" "LSoldHouse$Plan;", Cond.fieldLink RX3 40 "SoldHouse$Plan" "things" "I", Cond.fieldLink RX3 11 "SoldHouse$Memory" "now" "[I", Cond.fieldLink RX3 46 "SoldHouse$Plan" "in" "[I", Cond.fieldLink RX3 49 "SoldHouse$Plan" "was" "[I", Cond.fieldLink RX3 52 "SoldHouse$Plan" "ours" "[I", Cond.fieldLink RX3 55 "SoldHouse$Plan" "draw" "I", Cond.fieldLink RX3 26 "SoldHouse$Memory" "full" "[Z", Cond.methodLink RX3 58 yX3_forgetActs, Cond.instanceMethod yX3_forgetActs, Cond.selects RX3 yX3_forgetActs yX3_forgetActs, Cond.code yX3_forgetActs cX3_forgetActs 1 none, Cond.fieldLink RX3 134 "SoldHouse$Memory" "oldest" "I", Cond.fieldLink RX3 131 "SoldHouse$Memory" "done" "I", Cond.fieldLink RX3 128 "SoldHouse$Memory" "undone" "I", Cond.fieldLink RX3 20 "SoldHouse$Memory" "kept" "[[I", Cond.methodLink RX3 115 arraycopyName, Cond.native arraycopyName, Cond.static arraycopyName, Cond.initialized "java/lang/System"]
def wsX11_takeUp : List Cond := .code yX11_takeUp cX11_takeUp 1 none :: ((wsX11_takeUp_r1 ++ (wsX11_takeUp_r2 ++ wsX11_takeUp_r3)) ++ wsX110 ++ wsX40 ++ wsX70 ++ wsX00 ++ wsX50 ++ wsX30)
def wsX11_feed : List Cond := .code yX11_feed cX11_feed 6 (some .int) :: ([.fieldLink RX11 22 "SoldHouse" "tape" "LSoldHouse$Tape;", .fieldLink RX11 86 "SoldHouse$Tape" "size" "I", .methodLink RX11 90 yX8_put, .instanceMethod yX8_put, .selects RX8 yX8_put yX8_put, .initialized RX8, .code yX8_put cX8_put 3 none, .fieldLink RX8 15 "SoldHouse$Tape" "size" "I", .fieldLink RX8 9 "SoldHouse$Tape" "bytes" "[B"] ++ wsX110 ++ wsX80)
def wsX11_end : List Cond := .code yX11_end cX11_end 2 (some .int) :: ([.fieldLink RX11 22 "SoldHouse" "tape" "LSoldHouse$Tape;", .fieldLink RX11 86 "SoldHouse$Tape" "size" "I"] ++ wsX110 ++ wsX80)
def wsX11_fault : List Cond := .code yX11_fault cX11_fault 2 (some .int) :: ([.fieldLink RX11 31 "SoldHouse" "reader" "LSoldHouse$Reader;", .fieldLink RX11 104 "SoldHouse$Reader" "fault" "I", .fieldLink RX11 107 "SoldHouse$Reader" "faultPlace" "I"] ++ wsX110 ++ wsX60)
def wsX11_room : List Cond := .code yX11_room cX11_room 3 (some .int) :: ([.fieldLink RX11 10 "SoldHouse" "plan" "LSoldHouse$Plan;", .fieldLink RX11 114 "SoldHouse$Plan" "creaks" "[I", .fieldLink RX11 40 "SoldHouse" "floor" "LSoldHouse$Floor;", .fieldLink RX11 118 "SoldHouse$Floor" "next" "[I", .fieldLink RX11 63 "SoldHouse" "memory" "LSoldHouse$Memory;", .methodLink RX11 110 yX11_isRoom, .instanceMethod yX11_isRoom, .selects RX11 yX11_isRoom yX11_isRoom, .initialized RX11, .code yX11_isRoom cX11_isRoom 2 (some .boolean), .fieldLink RX11 101 "SoldHouse$Plan" "rooms" "I", .methodLink RX11 121 yX3_thingsWith, .instanceMethod yX3_thingsWith, .selects RX3 yX3_thingsWith yX3_thingsWith, .initialized RX3, .code yX3_thingsWith cX3_thingsWith 5 (some .int), .fieldLink RX3 30 "SoldHouse$Memory" "floor" "LSoldHouse$Floor;", .fieldLink RX3 34 "SoldHouse$Floor" "plan" "LSoldHouse$Plan;", .fieldLink RX3 40 "SoldHouse$Plan" "things" "I", .fieldLink RX3 11 "SoldHouse$Memory" "now" "[I"] ++ wsX110 ++ wsX50 ++ wsX00 ++ wsX30)
def wsX11_thing_r1 : List Cond := [Cond.fieldLink RX11 63 "SoldHouse" "memory" "LSoldHouse$Memory;", Cond.fieldLink RX11 128 "SoldHouse$Memory" "now" "[I", Cond.fieldLink RX11 10 "SoldHouse" "plan" "LSoldHouse$Plan;", Cond.fieldLink RX11 131 "SoldHouse$Plan" "us" "[I", Cond.fieldLink RX11 134 "SoldHouse$Plan" "them" "[I", Cond.methodLink RX11 125 yX11_isThing, Cond.instanceMethod yX11_isThing, Cond.selects RX11 yX11_isThing yX11_isThing, Cond.initialized RX11, Cond.code yX11_isThing cX11_isThing 2 (some .boolean), Cond.fieldLink RX11 253 "SoldHouse$Plan" "things" "I", Cond.methodLink RX11 137 yX3_sureOf, Cond.instanceMethod yX3_sureOf, Cond.selects RX3 yX3_sureOf yX3_sureOf, Cond.initialized RX3, Cond.code yX3_sureOf cX3_sureOf 5 (some .int), Cond.fieldLink RX3 30 "SoldHouse$Memory" "floor" "LSoldHouse$Floor;", Cond.fieldLink RX3 34 "SoldHouse$Floor" "plan" "LSoldHouse$Plan;", Cond.fieldLink RX3 69 "SoldHouse$Plan" "sure" "LSoldHouse$Formula;", Cond.fieldLink RX3 73 "SoldHouse$Formula" "told" "Z", Cond.fieldLink RX3 79 "SoldHouse$Plan" "us" "[I", Cond.fieldLink RX3 82 "SoldHouse$Plan" "them" "[I", Cond.methodLink RX3 97 Lib.Math.min.name, Cond.static Lib.Math.min.name]
def wsX11_thing_r2 : List Cond := [Cond.initialized "java/lang/Math", Cond.code Lib.Math.min.name Lib.Math.min.code 2 (some .int), Cond.methodLink RX3 102 Lib.Math.max.name, Cond.static Lib.Math.max.name, Cond.code Lib.Math.max.name Lib.Math.max.code 2 (some .int), Cond.methodLink RX3 85 yX3_farOff, Cond.instanceMethod yX3_farOff, Cond.selects RX3 yX3_farOff yX3_farOff, Cond.code yX3_farOff cX3_farOff 4 (some .int), Cond.methodLink RX3 65 yX0_farOf, Cond.instanceMethod yX0_farOf, Cond.selects RX0 yX0_farOf yX0_farOf, Cond.initialized RX0, Cond.code yX0_farOf cX0_farOf 3 (some .int), Cond.fieldLink RX0 15 "SoldHouse$Floor" "far" "[I", Cond.methodLink RX3 89 yX1_know, Cond.instanceMethod yX1_know, Cond.selects RX1 yX1_know yX1_know, Cond.initialized RX1, Cond.code yX1_know cX1_know 6 none, Cond.fieldLink RX1 16 "SoldHouse$Formula" "known" "[I", Cond.methodLink RX3 93 yX1_work, Cond.instanceMethod yX1_work, Cond.selects RX1 yX1_work yX1_work]
def wsX11_thing_r3 : List Cond := [Cond.code yX1_work cX1_work 4 (some .int), Cond.fieldLink RX1 19 "SoldHouse$Formula" "size" "I", Cond.fieldLink RX1 9 "SoldHouse$Formula" "steps" "[I", Cond.fieldLink RX1 13 "SoldHouse$Formula" "stack" "[I", Cond.methodLink RX1 30 yX1_join, Cond.static yX1_join, Cond.code yX1_join cX1_join 3 (some .int)]
def wsX11_thing : List Cond := .code yX11_thing cX11_thing 3 (some .int) :: ((wsX11_thing_r1 ++ (wsX11_thing_r2 ++ wsX11_thing_r3)) ++ wsX110 ++ wsX30 ++ wsX50 ++ wsX00 ++ wsX10)
def wsX11_door : List Cond := .code yX11_door cX11_door 3 (some .int) :: ([.fieldLink RX11 10 "SoldHouse" "plan" "LSoldHouse$Plan;", .fieldLink RX11 144 "SoldHouse$Plan" "doorFrom" "[I", .fieldLink RX11 147 "SoldHouse$Plan" "doorTo" "[I", .fieldLink RX11 40 "SoldHouse" "floor" "LSoldHouse$Floor;", .fieldLink RX11 150 "SoldHouse$Floor" "parting" "I", .fieldLink RX11 153 "SoldHouse$Floor" "near" "[I", .methodLink RX11 141 yX11_isDoor, .instanceMethod yX11_isDoor, .selects RX11 yX11_isDoor yX11_isDoor, .initialized RX11, .code yX11_isDoor cX11_isDoor 2 (some .boolean), .fieldLink RX11 309 "SoldHouse$Plan" "doors" "I"] ++ wsX110 ++ wsX50 ++ wsX00)
def wsX11_far : List Cond := .code yX11_far cX11_far 3 (some .int) :: ([.fieldLink RX11 40 "SoldHouse" "floor" "LSoldHouse$Floor;", .methodLink RX11 110 yX11_isRoom, .instanceMethod yX11_isRoom, .selects RX11 yX11_isRoom yX11_isRoom, .initialized RX11, .code yX11_isRoom cX11_isRoom 2 (some .boolean), .fieldLink RX11 10 "SoldHouse" "plan" "LSoldHouse$Plan;", .fieldLink RX11 101 "SoldHouse$Plan" "rooms" "I", .methodLink RX11 156 yX0_farOf, .instanceMethod yX0_farOf, .selects RX0 yX0_farOf yX0_farOf, .initialized RX0, .code yX0_farOf cX0_farOf 3 (some .int), .fieldLink RX0 15 "SoldHouse$Floor" "far" "[I"] ++ wsX110 ++ wsX50 ++ wsX00)
def wsX11_tell_r1 : List Cond := [Cond.fieldLink RX11 63 "SoldHouse" "memory" "LSoldHouse$Memory;", Cond.fieldLink RX11 128 "SoldHouse$Memory" "now" "[I", Cond.methodLink RX11 125 yX11_isThing, Cond.instanceMethod yX11_isThing, Cond.selects RX11 yX11_isThing yX11_isThing, Cond.initialized RX11, Cond.code yX11_isThing cX11_isThing 2 (some .boolean), Cond.fieldLink RX11 10 "SoldHouse" "plan" "LSoldHouse$Plan;", Cond.fieldLink RX11 253 "SoldHouse$Plan" "things" "I", Cond.methodLink RX11 159 yX3_speak, Cond.instanceMethod yX3_speak, Cond.selects RX3 yX3_speak yX3_speak, Cond.initialized RX3, Cond.code yX3_speak cX3_speak 3 none, Cond.fieldLink RX3 11 "SoldHouse$Memory" "now" "[I", Cond.methodLink RX3 97 Lib.Math.min.name, Cond.static Lib.Math.min.name, Cond.initialized "java/lang/Math", Cond.code Lib.Math.min.name Lib.Math.min.code 2 (some .int), Cond.methodLink RX11 163 yX3_keepAct, Cond.instanceMethod yX3_keepAct, Cond.selects RX3 yX3_keepAct yX3_keepAct, Cond.code yX3_keepAct cX3_keepAct 1 none, Cond.fieldLink RX3 128 "SoldHouse$Memory" "undone" "I"]
def wsX11_tell_r2 : List Cond := [Cond.fieldLink RX3 131 "SoldHouse$Memory" "done" "I", Cond.fieldLink RX3 134 "SoldHouse$Memory" "oldest" "I", Cond.fieldLink RX3 20 "SoldHouse$Memory" "kept" "[[I", Cond.methodLink RX3 115 arraycopyName, Cond.native arraycopyName, Cond.static arraycopyName, Cond.initialized "java/lang/System", Cond.methodLink RX11 166 yX3_isRight, Cond.instanceMethod yX3_isRight, Cond.selects RX3 yX3_isRight yX3_isRight, Cond.code yX3_isRight cX3_isRight 3 (some .boolean)]
def wsX11_tell : List Cond := .code yX11_tell cX11_tell 2 (some .int) :: ((wsX11_tell_r1 ++ wsX11_tell_r2) ++ wsX110 ++ wsX30 ++ wsX50)
def wsX11_hear_r1 : List Cond := [Cond.fieldLink RX11 63 "SoldHouse" "memory" "LSoldHouse$Memory;", Cond.fieldLink RX11 128 "SoldHouse$Memory" "now" "[I", Cond.methodLink RX11 125 yX11_isThing, Cond.instanceMethod yX11_isThing, Cond.selects RX11 yX11_isThing yX11_isThing, Cond.initialized RX11, Cond.code yX11_isThing cX11_isThing 2 (some .boolean), Cond.fieldLink RX11 10 "SoldHouse" "plan" "LSoldHouse$Plan;", Cond.fieldLink RX11 253 "SoldHouse$Plan" "things" "I", Cond.methodLink RX11 159 yX3_speak, Cond.instanceMethod yX3_speak, Cond.selects RX3 yX3_speak yX3_speak, Cond.initialized RX3, Cond.code yX3_speak cX3_speak 3 none, Cond.fieldLink RX3 11 "SoldHouse$Memory" "now" "[I", Cond.methodLink RX3 97 Lib.Math.min.name, Cond.static Lib.Math.min.name, Cond.initialized "java/lang/Math", Cond.code Lib.Math.min.name Lib.Math.min.code 2 (some .int), Cond.methodLink RX11 163 yX3_keepAct, Cond.instanceMethod yX3_keepAct, Cond.selects RX3 yX3_keepAct yX3_keepAct, Cond.code yX3_keepAct cX3_keepAct 1 none, Cond.fieldLink RX3 128 "SoldHouse$Memory" "undone" "I"]
def wsX11_hear_r2 : List Cond := [Cond.fieldLink RX3 131 "SoldHouse$Memory" "done" "I", Cond.fieldLink RX3 134 "SoldHouse$Memory" "oldest" "I", Cond.fieldLink RX3 20 "SoldHouse$Memory" "kept" "[[I", Cond.methodLink RX3 115 arraycopyName, Cond.native arraycopyName, Cond.static arraycopyName, Cond.initialized "java/lang/System"]
def wsX11_hear : List Cond := .code yX11_hear cX11_hear 2 (some .int) :: ((wsX11_hear_r1 ++ wsX11_hear_r2) ++ wsX110 ++ wsX30 ++ wsX50)
def wsX11_carry_r1 : List Cond := [Cond.fieldLink RX11 10 "SoldHouse" "plan" "LSoldHouse$Plan;", Cond.fieldLink RX11 63 "SoldHouse" "memory" "LSoldHouse$Memory;", Cond.fieldLink RX11 128 "SoldHouse$Memory" "now" "[I", Cond.methodLink RX11 125 yX11_isThing, Cond.instanceMethod yX11_isThing, Cond.selects RX11 yX11_isThing yX11_isThing, Cond.initialized RX11, Cond.code yX11_isThing cX11_isThing 2 (some .boolean), Cond.fieldLink RX11 253 "SoldHouse$Plan" "things" "I", Cond.methodLink RX11 141 yX11_isDoor, Cond.instanceMethod yX11_isDoor, Cond.selects RX11 yX11_isDoor yX11_isDoor, Cond.code yX11_isDoor cX11_isDoor 2 (some .boolean), Cond.fieldLink RX11 309 "SoldHouse$Plan" "doors" "I", Cond.methodLink RX11 170 yX5_behind, Cond.instanceMethod yX5_behind, Cond.selects RX5 yX5_behind yX5_behind, Cond.initialized RX5, Cond.code yX5_behind cX5_behind 3 (some .int), Cond.fieldLink RX5 19 "SoldHouse$Plan" "doorFrom" "[I", Cond.fieldLink RX5 22 "SoldHouse$Plan" "doorTo" "[I", Cond.methodLink RX11 173 yX3_bring, Cond.instanceMethod yX3_bring, Cond.selects RX3 yX3_bring yX3_bring]
def wsX11_carry_r2 : List Cond := [Cond.initialized RX3, Cond.code yX3_bring cX3_bring 3 none, Cond.fieldLink RX3 11 "SoldHouse$Memory" "now" "[I", Cond.methodLink RX11 163 yX3_keepAct, Cond.instanceMethod yX3_keepAct, Cond.selects RX3 yX3_keepAct yX3_keepAct, Cond.code yX3_keepAct cX3_keepAct 1 none, Cond.fieldLink RX3 128 "SoldHouse$Memory" "undone" "I", Cond.fieldLink RX3 131 "SoldHouse$Memory" "done" "I", Cond.fieldLink RX3 134 "SoldHouse$Memory" "oldest" "I", Cond.fieldLink RX3 20 "SoldHouse$Memory" "kept" "[[I", Cond.methodLink RX3 115 arraycopyName, Cond.native arraycopyName, Cond.static arraycopyName, Cond.initialized "java/lang/System"]
def wsX11_carry : List Cond := .code yX11_carry cX11_carry 4 (some .int) :: ((wsX11_carry_r1 ++ wsX11_carry_r2) ++ wsX110 ++ wsX30 ++ wsX50)
def wsX11_send : List Cond := .code yX11_send cX11_send 2 (some .int) :: ([.fieldLink RX11 63 "SoldHouse" "memory" "LSoldHouse$Memory;", .fieldLink RX11 128 "SoldHouse$Memory" "now" "[I", .methodLink RX11 125 yX11_isThing, .instanceMethod yX11_isThing, .selects RX11 yX11_isThing yX11_isThing, .initialized RX11, .code yX11_isThing cX11_isThing 2 (some .boolean), .fieldLink RX11 10 "SoldHouse" "plan" "LSoldHouse$Plan;", .fieldLink RX11 253 "SoldHouse$Plan" "things" "I", .methodLink RX11 163 yX3_keepAct, .instanceMethod yX3_keepAct, .selects RX3 yX3_keepAct yX3_keepAct, .initialized RX3, .code yX3_keepAct cX3_keepAct 1 none, .fieldLink RX3 128 "SoldHouse$Memory" "undone" "I", .fieldLink RX3 131 "SoldHouse$Memory" "done" "I", .fieldLink RX3 134 "SoldHouse$Memory" "oldest" "I", .fieldLink RX3 11 "SoldHouse$Memory" "now" "[I", .fieldLink RX3 20 "SoldHouse$Memory" "kept" "[[I", .methodLink RX3 115 arraycopyName, .native arraycopyName, .static arraycopyName, .initialized "java/lang/System"] ++ wsX110 ++ wsX30 ++ wsX50)
def wsX11_day_r1 : List Cond := [Cond.fieldLink RX11 63 "SoldHouse" "memory" "LSoldHouse$Memory;", Cond.fieldLink RX11 128 "SoldHouse$Memory" "now" "[I", Cond.methodLink RX11 176 yX3_passDay, Cond.instanceMethod yX3_passDay, Cond.selects RX3 yX3_passDay yX3_passDay, Cond.initialized RX3, Cond.code yX3_passDay cX3_passDay 5 (some .int), Cond.fieldLink RX3 30 "SoldHouse$Memory" "floor" "LSoldHouse$Floor;", Cond.fieldLink RX3 34 "SoldHouse$Floor" "plan" "LSoldHouse$Plan;", Cond.fieldLink RX3 105 "SoldHouse$Plan" "rooms" "I", Cond.methodLink RX3 102 Lib.Math.max.name, Cond.static Lib.Math.max.name, Cond.initialized "java/lang/Math", Cond.code Lib.Math.max.name Lib.Math.max.code 2 (some .int), Cond.fieldLink RX3 40 "SoldHouse$Plan" "things" "I", Cond.methodLink RX3 108 yX3_sureOf, Cond.instanceMethod yX3_sureOf, Cond.selects RX3 yX3_sureOf yX3_sureOf, Cond.code yX3_sureOf cX3_sureOf 5 (some .int), Cond.fieldLink RX3 69 "SoldHouse$Plan" "sure" "LSoldHouse$Formula;", Cond.fieldLink RX3 73 "SoldHouse$Formula" "told" "Z", Cond.fieldLink RX3 79 "SoldHouse$Plan" "us" "[I", Cond.fieldLink RX3 82 "SoldHouse$Plan" "them" "[I", Cond.methodLink RX3 97 Lib.Math.min.name]
def wsX11_day_r2 : List Cond := [Cond.static Lib.Math.min.name, Cond.code Lib.Math.min.name Lib.Math.min.code 2 (some .int), Cond.methodLink RX3 85 yX3_farOff, Cond.instanceMethod yX3_farOff, Cond.selects RX3 yX3_farOff yX3_farOff, Cond.code yX3_farOff cX3_farOff 4 (some .int), Cond.methodLink RX3 65 yX0_farOf, Cond.instanceMethod yX0_farOf, Cond.selects RX0 yX0_farOf yX0_farOf, Cond.initialized RX0, Cond.code yX0_farOf cX0_farOf 3 (some .int), Cond.fieldLink RX0 15 "SoldHouse$Floor" "far" "[I", Cond.methodLink RX3 89 yX1_know, Cond.instanceMethod yX1_know, Cond.selects RX1 yX1_know yX1_know, Cond.initialized RX1, Cond.code yX1_know cX1_know 6 none, Cond.fieldLink RX1 16 "SoldHouse$Formula" "known" "[I", Cond.methodLink RX3 93 yX1_work, Cond.instanceMethod yX1_work, Cond.selects RX1 yX1_work yX1_work, Cond.code yX1_work cX1_work 4 (some .int), Cond.fieldLink RX1 19 "SoldHouse$Formula" "size" "I", Cond.fieldLink RX1 9 "SoldHouse$Formula" "steps" "[I"]
def wsX11_day_r3 : List Cond := [Cond.fieldLink RX1 13 "SoldHouse$Formula" "stack" "[I", Cond.methodLink RX1 30 yX1_join, Cond.static yX1_join, Cond.code yX1_join cX1_join 3 (some .int), Cond.methodLink RX11 163 yX3_keepAct, Cond.instanceMethod yX3_keepAct, Cond.selects RX3 yX3_keepAct yX3_keepAct, Cond.code yX3_keepAct cX3_keepAct 1 none, Cond.fieldLink RX3 128 "SoldHouse$Memory" "undone" "I", Cond.fieldLink RX3 131 "SoldHouse$Memory" "done" "I", Cond.fieldLink RX3 134 "SoldHouse$Memory" "oldest" "I", Cond.fieldLink RX3 11 "SoldHouse$Memory" "now" "[I", Cond.fieldLink RX3 20 "SoldHouse$Memory" "kept" "[[I", Cond.methodLink RX3 115 arraycopyName, Cond.native arraycopyName, Cond.static arraycopyName, Cond.initialized "java/lang/System"]
def wsX11_day : List Cond := .code yX11_day cX11_day 2 (some .int) :: ((wsX11_day_r1 ++ (wsX11_day_r2 ++ wsX11_day_r3)) ++ wsX110 ++ wsX30 ++ wsX00 ++ wsX50 ++ wsX10)
def wsX11_undo : List Cond := .code yX11_undo cX11_undo 1 (some .boolean) :: ([.fieldLink RX11 63 "SoldHouse" "memory" "LSoldHouse$Memory;", .methodLink RX11 180 yX3_stepBack, .instanceMethod yX3_stepBack, .selects RX3 yX3_stepBack yX3_stepBack, .initialized RX3, .code yX3_stepBack cX3_stepBack 1 (some .boolean), .fieldLink RX3 131 "SoldHouse$Memory" "done" "I", .fieldLink RX3 128 "SoldHouse$Memory" "undone" "I", .fieldLink RX3 20 "SoldHouse$Memory" "kept" "[[I", .fieldLink RX3 134 "SoldHouse$Memory" "oldest" "I", .fieldLink RX3 11 "SoldHouse$Memory" "now" "[I", .methodLink RX3 115 arraycopyName, .native arraycopyName, .static arraycopyName, .initialized "java/lang/System"] ++ wsX110 ++ wsX30)
def wsX11_redo : List Cond := .code yX11_redo cX11_redo 1 (some .boolean) :: ([.fieldLink RX11 63 "SoldHouse" "memory" "LSoldHouse$Memory;", .methodLink RX11 184 yX3_stepOn, .instanceMethod yX3_stepOn, .selects RX3 yX3_stepOn yX3_stepOn, .initialized RX3, .code yX3_stepOn cX3_stepOn 1 (some .boolean), .fieldLink RX3 128 "SoldHouse$Memory" "undone" "I", .fieldLink RX3 131 "SoldHouse$Memory" "done" "I", .fieldLink RX3 20 "SoldHouse$Memory" "kept" "[[I", .fieldLink RX3 134 "SoldHouse$Memory" "oldest" "I", .fieldLink RX3 11 "SoldHouse$Memory" "now" "[I", .methodLink RX3 115 arraycopyName, .native arraycopyName, .static arraycopyName, .initialized "java/lang/System"] ++ wsX110 ++ wsX30)
def wsX11_way_r1 : List Cond := [Cond.fieldLink RX11 49 "SoldHouse" "routes" "LSoldHouse$Routes;", Cond.fieldLink RX11 187 "SoldHouse$Routes" "lying" "I", Cond.methodLink RX11 110 yX11_isRoom, Cond.instanceMethod yX11_isRoom, Cond.selects RX11 yX11_isRoom yX11_isRoom, Cond.initialized RX11, Cond.code yX11_isRoom cX11_isRoom 2 (some .boolean), Cond.fieldLink RX11 10 "SoldHouse" "plan" "LSoldHouse$Plan;", Cond.fieldLink RX11 101 "SoldHouse$Plan" "rooms" "I", Cond.methodLink RX11 190 yX7_layWay, Cond.instanceMethod yX7_layWay, Cond.selects RX7 yX7_layWay yX7_layWay, Cond.initialized RX7, Cond.code yX7_layWay cX7_layWay 6 (some .int), Cond.fieldLink RX7 21 "SoldHouse$Routes" "floor" "LSoldHouse$Floor;", Cond.methodLink RX7 25 yX0_farOf, Cond.instanceMethod yX0_farOf, Cond.selects RX0 yX0_farOf yX0_farOf, Cond.initialized RX0, Cond.code yX0_farOf cX0_farOf 3 (some .int), Cond.fieldLink RX0 15 "SoldHouse$Floor" "far" "[I", Cond.methodLink RX7 31 yX7_lay, Cond.instanceMethod yX7_lay, Cond.selects RX7 yX7_lay yX7_lay]
def wsX11_way_r2 : List Cond := [Cond.code yX7_lay cX7_lay 2 none, Cond.fieldLink RX7 79 "SoldHouse$Routes" "lying" "I", Cond.fieldLink RX7 9 "SoldHouse$Routes" "lie" "[I", Cond.methodLink RX7 35 yX7_nextOnWay, Cond.instanceMethod yX7_nextOnWay, Cond.selects RX7 yX7_nextOnWay yX7_nextOnWay, Cond.code yX7_nextOnWay cX7_nextOnWay 5 (some .int), Cond.fieldLink RX7 52 "SoldHouse$Floor" "plan" "LSoldHouse$Plan;", Cond.fieldLink RX7 56 "SoldHouse$Plan" "rooms" "I", Cond.fieldLink RX7 82 "SoldHouse$Floor" "next" "[I"]
def wsX11_way : List Cond := .code yX11_way cX11_way 3 (some .int) :: ((wsX11_way_r1 ++ wsX11_way_r2) ++ wsX110 ++ wsX70 ++ wsX50 ++ wsX00)
def wsX11_quiet_r1 : List Cond := [Cond.fieldLink RX11 49 "SoldHouse" "routes" "LSoldHouse$Routes;", Cond.fieldLink RX11 187 "SoldHouse$Routes" "lying" "I", Cond.methodLink RX11 110 yX11_isRoom, Cond.instanceMethod yX11_isRoom, Cond.selects RX11 yX11_isRoom yX11_isRoom, Cond.initialized RX11, Cond.code yX11_isRoom cX11_isRoom 2 (some .boolean), Cond.fieldLink RX11 10 "SoldHouse" "plan" "LSoldHouse$Plan;", Cond.fieldLink RX11 101 "SoldHouse$Plan" "rooms" "I", Cond.methodLink RX11 193 yX7_layQuiet, Cond.instanceMethod yX7_layQuiet, Cond.selects RX7 yX7_layQuiet yX7_layQuiet, Cond.initialized RX7, Cond.code yX7_layQuiet cX7_layQuiet 5 (some .int), Cond.fieldLink RX7 21 "SoldHouse$Routes" "floor" "LSoldHouse$Floor;", Cond.fieldLink RX7 15 "SoldHouse$Routes" "cost" "[I", Cond.methodLink RX7 25 yX0_farOf, Cond.instanceMethod yX0_farOf, Cond.selects RX0 yX0_farOf yX0_farOf, Cond.initialized RX0, Cond.code yX0_farOf cX0_farOf 3 (some .int), Cond.fieldLink RX0 15 "SoldHouse$Floor" "far" "[I", Cond.methodLink RX7 39 yX7_costTo, Cond.instanceMethod yX7_costTo]
def wsX11_quiet_r2 : List Cond := [Cond.selects RX7 yX7_costTo yX7_costTo, Cond.code yX7_costTo cX7_costTo 4 none, Cond.constant RX7 85 (1048576), Cond.fieldLink RX7 52 "SoldHouse$Floor" "plan" "LSoldHouse$Plan;", Cond.fieldLink RX7 56 "SoldHouse$Plan" "rooms" "I", Cond.methodLink RX7 89 Lib.Math.min.name, Cond.static Lib.Math.min.name, Cond.initialized "java/lang/Math", Cond.code Lib.Math.min.name Lib.Math.min.code 2 (some .int), Cond.methodLink RX7 46 yJ7_fill_53178, Cond.static yJ7_fill_53178, Cond.initialized RJ7, Cond.code yJ7_fill_53178 cJ7_fill_53178 4 none, Cond.methodLink RX7 42 yX7_nextOnQuiet, Cond.instanceMethod yX7_nextOnQuiet, Cond.selects RX7 yX7_nextOnQuiet yX7_nextOnQuiet, Cond.code yX7_nextOnQuiet cX7_nextOnQuiet 5 (some .int), Cond.fieldLink RX7 82 "SoldHouse$Floor" "next" "[I", Cond.methodLink RX7 86 yX7_costBy, Cond.instanceMethod yX7_costBy, Cond.selects RX7 yX7_costBy yX7_costBy, Cond.code yX7_costBy cX7_costBy 3 (some .int), Cond.fieldLink RX7 94 "SoldHouse$Plan" "creaks" "[I", Cond.methodLink RX7 31 yX7_lay]
def wsX11_quiet_r3 : List Cond := [Cond.instanceMethod yX7_lay, Cond.selects RX7 yX7_lay yX7_lay, Cond.code yX7_lay cX7_lay 2 none, Cond.fieldLink RX7 79 "SoldHouse$Routes" "lying" "I", Cond.fieldLink RX7 9 "SoldHouse$Routes" "lie" "[I"]
def wsX11_quiet : List Cond := .code yX11_quiet cX11_quiet 3 (some .int) :: ((wsX11_quiet_r1 ++ (wsX11_quiet_r2 ++ wsX11_quiet_r3)) ++ wsX110 ++ wsX70 ++ wsX50 ++ wsX00)
def wsX11_ways_r1 : List Cond := [Cond.fieldLink RX11 49 "SoldHouse" "routes" "LSoldHouse$Routes;", Cond.methodLink RX11 110 yX11_isRoom, Cond.instanceMethod yX11_isRoom, Cond.selects RX11 yX11_isRoom yX11_isRoom, Cond.initialized RX11, Cond.code yX11_isRoom cX11_isRoom 2 (some .boolean), Cond.fieldLink RX11 10 "SoldHouse" "plan" "LSoldHouse$Plan;", Cond.fieldLink RX11 101 "SoldHouse$Plan" "rooms" "I", Cond.methodLink RX11 196 yX7_countWays, Cond.instanceMethod yX7_countWays, Cond.selects RX7 yX7_countWays yX7_countWays, Cond.initialized RX7, Cond.code yX7_countWays cX7_countWays 5 (some .int), Cond.fieldLink RX7 21 "SoldHouse$Routes" "floor" "LSoldHouse$Floor;", Cond.fieldLink RX7 15 "SoldHouse$Routes" "cost" "[I", Cond.fieldLink RX7 52 "SoldHouse$Floor" "plan" "LSoldHouse$Plan;", Cond.fieldLink RX7 56 "SoldHouse$Plan" "rooms" "I", Cond.methodLink RX7 25 yX0_farOf, Cond.instanceMethod yX0_farOf, Cond.selects RX0 yX0_farOf yX0_farOf, Cond.initialized RX0, Cond.code yX0_farOf cX0_farOf 3 (some .int), Cond.fieldLink RX0 15 "SoldHouse$Floor" "far" "[I", Cond.methodLink RX7 46 yJ7_fill_53178]
def wsX11_ways_r2 : List Cond := [Cond.static yJ7_fill_53178, Cond.initialized RJ7, Cond.code yJ7_fill_53178 cJ7_fill_53178 4 none, Cond.methodLink RX7 62 yX7_waysInto, Cond.instanceMethod yX7_waysInto, Cond.selects RX7 yX7_waysInto yX7_waysInto, Cond.code yX7_waysInto cX7_waysInto 6 (some .int), Cond.fieldLink RX7 82 "SoldHouse$Floor" "next" "[I"]
def wsX11_ways : List Cond := .code yX11_ways cX11_ways 3 (some .int) :: ((wsX11_ways_r1 ++ wsX11_ways_r2) ++ wsX110 ++ wsX50 ++ wsX70 ++ wsX00)
def wsX11_pieces : List Cond := .code yX11_pieces cX11_pieces 1 (some .int) :: ([.fieldLink RX11 40 "SoldHouse" "floor" "LSoldHouse$Floor;", .methodLink RX11 199 yX0_countPieces, .instanceMethod yX0_countPieces, .selects RX0 yX0_countPieces yX0_countPieces, .initialized RX0, .code yX0_countPieces cX0_countPieces 4 (some .int), .fieldLink RX0 21 "SoldHouse$Floor" "plan" "LSoldHouse$Plan;", .fieldLink RX0 43 "SoldHouse$Plan" "rooms" "I", .methodLink RX0 60 yX0_allRooms, .instanceMethod yX0_allRooms, .selects RX0 yX0_allRooms yX0_allRooms, .code yX0_allRooms cX0_allRooms 1 (some .int), .methodLink RX0 64 yX0_reach, .instanceMethod yX0_reach, .selects RX0 yX0_reach yX0_reach, .code yX0_reach cX0_reach 5 (some .int), .methodLink RX0 57 yX0_behindDoors, .instanceMethod yX0_behindDoors, .selects RX0 yX0_behindDoors yX0_behindDoors, .code yX0_behindDoors cX0_behindDoors 4 (some .int), .fieldLink RX0 9 "SoldHouse$Floor" "next" "[I"] ++ wsX110 ++ wsX00 ++ wsX50)
theorem dX11_isRoom_0 : decode cX11_isRoom 0 = .ok (.iload_n 1, 1) := by decide +kernel
theorem dX11_isRoom_1 : decode cX11_isRoom 1 = .ok (.ifCond .lt 18, 3) := by decide +kernel
theorem dX11_isRoom_4 : decode cX11_isRoom 4 = .ok (.iload_n 1, 1) := by decide +kernel
theorem dX11_isRoom_5 : decode cX11_isRoom 5 = .ok (.aload_n 0, 1) := by decide +kernel
theorem dX11_isRoom_6 : decode cX11_isRoom 6 = .ok (.getfield 10, 3) := by decide +kernel
theorem dX11_isRoom_9 : decode cX11_isRoom 9 = .ok (.getfield 101, 3) := by decide +kernel
theorem dX11_isRoom_12 : decode cX11_isRoom 12 = .ok (.if_icmp .ge 7, 3) := by decide +kernel
theorem dX11_isRoom_15 : decode cX11_isRoom 15 = .ok (.iconst 1, 1) := by decide +kernel
theorem dX11_isRoom_16 : decode cX11_isRoom 16 = .ok (.goto 4, 3) := by decide +kernel
theorem dX11_isRoom_19 : decode cX11_isRoom 19 = .ok (.iconst 0, 1) := by decide +kernel
theorem dX11_isRoom_20 : decode cX11_isRoom 20 = .ok (.ireturn, 1) := by decide +kernel
theorem dX11_isThing_0 : decode cX11_isThing 0 = .ok (.iload_n 1, 1) := by decide +kernel
theorem dX11_isThing_1 : decode cX11_isThing 1 = .ok (.ifCond .lt 18, 3) := by decide +kernel
theorem dX11_isThing_4 : decode cX11_isThing 4 = .ok (.iload_n 1, 1) := by decide +kernel
theorem dX11_isThing_5 : decode cX11_isThing 5 = .ok (.aload_n 0, 1) := by decide +kernel
theorem dX11_isThing_6 : decode cX11_isThing 6 = .ok (.getfield 10, 3) := by decide +kernel
theorem dX11_isThing_9 : decode cX11_isThing 9 = .ok (.getfield 253, 3) := by decide +kernel
theorem dX11_isThing_12 : decode cX11_isThing 12 = .ok (.if_icmp .ge 7, 3) := by decide +kernel
theorem dX11_isThing_15 : decode cX11_isThing 15 = .ok (.iconst 1, 1) := by decide +kernel
theorem dX11_isThing_16 : decode cX11_isThing 16 = .ok (.goto 4, 3) := by decide +kernel
theorem dX11_isThing_19 : decode cX11_isThing 19 = .ok (.iconst 0, 1) := by decide +kernel
theorem dX11_isThing_20 : decode cX11_isThing 20 = .ok (.ireturn, 1) := by decide +kernel
theorem dX11_isDoor_0 : decode cX11_isDoor 0 = .ok (.iload_n 1, 1) := by decide +kernel
theorem dX11_isDoor_1 : decode cX11_isDoor 1 = .ok (.ifCond .lt 18, 3) := by decide +kernel
theorem dX11_isDoor_4 : decode cX11_isDoor 4 = .ok (.iload_n 1, 1) := by decide +kernel
theorem dX11_isDoor_5 : decode cX11_isDoor 5 = .ok (.aload_n 0, 1) := by decide +kernel
theorem dX11_isDoor_6 : decode cX11_isDoor 6 = .ok (.getfield 10, 3) := by decide +kernel
theorem dX11_isDoor_9 : decode cX11_isDoor 9 = .ok (.getfield 309, 3) := by decide +kernel
theorem dX11_isDoor_12 : decode cX11_isDoor 12 = .ok (.if_icmp .ge 7, 3) := by decide +kernel
theorem dX11_isDoor_15 : decode cX11_isDoor 15 = .ok (.iconst 1, 1) := by decide +kernel
theorem dX11_isDoor_16 : decode cX11_isDoor 16 = .ok (.goto 4, 3) := by decide +kernel
theorem dX11_isDoor_19 : decode cX11_isDoor 19 = .ok (.iconst 0, 1) := by decide +kernel
theorem dX11_isDoor_20 : decode cX11_isDoor 20 = .ok (.ireturn, 1) := by decide +kernel
theorem dX11_areRooms_0 : decode cX11_areRooms 0 = .ok (.iload_n 1, 1) := by decide +kernel
theorem dX11_areRooms_1 : decode cX11_areRooms 1 = .ok (.ifCond .lt 20, 3) := by decide +kernel
theorem dX11_areRooms_4 : decode cX11_areRooms 4 = .ok (.iload_n 1, 1) := by decide +kernel
theorem dX11_areRooms_5 : decode cX11_areRooms 5 = .ok (.iconst 1, 1) := by decide +kernel
theorem dX11_areRooms_6 : decode cX11_areRooms 6 = .ok (.aload_n 0, 1) := by decide +kernel
theorem dX11_areRooms_7 : decode cX11_areRooms 7 = .ok (.getfield 10, 3) := by decide +kernel
theorem dX11_areRooms_10 : decode cX11_areRooms 10 = .ok (.getfield 101, 3) := by decide +kernel
theorem dX11_areRooms_13 : decode cX11_areRooms 13 = .ok (.ishl, 1) := by decide +kernel
theorem dX11_areRooms_14 : decode cX11_areRooms 14 = .ok (.if_icmp .ge 7, 3) := by decide +kernel
theorem dX11_areRooms_17 : decode cX11_areRooms 17 = .ok (.iconst 1, 1) := by decide +kernel
theorem dX11_areRooms_18 : decode cX11_areRooms 18 = .ok (.goto 4, 3) := by decide +kernel
theorem dX11_areRooms_21 : decode cX11_areRooms 21 = .ok (.iconst 0, 1) := by decide +kernel
theorem dX11_areRooms_22 : decode cX11_areRooms 22 = .ok (.ireturn, 1) := by decide +kernel
theorem dX11_isMinute_0 : decode cX11_isMinute 0 = .ok (.iload_n 0, 1) := by decide +kernel
theorem dX11_isMinute_1 : decode cX11_isMinute 1 = .ok (.ifCond .lt 13, 3) := by decide +kernel
theorem dX11_isMinute_4 : decode cX11_isMinute 4 = .ok (.iload_n 0, 1) := by decide +kernel
theorem dX11_isMinute_5 : decode cX11_isMinute 5 = .ok (.bipush 8, 2) := by decide +kernel
theorem dX11_isMinute_7 : decode cX11_isMinute 7 = .ok (.if_icmp .ge 7, 3) := by decide +kernel
theorem dX11_isMinute_10 : decode cX11_isMinute 10 = .ok (.iconst 1, 1) := by decide +kernel
theorem dX11_isMinute_11 : decode cX11_isMinute 11 = .ok (.goto 4, 3) := by decide +kernel
theorem dX11_isMinute_14 : decode cX11_isMinute 14 = .ok (.iconst 0, 1) := by decide +kernel
theorem dX11_isMinute_15 : decode cX11_isMinute 15 = .ok (.ireturn, 1) := by decide +kernel
theorem dX11_takeUp_0 : decode cX11_takeUp 0 = .ok (.aload_n 0, 1) := by decide +kernel
theorem dX11_takeUp_1 : decode cX11_takeUp 1 = .ok (.getfield 40, 3) := by decide +kernel
theorem dX11_takeUp_4 : decode cX11_takeUp 4 = .ok (.aload_n 0, 1) := by decide +kernel
theorem dX11_takeUp_5 : decode cX11_takeUp 5 = .ok (.getfield 10, 3) := by decide +kernel
theorem dX11_takeUp_8 : decode cX11_takeUp 8 = .ok (.invokevirtual 333, 3) := by decide +kernel
theorem dX11_takeUp_11 : decode cX11_takeUp 11 = .ok (.aload_n 0, 1) := by decide +kernel
theorem dX11_takeUp_12 : decode cX11_takeUp 12 = .ok (.getfield 63, 3) := by decide +kernel
theorem dX11_takeUp_15 : decode cX11_takeUp 15 = .ok (.invokevirtual 336, 3) := by decide +kernel
theorem dX11_takeUp_18 : decode cX11_takeUp 18 = .ok (.aload_n 0, 1) := by decide +kernel
theorem dX11_takeUp_19 : decode cX11_takeUp 19 = .ok (.getfield 79, 3) := by decide +kernel
theorem dX11_takeUp_22 : decode cX11_takeUp 22 = .ok (.iconst 0, 1) := by decide +kernel
theorem dX11_takeUp_23 : decode cX11_takeUp 23 = .ok (.putfield 318, 3) := by decide +kernel
theorem dX11_takeUp_26 : decode cX11_takeUp 26 = .ok (.aload_n 0, 1) := by decide +kernel
theorem dX11_takeUp_27 : decode cX11_takeUp 27 = .ok (.getfield 49, 3) := by decide +kernel
theorem dX11_takeUp_30 : decode cX11_takeUp 30 = .ok (.iconst 0, 1) := by decide +kernel
theorem dX11_takeUp_31 : decode cX11_takeUp 31 = .ok (.putfield 187, 3) := by decide +kernel
theorem dX11_takeUp_34 : decode cX11_takeUp 34 = .ok (.return_, 1) := by decide +kernel
theorem dX11_feed_0 : decode cX11_feed 0 = .ok (.aload_n 0, 1) := by decide +kernel
theorem dX11_feed_1 : decode cX11_feed 1 = .ok (.getfield 22, 3) := by decide +kernel
theorem dX11_feed_4 : decode cX11_feed 4 = .ok (.getfield 86, 3) := by decide +kernel
theorem dX11_feed_7 : decode cX11_feed 7 = .ok (.sipush 1580, 3) := by decide +kernel
theorem dX11_feed_10 : decode cX11_feed 10 = .ok (.if_icmp .le 5, 3) := by decide +kernel
theorem dX11_feed_13 : decode cX11_feed 13 = .ok (.iconst (-1), 1) := by decide +kernel
theorem dX11_feed_14 : decode cX11_feed 14 = .ok (.ireturn, 1) := by decide +kernel
theorem dX11_feed_15 : decode cX11_feed 15 = .ok (.aload_n 0, 1) := by decide +kernel
theorem dX11_feed_16 : decode cX11_feed 16 = .ok (.getfield 22, 3) := by decide +kernel
theorem dX11_feed_19 : decode cX11_feed 19 = .ok (.iload_n 1, 1) := by decide +kernel
theorem dX11_feed_20 : decode cX11_feed 20 = .ok (.invokevirtual 90, 3) := by decide +kernel
theorem dX11_feed_23 : decode cX11_feed 23 = .ok (.aload_n 0, 1) := by decide +kernel
theorem dX11_feed_24 : decode cX11_feed 24 = .ok (.getfield 22, 3) := by decide +kernel
theorem dX11_feed_27 : decode cX11_feed 27 = .ok (.iload_n 2, 1) := by decide +kernel
theorem dX11_feed_28 : decode cX11_feed 28 = .ok (.invokevirtual 90, 3) := by decide +kernel
theorem dX11_feed_31 : decode cX11_feed 31 = .ok (.aload_n 0, 1) := by decide +kernel
theorem dX11_feed_32 : decode cX11_feed 32 = .ok (.getfield 22, 3) := by decide +kernel
theorem dX11_feed_35 : decode cX11_feed 35 = .ok (.iload_n 3, 1) := by decide +kernel
theorem dX11_feed_36 : decode cX11_feed 36 = .ok (.invokevirtual 90, 3) := by decide +kernel
theorem dX11_feed_39 : decode cX11_feed 39 = .ok (.aload_n 0, 1) := by decide +kernel
theorem dX11_feed_40 : decode cX11_feed 40 = .ok (.getfield 22, 3) := by decide +kernel
theorem dX11_feed_43 : decode cX11_feed 43 = .ok (.iload 4, 2) := by decide +kernel
theorem dX11_feed_45 : decode cX11_feed 45 = .ok (.invokevirtual 90, 3) := by decide +kernel
theorem dX11_feed_48 : decode cX11_feed 48 = .ok (.aload_n 0, 1) := by decide +kernel
theorem dX11_feed_49 : decode cX11_feed 49 = .ok (.getfield 22, 3) := by decide +kernel
theorem dX11_feed_52 : decode cX11_feed 52 = .ok (.iload 5, 2) := by decide +kernel
theorem dX11_feed_54 : decode cX11_feed 54 = .ok (.invokevirtual 90, 3) := by decide +kernel
theorem dX11_feed_57 : decode cX11_feed 57 = .ok (.aload_n 0, 1) := by decide +kernel
theorem dX11_feed_58 : decode cX11_feed 58 = .ok (.getfield 22, 3) := by decide +kernel
theorem dX11_feed_61 : decode cX11_feed 61 = .ok (.getfield 86, 3) := by decide +kernel
theorem dX11_feed_64 : decode cX11_feed 64 = .ok (.ireturn, 1) := by decide +kernel
theorem dX11_end_0 : decode cX11_end 0 = .ok (.iload_n 1, 1) := by decide +kernel
theorem dX11_end_1 : decode cX11_end 1 = .ok (.ifCond .lt 14, 3) := by decide +kernel
theorem dX11_end_4 : decode cX11_end 4 = .ok (.iload_n 1, 1) := by decide +kernel
theorem dX11_end_5 : decode cX11_end 5 = .ok (.aload_n 0, 1) := by decide +kernel
theorem dX11_end_6 : decode cX11_end 6 = .ok (.getfield 22, 3) := by decide +kernel
theorem dX11_end_9 : decode cX11_end 9 = .ok (.getfield 86, 3) := by decide +kernel
theorem dX11_end_12 : decode cX11_end 12 = .ok (.if_icmp .le 5, 3) := by decide +kernel
theorem dX11_end_15 : decode cX11_end 15 = .ok (.iconst (-1), 1) := by decide +kernel
theorem dX11_end_16 : decode cX11_end 16 = .ok (.ireturn, 1) := by decide +kernel
theorem dX11_end_17 : decode cX11_end 17 = .ok (.aload_n 0, 1) := by decide +kernel
theorem dX11_end_18 : decode cX11_end 18 = .ok (.getfield 22, 3) := by decide +kernel
theorem dX11_end_21 : decode cX11_end 21 = .ok (.iload_n 1, 1) := by decide +kernel
theorem dX11_end_22 : decode cX11_end 22 = .ok (.putfield 86, 3) := by decide +kernel
theorem dX11_end_25 : decode cX11_end 25 = .ok (.iload_n 1, 1) := by decide +kernel
theorem dX11_end_26 : decode cX11_end 26 = .ok (.ireturn, 1) := by decide +kernel
theorem dX11_fault_0 : decode cX11_fault 0 = .ok (.iload_n 1, 1) := by decide +kernel
theorem dX11_fault_1 : decode cX11_fault 1 = .ok (.lookupswitch 43 #[(0, 27), (1, 35)], 27) := by decide +kernel
theorem dX11_fault_28 : decode cX11_fault 28 = .ok (.aload_n 0, 1) := by decide +kernel
theorem dX11_fault_29 : decode cX11_fault 29 = .ok (.getfield 31, 3) := by decide +kernel
theorem dX11_fault_32 : decode cX11_fault 32 = .ok (.getfield 104, 3) := by decide +kernel
theorem dX11_fault_35 : decode cX11_fault 35 = .ok (.ireturn, 1) := by decide +kernel
theorem dX11_fault_36 : decode cX11_fault 36 = .ok (.aload_n 0, 1) := by decide +kernel
theorem dX11_fault_37 : decode cX11_fault 37 = .ok (.getfield 31, 3) := by decide +kernel
theorem dX11_fault_40 : decode cX11_fault 40 = .ok (.getfield 107, 3) := by decide +kernel
theorem dX11_fault_43 : decode cX11_fault 43 = .ok (.ireturn, 1) := by decide +kernel
theorem dX11_fault_44 : decode cX11_fault 44 = .ok (.iconst (-1), 1) := by decide +kernel
theorem dX11_fault_45 : decode cX11_fault 45 = .ok (.ireturn, 1) := by decide +kernel
theorem dX11_room_0 : decode cX11_room 0 = .ok (.aload_n 0, 1) := by decide +kernel
theorem dX11_room_1 : decode cX11_room 1 = .ok (.iload_n 1, 1) := by decide +kernel
theorem dX11_room_2 : decode cX11_room 2 = .ok (.invokevirtual 110, 3) := by decide +kernel
theorem dX11_room_5 : decode cX11_room 5 = .ok (.ifCond .ne 5, 3) := by decide +kernel
theorem dX11_room_8 : decode cX11_room 8 = .ok (.iconst (-1), 1) := by decide +kernel
theorem dX11_room_9 : decode cX11_room 9 = .ok (.ireturn, 1) := by decide +kernel
theorem dX11_room_10 : decode cX11_room 10 = .ok (.iload_n 2, 1) := by decide +kernel
theorem dX11_room_11 : decode cX11_room 11 = .ok (.tableswitch 70 0 3 #[29, 39, 49, 59], 29) := by decide +kernel
theorem dX11_room_40 : decode cX11_room 40 = .ok (.aload_n 0, 1) := by decide +kernel
theorem dX11_room_41 : decode cX11_room 41 = .ok (.getfield 10, 3) := by decide +kernel
theorem dX11_room_44 : decode cX11_room 44 = .ok (.getfield 114, 3) := by decide +kernel
theorem dX11_room_47 : decode cX11_room 47 = .ok (.iload_n 1, 1) := by decide +kernel
theorem dX11_room_48 : decode cX11_room 48 = .ok (.iaload, 1) := by decide +kernel
theorem dX11_room_49 : decode cX11_room 49 = .ok (.ireturn, 1) := by decide +kernel
theorem dX11_room_50 : decode cX11_room 50 = .ok (.aload_n 0, 1) := by decide +kernel
theorem dX11_room_51 : decode cX11_room 51 = .ok (.getfield 40, 3) := by decide +kernel
theorem dX11_room_54 : decode cX11_room 54 = .ok (.getfield 118, 3) := by decide +kernel
theorem dX11_room_57 : decode cX11_room 57 = .ok (.iload_n 1, 1) := by decide +kernel
theorem dX11_room_58 : decode cX11_room 58 = .ok (.iaload, 1) := by decide +kernel
theorem dX11_room_59 : decode cX11_room 59 = .ok (.ireturn, 1) := by decide +kernel
theorem dX11_room_60 : decode cX11_room 60 = .ok (.aload_n 0, 1) := by decide +kernel
theorem dX11_room_61 : decode cX11_room 61 = .ok (.getfield 63, 3) := by decide +kernel
theorem dX11_room_64 : decode cX11_room 64 = .ok (.iconst 0, 1) := by decide +kernel
theorem dX11_room_65 : decode cX11_room 65 = .ok (.iload_n 1, 1) := by decide +kernel
theorem dX11_room_66 : decode cX11_room 66 = .ok (.invokevirtual 121, 3) := by decide +kernel
theorem dX11_room_69 : decode cX11_room 69 = .ok (.ireturn, 1) := by decide +kernel
theorem dX11_room_70 : decode cX11_room 70 = .ok (.aload_n 0, 1) := by decide +kernel
theorem dX11_room_71 : decode cX11_room 71 = .ok (.getfield 63, 3) := by decide +kernel
theorem dX11_room_74 : decode cX11_room 74 = .ok (.bipush 6, 2) := by decide +kernel
theorem dX11_room_76 : decode cX11_room 76 = .ok (.iload_n 1, 1) := by decide +kernel
theorem dX11_room_77 : decode cX11_room 77 = .ok (.invokevirtual 121, 3) := by decide +kernel
theorem dX11_room_80 : decode cX11_room 80 = .ok (.ireturn, 1) := by decide +kernel
theorem dX11_room_81 : decode cX11_room 81 = .ok (.iconst (-1), 1) := by decide +kernel
theorem dX11_room_82 : decode cX11_room 82 = .ok (.ireturn, 1) := by decide +kernel
theorem dX11_thing_0 : decode cX11_thing 0 = .ok (.aload_n 0, 1) := by decide +kernel
theorem dX11_thing_1 : decode cX11_thing 1 = .ok (.iload_n 1, 1) := by decide +kernel
theorem dX11_thing_2 : decode cX11_thing 2 = .ok (.invokevirtual 125, 3) := by decide +kernel
theorem dX11_thing_5 : decode cX11_thing 5 = .ok (.ifCond .ne 6, 3) := by decide +kernel
theorem dX11_thing_8 : decode cX11_thing 8 = .ok (.bipush (-2), 2) := by decide +kernel
theorem dX11_thing_10 : decode cX11_thing 10 = .ok (.ireturn, 1) := by decide +kernel
theorem dX11_thing_11 : decode cX11_thing 11 = .ok (.iload_n 2, 1) := by decide +kernel
theorem dX11_thing_12 : decode cX11_thing 12 = .ok (.tableswitch 158 0 7 #[48, 60, 73, 86, 96, 106, 119, 132], 48) := by decide +kernel
theorem dX11_thing_60 : decode cX11_thing 60 = .ok (.aload_n 0, 1) := by decide +kernel
theorem dX11_thing_61 : decode cX11_thing 61 = .ok (.getfield 63, 3) := by decide +kernel
theorem dX11_thing_64 : decode cX11_thing 64 = .ok (.getfield 128, 3) := by decide +kernel
theorem dX11_thing_67 : decode cX11_thing 67 = .ok (.iconst 0, 1) := by decide +kernel
theorem dX11_thing_68 : decode cX11_thing 68 = .ok (.iload_n 1, 1) := by decide +kernel
theorem dX11_thing_69 : decode cX11_thing 69 = .ok (.iadd, 1) := by decide +kernel
theorem dX11_thing_70 : decode cX11_thing 70 = .ok (.iaload, 1) := by decide +kernel
theorem dX11_thing_71 : decode cX11_thing 71 = .ok (.ireturn, 1) := by decide +kernel
theorem dX11_thing_72 : decode cX11_thing 72 = .ok (.aload_n 0, 1) := by decide +kernel
theorem dX11_thing_73 : decode cX11_thing 73 = .ok (.getfield 63, 3) := by decide +kernel
theorem dX11_thing_76 : decode cX11_thing 76 = .ok (.getfield 128, 3) := by decide +kernel
theorem dX11_thing_79 : decode cX11_thing 79 = .ok (.bipush 6, 2) := by decide +kernel
theorem dX11_thing_81 : decode cX11_thing 81 = .ok (.iload_n 1, 1) := by decide +kernel
theorem dX11_thing_82 : decode cX11_thing 82 = .ok (.iadd, 1) := by decide +kernel
theorem dX11_thing_83 : decode cX11_thing 83 = .ok (.iaload, 1) := by decide +kernel
theorem dX11_thing_84 : decode cX11_thing 84 = .ok (.ireturn, 1) := by decide +kernel
theorem dX11_thing_85 : decode cX11_thing 85 = .ok (.aload_n 0, 1) := by decide +kernel
theorem dX11_thing_86 : decode cX11_thing 86 = .ok (.getfield 63, 3) := by decide +kernel
theorem dX11_thing_89 : decode cX11_thing 89 = .ok (.getfield 128, 3) := by decide +kernel
theorem dX11_thing_92 : decode cX11_thing 92 = .ok (.bipush 12, 2) := by decide +kernel
theorem dX11_thing_94 : decode cX11_thing 94 = .ok (.iload_n 1, 1) := by decide +kernel
theorem dX11_thing_95 : decode cX11_thing 95 = .ok (.iadd, 1) := by decide +kernel
theorem dX11_thing_96 : decode cX11_thing 96 = .ok (.iaload, 1) := by decide +kernel
theorem dX11_thing_97 : decode cX11_thing 97 = .ok (.ireturn, 1) := by decide +kernel
theorem dX11_thing_98 : decode cX11_thing 98 = .ok (.aload_n 0, 1) := by decide +kernel
theorem dX11_thing_99 : decode cX11_thing 99 = .ok (.getfield 10, 3) := by decide +kernel
theorem dX11_thing_102 : decode cX11_thing 102 = .ok (.getfield 131, 3) := by decide +kernel
theorem dX11_thing_105 : decode cX11_thing 105 = .ok (.iload_n 1, 1) := by decide +kernel
theorem dX11_thing_106 : decode cX11_thing 106 = .ok (.iaload, 1) := by decide +kernel
theorem dX11_thing_107 : decode cX11_thing 107 = .ok (.ireturn, 1) := by decide +kernel
theorem dX11_thing_108 : decode cX11_thing 108 = .ok (.aload_n 0, 1) := by decide +kernel
theorem dX11_thing_109 : decode cX11_thing 109 = .ok (.getfield 10, 3) := by decide +kernel
theorem dX11_thing_112 : decode cX11_thing 112 = .ok (.getfield 134, 3) := by decide +kernel
theorem dX11_thing_115 : decode cX11_thing 115 = .ok (.iload_n 1, 1) := by decide +kernel
theorem dX11_thing_116 : decode cX11_thing 116 = .ok (.iaload, 1) := by decide +kernel
theorem dX11_thing_117 : decode cX11_thing 117 = .ok (.ireturn, 1) := by decide +kernel
theorem dX11_thing_118 : decode cX11_thing 118 = .ok (.aload_n 0, 1) := by decide +kernel
theorem dX11_thing_119 : decode cX11_thing 119 = .ok (.getfield 63, 3) := by decide +kernel
theorem dX11_thing_122 : decode cX11_thing 122 = .ok (.getfield 128, 3) := by decide +kernel
theorem dX11_thing_125 : decode cX11_thing 125 = .ok (.bipush 18, 2) := by decide +kernel
theorem dX11_thing_127 : decode cX11_thing 127 = .ok (.iload_n 1, 1) := by decide +kernel
theorem dX11_thing_128 : decode cX11_thing 128 = .ok (.iadd, 1) := by decide +kernel
theorem dX11_thing_129 : decode cX11_thing 129 = .ok (.iaload, 1) := by decide +kernel
theorem dX11_thing_130 : decode cX11_thing 130 = .ok (.ireturn, 1) := by decide +kernel
theorem dX11_thing_131 : decode cX11_thing 131 = .ok (.aload_n 0, 1) := by decide +kernel
theorem dX11_thing_132 : decode cX11_thing 132 = .ok (.getfield 63, 3) := by decide +kernel
theorem dX11_thing_135 : decode cX11_thing 135 = .ok (.getfield 128, 3) := by decide +kernel
theorem dX11_thing_138 : decode cX11_thing 138 = .ok (.bipush 24, 2) := by decide +kernel
theorem dX11_thing_140 : decode cX11_thing 140 = .ok (.iload_n 1, 1) := by decide +kernel
theorem dX11_thing_141 : decode cX11_thing 141 = .ok (.iadd, 1) := by decide +kernel
theorem dX11_thing_142 : decode cX11_thing 142 = .ok (.iaload, 1) := by decide +kernel
theorem dX11_thing_143 : decode cX11_thing 143 = .ok (.ireturn, 1) := by decide +kernel
theorem dX11_thing_144 : decode cX11_thing 144 = .ok (.aload_n 0, 1) := by decide +kernel
theorem dX11_thing_145 : decode cX11_thing 145 = .ok (.getfield 63, 3) := by decide +kernel
theorem dX11_thing_148 : decode cX11_thing 148 = .ok (.aload_n 0, 1) := by decide +kernel
theorem dX11_thing_149 : decode cX11_thing 149 = .ok (.getfield 63, 3) := by decide +kernel
theorem dX11_thing_152 : decode cX11_thing 152 = .ok (.getfield 128, 3) := by decide +kernel
theorem dX11_thing_155 : decode cX11_thing 155 = .ok (.iload_n 1, 1) := by decide +kernel
theorem dX11_thing_156 : decode cX11_thing 156 = .ok (.aload_n 0, 1) := by decide +kernel
theorem dX11_thing_157 : decode cX11_thing 157 = .ok (.getfield 63, 3) := by decide +kernel
theorem dX11_thing_160 : decode cX11_thing 160 = .ok (.getfield 128, 3) := by decide +kernel
theorem dX11_thing_163 : decode cX11_thing 163 = .ok (.bipush 30, 2) := by decide +kernel
theorem dX11_thing_165 : decode cX11_thing 165 = .ok (.iaload, 1) := by decide +kernel
theorem dX11_thing_166 : decode cX11_thing 166 = .ok (.invokevirtual 137, 3) := by decide +kernel
theorem dX11_thing_169 : decode cX11_thing 169 = .ok (.ireturn, 1) := by decide +kernel
theorem dX11_thing_170 : decode cX11_thing 170 = .ok (.bipush (-2), 2) := by decide +kernel
theorem dX11_thing_172 : decode cX11_thing 172 = .ok (.ireturn, 1) := by decide +kernel
theorem dX11_door_0 : decode cX11_door 0 = .ok (.aload_n 0, 1) := by decide +kernel
theorem dX11_door_1 : decode cX11_door 1 = .ok (.iload_n 1, 1) := by decide +kernel
theorem dX11_door_2 : decode cX11_door 2 = .ok (.invokevirtual 141, 3) := by decide +kernel
theorem dX11_door_5 : decode cX11_door 5 = .ok (.ifCond .ne 5, 3) := by decide +kernel
theorem dX11_door_8 : decode cX11_door 8 = .ok (.iconst (-1), 1) := by decide +kernel
theorem dX11_door_9 : decode cX11_door 9 = .ok (.ireturn, 1) := by decide +kernel
theorem dX11_door_10 : decode cX11_door 10 = .ok (.iload_n 2, 1) := by decide +kernel
theorem dX11_door_11 : decode cX11_door 11 = .ok (.tableswitch 71 0 3 #[29, 39, 49, 61], 29) := by decide +kernel
theorem dX11_door_40 : decode cX11_door 40 = .ok (.aload_n 0, 1) := by decide +kernel
theorem dX11_door_41 : decode cX11_door 41 = .ok (.getfield 10, 3) := by decide +kernel
theorem dX11_door_44 : decode cX11_door 44 = .ok (.getfield 144, 3) := by decide +kernel
theorem dX11_door_47 : decode cX11_door 47 = .ok (.iload_n 1, 1) := by decide +kernel
theorem dX11_door_48 : decode cX11_door 48 = .ok (.iaload, 1) := by decide +kernel
theorem dX11_door_49 : decode cX11_door 49 = .ok (.ireturn, 1) := by decide +kernel
theorem dX11_door_50 : decode cX11_door 50 = .ok (.aload_n 0, 1) := by decide +kernel
theorem dX11_door_51 : decode cX11_door 51 = .ok (.getfield 10, 3) := by decide +kernel
theorem dX11_door_54 : decode cX11_door 54 = .ok (.getfield 147, 3) := by decide +kernel
theorem dX11_door_57 : decode cX11_door 57 = .ok (.iload_n 1, 1) := by decide +kernel
theorem dX11_door_58 : decode cX11_door 58 = .ok (.iaload, 1) := by decide +kernel
theorem dX11_door_59 : decode cX11_door 59 = .ok (.ireturn, 1) := by decide +kernel
theorem dX11_door_60 : decode cX11_door 60 = .ok (.aload_n 0, 1) := by decide +kernel
theorem dX11_door_61 : decode cX11_door 61 = .ok (.getfield 40, 3) := by decide +kernel
theorem dX11_door_64 : decode cX11_door 64 = .ok (.getfield 150, 3) := by decide +kernel
theorem dX11_door_67 : decode cX11_door 67 = .ok (.iload_n 1, 1) := by decide +kernel
theorem dX11_door_68 : decode cX11_door 68 = .ok (.ishr, 1) := by decide +kernel
theorem dX11_door_69 : decode cX11_door 69 = .ok (.iconst 1, 1) := by decide +kernel
theorem dX11_door_70 : decode cX11_door 70 = .ok (.iand, 1) := by decide +kernel
theorem dX11_door_71 : decode cX11_door 71 = .ok (.ireturn, 1) := by decide +kernel
theorem dX11_door_72 : decode cX11_door 72 = .ok (.aload_n 0, 1) := by decide +kernel
theorem dX11_door_73 : decode cX11_door 73 = .ok (.getfield 40, 3) := by decide +kernel
theorem dX11_door_76 : decode cX11_door 76 = .ok (.getfield 153, 3) := by decide +kernel
theorem dX11_door_79 : decode cX11_door 79 = .ok (.iload_n 1, 1) := by decide +kernel
theorem dX11_door_80 : decode cX11_door 80 = .ok (.iaload, 1) := by decide +kernel
theorem dX11_door_81 : decode cX11_door 81 = .ok (.ireturn, 1) := by decide +kernel
theorem dX11_door_82 : decode cX11_door 82 = .ok (.iconst (-1), 1) := by decide +kernel
theorem dX11_door_83 : decode cX11_door 83 = .ok (.ireturn, 1) := by decide +kernel
theorem dX11_far_0 : decode cX11_far 0 = .ok (.aload_n 0, 1) := by decide +kernel
theorem dX11_far_1 : decode cX11_far 1 = .ok (.iload_n 1, 1) := by decide +kernel
theorem dX11_far_2 : decode cX11_far 2 = .ok (.invokevirtual 110, 3) := by decide +kernel
theorem dX11_far_5 : decode cX11_far 5 = .ok (.ifCond .eq 11, 3) := by decide +kernel
theorem dX11_far_8 : decode cX11_far 8 = .ok (.aload_n 0, 1) := by decide +kernel
theorem dX11_far_9 : decode cX11_far 9 = .ok (.iload_n 2, 1) := by decide +kernel
theorem dX11_far_10 : decode cX11_far 10 = .ok (.invokevirtual 110, 3) := by decide +kernel
theorem dX11_far_13 : decode cX11_far 13 = .ok (.ifCond .ne 5, 3) := by decide +kernel
theorem dX11_far_16 : decode cX11_far 16 = .ok (.iconst (-1), 1) := by decide +kernel
theorem dX11_far_17 : decode cX11_far 17 = .ok (.ireturn, 1) := by decide +kernel
theorem dX11_far_18 : decode cX11_far 18 = .ok (.aload_n 0, 1) := by decide +kernel
theorem dX11_far_19 : decode cX11_far 19 = .ok (.getfield 40, 3) := by decide +kernel
theorem dX11_far_22 : decode cX11_far 22 = .ok (.iload_n 1, 1) := by decide +kernel
theorem dX11_far_23 : decode cX11_far 23 = .ok (.iload_n 2, 1) := by decide +kernel
theorem dX11_far_24 : decode cX11_far 24 = .ok (.invokevirtual 156, 3) := by decide +kernel
theorem dX11_far_27 : decode cX11_far 27 = .ok (.ireturn, 1) := by decide +kernel
theorem dX11_tell_0 : decode cX11_tell 0 = .ok (.aload_n 0, 1) := by decide +kernel
theorem dX11_tell_1 : decode cX11_tell 1 = .ok (.iload_n 1, 1) := by decide +kernel
theorem dX11_tell_2 : decode cX11_tell 2 = .ok (.invokevirtual 125, 3) := by decide +kernel
theorem dX11_tell_5 : decode cX11_tell 5 = .ok (.ifCond .ne 5, 3) := by decide +kernel
theorem dX11_tell_8 : decode cX11_tell 8 = .ok (.iconst (-1), 1) := by decide +kernel
theorem dX11_tell_9 : decode cX11_tell 9 = .ok (.ireturn, 1) := by decide +kernel
theorem dX11_tell_10 : decode cX11_tell 10 = .ok (.aload_n 0, 1) := by decide +kernel
theorem dX11_tell_11 : decode cX11_tell 11 = .ok (.getfield 63, 3) := by decide +kernel
theorem dX11_tell_14 : decode cX11_tell 14 = .ok (.iload_n 1, 1) := by decide +kernel
theorem dX11_tell_15 : decode cX11_tell 15 = .ok (.iconst 0, 1) := by decide +kernel
theorem dX11_tell_16 : decode cX11_tell 16 = .ok (.invokevirtual 159, 3) := by decide +kernel
theorem dX11_tell_19 : decode cX11_tell 19 = .ok (.aload_n 0, 1) := by decide +kernel
theorem dX11_tell_20 : decode cX11_tell 20 = .ok (.getfield 63, 3) := by decide +kernel
theorem dX11_tell_23 : decode cX11_tell 23 = .ok (.invokevirtual 163, 3) := by decide +kernel
theorem dX11_tell_26 : decode cX11_tell 26 = .ok (.aload_n 0, 1) := by decide +kernel
theorem dX11_tell_27 : decode cX11_tell 27 = .ok (.getfield 63, 3) := by decide +kernel
theorem dX11_tell_30 : decode cX11_tell 30 = .ok (.aload_n 0, 1) := by decide +kernel
theorem dX11_tell_31 : decode cX11_tell 31 = .ok (.getfield 63, 3) := by decide +kernel
theorem dX11_tell_34 : decode cX11_tell 34 = .ok (.getfield 128, 3) := by decide +kernel
theorem dX11_tell_37 : decode cX11_tell 37 = .ok (.iload_n 1, 1) := by decide +kernel
theorem dX11_tell_38 : decode cX11_tell 38 = .ok (.invokevirtual 166, 3) := by decide +kernel
theorem dX11_tell_41 : decode cX11_tell 41 = .ok (.ifCond .eq 7, 3) := by decide +kernel
theorem dX11_tell_44 : decode cX11_tell 44 = .ok (.iconst 1, 1) := by decide +kernel
theorem dX11_tell_45 : decode cX11_tell 45 = .ok (.goto 4, 3) := by decide +kernel
theorem dX11_tell_48 : decode cX11_tell 48 = .ok (.iconst 0, 1) := by decide +kernel
theorem dX11_tell_49 : decode cX11_tell 49 = .ok (.ireturn, 1) := by decide +kernel
theorem dX11_hear_0 : decode cX11_hear 0 = .ok (.aload_n 0, 1) := by decide +kernel
theorem dX11_hear_1 : decode cX11_hear 1 = .ok (.iload_n 1, 1) := by decide +kernel
theorem dX11_hear_2 : decode cX11_hear 2 = .ok (.invokevirtual 125, 3) := by decide +kernel
theorem dX11_hear_5 : decode cX11_hear 5 = .ok (.ifCond .ne 5, 3) := by decide +kernel
theorem dX11_hear_8 : decode cX11_hear 8 = .ok (.iconst (-1), 1) := by decide +kernel
theorem dX11_hear_9 : decode cX11_hear 9 = .ok (.ireturn, 1) := by decide +kernel
theorem dX11_hear_10 : decode cX11_hear 10 = .ok (.aload_n 0, 1) := by decide +kernel
theorem dX11_hear_11 : decode cX11_hear 11 = .ok (.getfield 63, 3) := by decide +kernel
theorem dX11_hear_14 : decode cX11_hear 14 = .ok (.iload_n 1, 1) := by decide +kernel
theorem dX11_hear_15 : decode cX11_hear 15 = .ok (.iconst 1, 1) := by decide +kernel
theorem dX11_hear_16 : decode cX11_hear 16 = .ok (.invokevirtual 159, 3) := by decide +kernel
theorem dX11_hear_19 : decode cX11_hear 19 = .ok (.aload_n 0, 1) := by decide +kernel
theorem dX11_hear_20 : decode cX11_hear 20 = .ok (.getfield 63, 3) := by decide +kernel
theorem dX11_hear_23 : decode cX11_hear 23 = .ok (.getfield 128, 3) := by decide +kernel
theorem dX11_hear_26 : decode cX11_hear 26 = .ok (.bipush 6, 2) := by decide +kernel
theorem dX11_hear_28 : decode cX11_hear 28 = .ok (.iload_n 1, 1) := by decide +kernel
theorem dX11_hear_29 : decode cX11_hear 29 = .ok (.iadd, 1) := by decide +kernel
theorem dX11_hear_30 : decode cX11_hear 30 = .ok (.aload_n 0, 1) := by decide +kernel
theorem dX11_hear_31 : decode cX11_hear 31 = .ok (.getfield 63, 3) := by decide +kernel
theorem dX11_hear_34 : decode cX11_hear 34 = .ok (.getfield 128, 3) := by decide +kernel
theorem dX11_hear_37 : decode cX11_hear 37 = .ok (.iconst 0, 1) := by decide +kernel
theorem dX11_hear_38 : decode cX11_hear 38 = .ok (.iload_n 1, 1) := by decide +kernel
theorem dX11_hear_39 : decode cX11_hear 39 = .ok (.iadd, 1) := by decide +kernel
theorem dX11_hear_40 : decode cX11_hear 40 = .ok (.iaload, 1) := by decide +kernel
theorem dX11_hear_41 : decode cX11_hear 41 = .ok (.iastore, 1) := by decide +kernel
theorem dX11_hear_42 : decode cX11_hear 42 = .ok (.aload_n 0, 1) := by decide +kernel
theorem dX11_hear_43 : decode cX11_hear 43 = .ok (.getfield 63, 3) := by decide +kernel
theorem dX11_hear_46 : decode cX11_hear 46 = .ok (.invokevirtual 163, 3) := by decide +kernel
theorem dX11_hear_49 : decode cX11_hear 49 = .ok (.aload_n 0, 1) := by decide +kernel
theorem dX11_hear_50 : decode cX11_hear 50 = .ok (.getfield 63, 3) := by decide +kernel
theorem dX11_hear_53 : decode cX11_hear 53 = .ok (.getfield 128, 3) := by decide +kernel
theorem dX11_hear_56 : decode cX11_hear 56 = .ok (.iconst 0, 1) := by decide +kernel
theorem dX11_hear_57 : decode cX11_hear 57 = .ok (.iload_n 1, 1) := by decide +kernel
theorem dX11_hear_58 : decode cX11_hear 58 = .ok (.iadd, 1) := by decide +kernel
theorem dX11_hear_59 : decode cX11_hear 59 = .ok (.iaload, 1) := by decide +kernel
theorem dX11_hear_60 : decode cX11_hear 60 = .ok (.ireturn, 1) := by decide +kernel
theorem dX11_carry_0 : decode cX11_carry 0 = .ok (.aload_n 0, 1) := by decide +kernel
theorem dX11_carry_1 : decode cX11_carry 1 = .ok (.iload_n 1, 1) := by decide +kernel
theorem dX11_carry_2 : decode cX11_carry 2 = .ok (.invokevirtual 125, 3) := by decide +kernel
theorem dX11_carry_5 : decode cX11_carry 5 = .ok (.ifCond .eq 11, 3) := by decide +kernel
theorem dX11_carry_8 : decode cX11_carry 8 = .ok (.aload_n 0, 1) := by decide +kernel
theorem dX11_carry_9 : decode cX11_carry 9 = .ok (.iload_n 2, 1) := by decide +kernel
theorem dX11_carry_10 : decode cX11_carry 10 = .ok (.invokevirtual 141, 3) := by decide +kernel
theorem dX11_carry_13 : decode cX11_carry 13 = .ok (.ifCond .ne 5, 3) := by decide +kernel
theorem dX11_carry_16 : decode cX11_carry 16 = .ok (.iconst (-1), 1) := by decide +kernel
theorem dX11_carry_17 : decode cX11_carry 17 = .ok (.ireturn, 1) := by decide +kernel
theorem dX11_carry_18 : decode cX11_carry 18 = .ok (.aload_n 0, 1) := by decide +kernel
theorem dX11_carry_19 : decode cX11_carry 19 = .ok (.getfield 10, 3) := by decide +kernel
theorem dX11_carry_22 : decode cX11_carry 22 = .ok (.iload_n 2, 1) := by decide +kernel
theorem dX11_carry_23 : decode cX11_carry 23 = .ok (.aload_n 0, 1) := by decide +kernel
theorem dX11_carry_24 : decode cX11_carry 24 = .ok (.getfield 63, 3) := by decide +kernel
theorem dX11_carry_27 : decode cX11_carry 27 = .ok (.getfield 128, 3) := by decide +kernel
theorem dX11_carry_30 : decode cX11_carry 30 = .ok (.iconst 0, 1) := by decide +kernel
theorem dX11_carry_31 : decode cX11_carry 31 = .ok (.iload_n 1, 1) := by decide +kernel
theorem dX11_carry_32 : decode cX11_carry 32 = .ok (.iadd, 1) := by decide +kernel
theorem dX11_carry_33 : decode cX11_carry 33 = .ok (.iaload, 1) := by decide +kernel
theorem dX11_carry_34 : decode cX11_carry 34 = .ok (.invokevirtual 170, 3) := by decide +kernel
theorem dX11_carry_37 : decode cX11_carry 37 = .ok (.istore_n 3, 1) := by decide +kernel
theorem dX11_carry_38 : decode cX11_carry 38 = .ok (.iload_n 3, 1) := by decide +kernel
theorem dX11_carry_39 : decode cX11_carry 39 = .ok (.iconst (-1), 1) := by decide +kernel
theorem dX11_carry_40 : decode cX11_carry 40 = .ok (.if_icmp .ne 5, 3) := by decide +kernel
theorem dX11_carry_43 : decode cX11_carry 43 = .ok (.iconst (-1), 1) := by decide +kernel
theorem dX11_carry_44 : decode cX11_carry 44 = .ok (.ireturn, 1) := by decide +kernel
theorem dX11_carry_45 : decode cX11_carry 45 = .ok (.aload_n 0, 1) := by decide +kernel
theorem dX11_carry_46 : decode cX11_carry 46 = .ok (.getfield 63, 3) := by decide +kernel
theorem dX11_carry_49 : decode cX11_carry 49 = .ok (.iload_n 1, 1) := by decide +kernel
theorem dX11_carry_50 : decode cX11_carry 50 = .ok (.iload_n 3, 1) := by decide +kernel
theorem dX11_carry_51 : decode cX11_carry 51 = .ok (.invokevirtual 173, 3) := by decide +kernel
theorem dX11_carry_54 : decode cX11_carry 54 = .ok (.aload_n 0, 1) := by decide +kernel
theorem dX11_carry_55 : decode cX11_carry 55 = .ok (.getfield 63, 3) := by decide +kernel
theorem dX11_carry_58 : decode cX11_carry 58 = .ok (.invokevirtual 163, 3) := by decide +kernel
theorem dX11_carry_61 : decode cX11_carry 61 = .ok (.iload_n 3, 1) := by decide +kernel
theorem dX11_carry_62 : decode cX11_carry 62 = .ok (.ireturn, 1) := by decide +kernel
theorem dX11_send_0 : decode cX11_send 0 = .ok (.aload_n 0, 1) := by decide +kernel
theorem dX11_send_1 : decode cX11_send 1 = .ok (.iload_n 1, 1) := by decide +kernel
theorem dX11_send_2 : decode cX11_send 2 = .ok (.invokevirtual 125, 3) := by decide +kernel
theorem dX11_send_5 : decode cX11_send 5 = .ok (.ifCond .ne 5, 3) := by decide +kernel
theorem dX11_send_8 : decode cX11_send 8 = .ok (.iconst (-1), 1) := by decide +kernel
theorem dX11_send_9 : decode cX11_send 9 = .ok (.ireturn, 1) := by decide +kernel
theorem dX11_send_10 : decode cX11_send 10 = .ok (.aload_n 0, 1) := by decide +kernel
theorem dX11_send_11 : decode cX11_send 11 = .ok (.getfield 63, 3) := by decide +kernel
theorem dX11_send_14 : decode cX11_send 14 = .ok (.getfield 128, 3) := by decide +kernel
theorem dX11_send_17 : decode cX11_send 17 = .ok (.bipush 12, 2) := by decide +kernel
theorem dX11_send_19 : decode cX11_send 19 = .ok (.iload_n 1, 1) := by decide +kernel
theorem dX11_send_20 : decode cX11_send 20 = .ok (.iadd, 1) := by decide +kernel
theorem dX11_send_21 : decode cX11_send 21 = .ok (.iconst 1, 1) := by decide +kernel
theorem dX11_send_22 : decode cX11_send 22 = .ok (.aload_n 0, 1) := by decide +kernel
theorem dX11_send_23 : decode cX11_send 23 = .ok (.getfield 63, 3) := by decide +kernel
theorem dX11_send_26 : decode cX11_send 26 = .ok (.getfield 128, 3) := by decide +kernel
theorem dX11_send_29 : decode cX11_send 29 = .ok (.bipush 12, 2) := by decide +kernel
theorem dX11_send_31 : decode cX11_send 31 = .ok (.iload_n 1, 1) := by decide +kernel
theorem dX11_send_32 : decode cX11_send 32 = .ok (.iadd, 1) := by decide +kernel
theorem dX11_send_33 : decode cX11_send 33 = .ok (.iaload, 1) := by decide +kernel
theorem dX11_send_34 : decode cX11_send 34 = .ok (.isub, 1) := by decide +kernel
theorem dX11_send_35 : decode cX11_send 35 = .ok (.iastore, 1) := by decide +kernel
theorem dX11_send_36 : decode cX11_send 36 = .ok (.aload_n 0, 1) := by decide +kernel
theorem dX11_send_37 : decode cX11_send 37 = .ok (.getfield 63, 3) := by decide +kernel
theorem dX11_send_40 : decode cX11_send 40 = .ok (.invokevirtual 163, 3) := by decide +kernel
theorem dX11_send_43 : decode cX11_send 43 = .ok (.aload_n 0, 1) := by decide +kernel
theorem dX11_send_44 : decode cX11_send 44 = .ok (.getfield 63, 3) := by decide +kernel
theorem dX11_send_47 : decode cX11_send 47 = .ok (.getfield 128, 3) := by decide +kernel
theorem dX11_send_50 : decode cX11_send 50 = .ok (.bipush 12, 2) := by decide +kernel
theorem dX11_send_52 : decode cX11_send 52 = .ok (.iload_n 1, 1) := by decide +kernel
theorem dX11_send_53 : decode cX11_send 53 = .ok (.iadd, 1) := by decide +kernel
theorem dX11_send_54 : decode cX11_send 54 = .ok (.iaload, 1) := by decide +kernel
theorem dX11_send_55 : decode cX11_send 55 = .ok (.ireturn, 1) := by decide +kernel
theorem dX11_day_0 : decode cX11_day 0 = .ok (.aload_n 0, 1) := by decide +kernel
theorem dX11_day_1 : decode cX11_day 1 = .ok (.getfield 63, 3) := by decide +kernel
theorem dX11_day_4 : decode cX11_day 4 = .ok (.getfield 128, 3) := by decide +kernel
theorem dX11_day_7 : decode cX11_day 7 = .ok (.bipush 30, 2) := by decide +kernel
theorem dX11_day_9 : decode cX11_day 9 = .ok (.iaload, 1) := by decide +kernel
theorem dX11_day_10 : decode cX11_day 10 = .ok (.sipush 999, 3) := by decide +kernel
theorem dX11_day_13 : decode cX11_day 13 = .ok (.if_icmp .lt 5, 3) := by decide +kernel
theorem dX11_day_16 : decode cX11_day 16 = .ok (.iconst (-1), 1) := by decide +kernel
theorem dX11_day_17 : decode cX11_day 17 = .ok (.ireturn, 1) := by decide +kernel
theorem dX11_day_18 : decode cX11_day 18 = .ok (.aload_n 0, 1) := by decide +kernel
theorem dX11_day_19 : decode cX11_day 19 = .ok (.getfield 63, 3) := by decide +kernel
theorem dX11_day_22 : decode cX11_day 22 = .ok (.aload_n 0, 1) := by decide +kernel
theorem dX11_day_23 : decode cX11_day 23 = .ok (.getfield 63, 3) := by decide +kernel
theorem dX11_day_26 : decode cX11_day 26 = .ok (.getfield 128, 3) := by decide +kernel
theorem dX11_day_29 : decode cX11_day 29 = .ok (.invokevirtual 176, 3) := by decide +kernel
theorem dX11_day_32 : decode cX11_day 32 = .ok (.istore_n 1, 1) := by decide +kernel
theorem dX11_day_33 : decode cX11_day 33 = .ok (.aload_n 0, 1) := by decide +kernel
theorem dX11_day_34 : decode cX11_day 34 = .ok (.getfield 63, 3) := by decide +kernel
theorem dX11_day_37 : decode cX11_day 37 = .ok (.invokevirtual 163, 3) := by decide +kernel
theorem dX11_day_40 : decode cX11_day 40 = .ok (.iload_n 1, 1) := by decide +kernel
theorem dX11_day_41 : decode cX11_day 41 = .ok (.ireturn, 1) := by decide +kernel
theorem dX11_undo_0 : decode cX11_undo 0 = .ok (.aload_n 0, 1) := by decide +kernel
theorem dX11_undo_1 : decode cX11_undo 1 = .ok (.getfield 63, 3) := by decide +kernel
theorem dX11_undo_4 : decode cX11_undo 4 = .ok (.invokevirtual 180, 3) := by decide +kernel
theorem dX11_undo_7 : decode cX11_undo 7 = .ok (.ireturn, 1) := by decide +kernel
theorem dX11_redo_0 : decode cX11_redo 0 = .ok (.aload_n 0, 1) := by decide +kernel
theorem dX11_redo_1 : decode cX11_redo 1 = .ok (.getfield 63, 3) := by decide +kernel
theorem dX11_redo_4 : decode cX11_redo 4 = .ok (.invokevirtual 184, 3) := by decide +kernel
theorem dX11_redo_7 : decode cX11_redo 7 = .ok (.ireturn, 1) := by decide +kernel
theorem dX11_way_0 : decode cX11_way 0 = .ok (.aload_n 0, 1) := by decide +kernel
theorem dX11_way_1 : decode cX11_way 1 = .ok (.getfield 49, 3) := by decide +kernel
theorem dX11_way_4 : decode cX11_way 4 = .ok (.iconst 0, 1) := by decide +kernel
theorem dX11_way_5 : decode cX11_way 5 = .ok (.putfield 187, 3) := by decide +kernel
theorem dX11_way_8 : decode cX11_way 8 = .ok (.aload_n 0, 1) := by decide +kernel
theorem dX11_way_9 : decode cX11_way 9 = .ok (.iload_n 1, 1) := by decide +kernel
theorem dX11_way_10 : decode cX11_way 10 = .ok (.invokevirtual 110, 3) := by decide +kernel
theorem dX11_way_13 : decode cX11_way 13 = .ok (.ifCond .eq 11, 3) := by decide +kernel
theorem dX11_way_16 : decode cX11_way 16 = .ok (.aload_n 0, 1) := by decide +kernel
theorem dX11_way_17 : decode cX11_way 17 = .ok (.iload_n 2, 1) := by decide +kernel
theorem dX11_way_18 : decode cX11_way 18 = .ok (.invokevirtual 110, 3) := by decide +kernel
theorem dX11_way_21 : decode cX11_way 21 = .ok (.ifCond .ne 5, 3) := by decide +kernel
theorem dX11_way_24 : decode cX11_way 24 = .ok (.iconst (-1), 1) := by decide +kernel
theorem dX11_way_25 : decode cX11_way 25 = .ok (.ireturn, 1) := by decide +kernel
theorem dX11_way_26 : decode cX11_way 26 = .ok (.aload_n 0, 1) := by decide +kernel
theorem dX11_way_27 : decode cX11_way 27 = .ok (.getfield 49, 3) := by decide +kernel
theorem dX11_way_30 : decode cX11_way 30 = .ok (.iload_n 1, 1) := by decide +kernel
theorem dX11_way_31 : decode cX11_way 31 = .ok (.iload_n 2, 1) := by decide +kernel
theorem dX11_way_32 : decode cX11_way 32 = .ok (.invokevirtual 190, 3) := by decide +kernel
theorem dX11_way_35 : decode cX11_way 35 = .ok (.ireturn, 1) := by decide +kernel
theorem dX11_quiet_0 : decode cX11_quiet 0 = .ok (.aload_n 0, 1) := by decide +kernel
theorem dX11_quiet_1 : decode cX11_quiet 1 = .ok (.getfield 49, 3) := by decide +kernel
theorem dX11_quiet_4 : decode cX11_quiet 4 = .ok (.iconst 0, 1) := by decide +kernel
theorem dX11_quiet_5 : decode cX11_quiet 5 = .ok (.putfield 187, 3) := by decide +kernel
theorem dX11_quiet_8 : decode cX11_quiet 8 = .ok (.aload_n 0, 1) := by decide +kernel
theorem dX11_quiet_9 : decode cX11_quiet 9 = .ok (.iload_n 1, 1) := by decide +kernel
theorem dX11_quiet_10 : decode cX11_quiet 10 = .ok (.invokevirtual 110, 3) := by decide +kernel
theorem dX11_quiet_13 : decode cX11_quiet 13 = .ok (.ifCond .eq 11, 3) := by decide +kernel
theorem dX11_quiet_16 : decode cX11_quiet 16 = .ok (.aload_n 0, 1) := by decide +kernel
theorem dX11_quiet_17 : decode cX11_quiet 17 = .ok (.iload_n 2, 1) := by decide +kernel
theorem dX11_quiet_18 : decode cX11_quiet 18 = .ok (.invokevirtual 110, 3) := by decide +kernel
theorem dX11_quiet_21 : decode cX11_quiet 21 = .ok (.ifCond .ne 5, 3) := by decide +kernel
theorem dX11_quiet_24 : decode cX11_quiet 24 = .ok (.iconst (-1), 1) := by decide +kernel
theorem dX11_quiet_25 : decode cX11_quiet 25 = .ok (.ireturn, 1) := by decide +kernel
theorem dX11_quiet_26 : decode cX11_quiet 26 = .ok (.aload_n 0, 1) := by decide +kernel
theorem dX11_quiet_27 : decode cX11_quiet 27 = .ok (.getfield 49, 3) := by decide +kernel
theorem dX11_quiet_30 : decode cX11_quiet 30 = .ok (.iload_n 1, 1) := by decide +kernel
theorem dX11_quiet_31 : decode cX11_quiet 31 = .ok (.iload_n 2, 1) := by decide +kernel
theorem dX11_quiet_32 : decode cX11_quiet 32 = .ok (.invokevirtual 193, 3) := by decide +kernel
theorem dX11_quiet_35 : decode cX11_quiet 35 = .ok (.ireturn, 1) := by decide +kernel
theorem dX11_ways_0 : decode cX11_ways 0 = .ok (.aload_n 0, 1) := by decide +kernel
theorem dX11_ways_1 : decode cX11_ways 1 = .ok (.iload_n 1, 1) := by decide +kernel
theorem dX11_ways_2 : decode cX11_ways 2 = .ok (.invokevirtual 110, 3) := by decide +kernel
theorem dX11_ways_5 : decode cX11_ways 5 = .ok (.ifCond .eq 11, 3) := by decide +kernel
theorem dX11_ways_8 : decode cX11_ways 8 = .ok (.aload_n 0, 1) := by decide +kernel
theorem dX11_ways_9 : decode cX11_ways 9 = .ok (.iload_n 2, 1) := by decide +kernel
theorem dX11_ways_10 : decode cX11_ways 10 = .ok (.invokevirtual 110, 3) := by decide +kernel
theorem dX11_ways_13 : decode cX11_ways 13 = .ok (.ifCond .ne 5, 3) := by decide +kernel
theorem dX11_ways_16 : decode cX11_ways 16 = .ok (.iconst (-1), 1) := by decide +kernel
theorem dX11_ways_17 : decode cX11_ways 17 = .ok (.ireturn, 1) := by decide +kernel
theorem dX11_ways_18 : decode cX11_ways 18 = .ok (.aload_n 0, 1) := by decide +kernel
theorem dX11_ways_19 : decode cX11_ways 19 = .ok (.getfield 49, 3) := by decide +kernel
theorem dX11_ways_22 : decode cX11_ways 22 = .ok (.iload_n 1, 1) := by decide +kernel
theorem dX11_ways_23 : decode cX11_ways 23 = .ok (.iload_n 2, 1) := by decide +kernel
theorem dX11_ways_24 : decode cX11_ways 24 = .ok (.invokevirtual 196, 3) := by decide +kernel
theorem dX11_ways_27 : decode cX11_ways 27 = .ok (.ireturn, 1) := by decide +kernel
theorem dX11_pieces_0 : decode cX11_pieces 0 = .ok (.aload_n 0, 1) := by decide +kernel
theorem dX11_pieces_1 : decode cX11_pieces 1 = .ok (.getfield 40, 3) := by decide +kernel
theorem dX11_pieces_4 : decode cX11_pieces 4 = .ok (.invokevirtual 199, 3) := by decide +kernel
theorem dX11_pieces_7 : decode cX11_pieces 7 = .ok (.ireturn, 1) := by decide +kernel
set_option maxRecDepth 20000 in
theorem ggX11_takeUp_X0_build : GoodIn wsX11_takeUp wsX0_build := goodIn_r _ [12, 13, 14, 15, 16, 17, 18, 19, 20, 21, 22, 23, 24, 25, 26, 27, 28, 11, 29, 30, 31, 32, 33, 34, 35, 36, 37, 38, 39, 40, 41, 42, 43, 44, 45, 97, 98, 99, 100, 101, 102, 103, 104, 105, 106, 107, 108, 109, 110, 111, 112, 113, 114, 115, 116, 117] (by decide +kernel) (by decide +kernel)
set_option maxRecDepth 20000 in
theorem gX11_takeUp_X0_build : GoodIn wsX11_takeUp (wsV RX11 333 RX0 yX0_build wsX0_build) := goodIn_app (goodIn_of _ (by decide +kernel)) ggX11_takeUp_X0_build
set_option maxRecDepth 20000 in
theorem ggX11_takeUp_X3_begin : GoodIn wsX11_takeUp wsX3_begin := goodIn_r _ [50, 51, 52, 53, 54, 55, 56, 57, 58, 59, 60, 61, 62, 49, 63, 64, 65, 66, 67, 68, 69, 70, 71, 118, 119, 120, 121, 122, 123, 124, 125, 126, 97, 98, 99, 100, 101, 102, 103, 104, 105, 106, 107, 108, 109, 110, 111, 112, 113, 114, 115, 116, 117] (by decide +kernel) (by decide +kernel)
set_option maxRecDepth 20000 in
theorem gX11_takeUp_X3_begin : GoodIn wsX11_takeUp (wsV RX11 336 RX3 yX3_begin wsX3_begin) := goodIn_app (goodIn_of _ (by decide +kernel)) ggX11_takeUp_X3_begin
set_option maxRecDepth 20000 in
theorem ggX11_feed_X8_put : GoodIn wsX11_feed wsX8_put := goodIn_r _ [7, 8, 9, 20, 21] (by decide +kernel) (by decide +kernel)
set_option maxRecDepth 20000 in
theorem gX11_feed_X8_put : GoodIn wsX11_feed (wsV RX11 90 RX8 yX8_put wsX8_put) := goodIn_app (goodIn_of _ (by decide +kernel)) ggX11_feed_X8_put
set_option maxRecDepth 20000 in
theorem ggX11_room_X11_isRoom : GoodIn wsX11_room wsX11_isRoom := goodIn_r _ [10, 1, 11, 21, 22, 23, 24, 25, 26, 27, 28, 29, 30, 31, 32, 33, 34, 35, 36, 37, 38, 39, 40, 41, 42, 43, 44, 45, 46] (by decide +kernel) (by decide +kernel)
set_option maxRecDepth 20000 in
theorem gX11_room_X11_isRoom : GoodIn wsX11_room (wsV RX11 110 RX11 yX11_isRoom wsX11_isRoom) := goodIn_app (goodIn_of _ (by decide +kernel)) ggX11_room_X11_isRoom
set_option maxRecDepth 20000 in
theorem ggX11_room_X3_thingsWith : GoodIn wsX11_room wsX3_thingsWith := goodIn_r _ [16, 17, 18, 19, 20, 52, 53, 54, 55, 56, 57, 58, 59, 60, 47, 48, 49, 50, 51, 31, 32, 33, 34, 35, 36, 37, 38, 39, 40, 41, 42, 43, 44, 45, 46] (by decide +kernel) (by decide +kernel)
set_option maxRecDepth 20000 in
theorem gX11_room_X3_thingsWith : GoodIn wsX11_room (wsV RX11 121 RX3 yX3_thingsWith wsX3_thingsWith) := goodIn_app (goodIn_of _ (by decide +kernel)) ggX11_room_X3_thingsWith
set_option maxRecDepth 20000 in
theorem ggX11_thing_X11_isThing : GoodIn wsX11_thing wsX11_isThing := goodIn_r _ [10, 3, 11, 56, 57, 58, 59, 60, 61, 62, 63, 64, 65, 75, 76, 77, 78, 79, 80, 81, 82, 83, 84, 85, 86, 87, 88, 89, 90] (by decide +kernel) (by decide +kernel)
set_option maxRecDepth 20000 in
theorem gX11_thing_X11_isThing : GoodIn wsX11_thing (wsV RX11 125 RX11 yX11_isThing wsX11_isThing) := goodIn_app (goodIn_of _ (by decide +kernel)) ggX11_thing_X11_isThing
set_option maxRecDepth 20000 in
theorem ggX11_thing_X3_sureOf : GoodIn wsX11_thing wsX3_sureOf := goodIn_r _ [16, 17, 18, 19, 20, 21, 22, 23, 24, 25, 26, 27, 28, 29, 30, 31, 32, 15, 33, 34, 35, 36, 37, 38, 39, 40, 41, 42, 43, 44, 45, 46, 47, 48, 49, 50, 51, 52, 53, 54, 55, 66, 67, 68, 69, 70, 71, 72, 73, 74, 91, 92, 93, 94, 95, 75, 76, 77, 78, 79, 80, 81, 82, 83, 84, 85, 86, 87, 88, 89, 90, 96, 97, 98, 99, 100, 101] (by decide +kernel) (by decide +kernel)
set_option maxRecDepth 20000 in
theorem gX11_thing_X3_sureOf : GoodIn wsX11_thing (wsV RX11 137 RX3 yX3_sureOf wsX3_sureOf) := goodIn_app (goodIn_of _ (by decide +kernel)) ggX11_thing_X3_sureOf
set_option maxRecDepth 20000 in
theorem ggX11_door_X11_isDoor : GoodIn wsX11_door wsX11_isDoor := goodIn_r _ [11, 1, 12, 13, 14, 15, 16, 17, 18, 19, 20, 21, 22, 23, 24, 25, 26, 27, 28, 29, 30, 31, 32, 33, 34, 35, 36, 37, 38] (by decide +kernel) (by decide +kernel)
set_option maxRecDepth 20000 in
theorem gX11_door_X11_isDoor : GoodIn wsX11_door (wsV RX11 141 RX11 yX11_isDoor wsX11_isDoor) := goodIn_app (goodIn_of _ (by decide +kernel)) ggX11_door_X11_isDoor
set_option maxRecDepth 20000 in
theorem ggX11_far_X0_farOf : GoodIn wsX11_far wsX0_farOf := goodIn_r _ [13, 14, 41, 42, 43, 44, 45] (by decide +kernel) (by decide +kernel)
set_option maxRecDepth 20000 in
theorem gX11_far_X0_farOf : GoodIn wsX11_far (wsV RX11 156 RX0 yX0_farOf wsX0_farOf) := goodIn_app (goodIn_of _ (by decide +kernel)) ggX11_far_X0_farOf
set_option maxRecDepth 20000 in
theorem ggX11_far_X11_isRoom : GoodIn wsX11_far wsX11_isRoom := goodIn_r _ [6, 7, 8, 15, 16, 17, 18, 19, 20, 21, 22, 23, 24, 25, 26, 27, 28, 29, 30, 31, 32, 33, 34, 35, 36, 37, 38, 39, 40] (by decide +kernel) (by decide +kernel)
set_option maxRecDepth 20000 in
theorem gX11_far_X11_isRoom : GoodIn wsX11_far (wsV RX11 110 RX11 yX11_isRoom wsX11_isRoom) := goodIn_app (goodIn_of _ (by decide +kernel)) ggX11_far_X11_isRoom
set_option maxRecDepth 20000 in
theorem ggX11_tell_X11_isThing : GoodIn wsX11_tell wsX11_isThing := goodIn_r _ [7, 8, 9, 36, 37, 38, 39, 40, 41, 42, 43, 44, 45, 55, 56, 57, 58, 59, 60, 61, 62, 63, 64, 65, 66, 67, 68, 69, 70] (by decide +kernel) (by decide +kernel)
set_option maxRecDepth 20000 in
theorem gX11_tell_X11_isThing : GoodIn wsX11_tell (wsV RX11 125 RX11 yX11_isThing wsX11_isThing) := goodIn_app (goodIn_of _ (by decide +kernel)) ggX11_tell_X11_isThing
set_option maxRecDepth 20000 in
theorem ggX11_tell_X3_isRight : GoodIn wsX11_tell wsX3_isRight := goodIn_r _ [35] (by decide +kernel) (by decide +kernel)
set_option maxRecDepth 20000 in
theorem gX11_tell_X3_isRight : GoodIn wsX11_tell (wsV RX11 166 RX3 yX3_isRight wsX3_isRight) := goodIn_app (goodIn_of _ (by decide +kernel)) ggX11_tell_X3_isRight
set_option maxRecDepth 20000 in
theorem ggX11_tell_X3_keepAct : GoodIn wsX11_tell wsX3_keepAct := goodIn_r _ [23, 24, 25, 26, 15, 27, 28, 29, 30, 31, 46, 47, 48, 49, 50, 51, 52, 53, 54] (by decide +kernel) (by decide +kernel)
set_option maxRecDepth 20000 in
theorem gX11_tell_X3_keepAct : GoodIn wsX11_tell (wsV RX11 163 RX3 yX3_keepAct wsX3_keepAct) := goodIn_app (goodIn_of _ (by decide +kernel)) ggX11_tell_X3_keepAct
set_option maxRecDepth 20000 in
theorem ggX11_tell_X3_speak : GoodIn wsX11_tell wsX3_speak := goodIn_r _ [14, 15, 16, 17, 18, 19, 46, 47, 48, 49, 50, 51, 52, 53, 54] (by decide +kernel) (by decide +kernel)
set_option maxRecDepth 20000 in
theorem gX11_tell_X3_speak : GoodIn wsX11_tell (wsV RX11 159 RX3 yX3_speak wsX3_speak) := goodIn_app (goodIn_of _ (by decide +kernel)) ggX11_tell_X3_speak
set_option maxRecDepth 20000 in
theorem ggX11_hear_X11_isThing : GoodIn wsX11_hear wsX11_isThing := goodIn_r _ [7, 8, 9, 32, 33, 34, 35, 36, 37, 38, 39, 40, 41, 51, 52, 53, 54, 55, 56, 57, 58, 59, 60, 61, 62, 63, 64, 65, 66] (by decide +kernel) (by decide +kernel)
set_option maxRecDepth 20000 in
theorem gX11_hear_X11_isThing : GoodIn wsX11_hear (wsV RX11 125 RX11 yX11_isThing wsX11_isThing) := goodIn_app (goodIn_of _ (by decide +kernel)) ggX11_hear_X11_isThing
set_option maxRecDepth 20000 in
theorem ggX11_hear_X3_keepAct : GoodIn wsX11_hear wsX3_keepAct := goodIn_r _ [23, 24, 25, 26, 15, 27, 28, 29, 30, 31, 42, 43, 44, 45, 46, 47, 48, 49, 50] (by decide +kernel) (by decide +kernel)
set_option maxRecDepth 20000 in
theorem gX11_hear_X3_keepAct : GoodIn wsX11_hear (wsV RX11 163 RX3 yX3_keepAct wsX3_keepAct) := goodIn_app (goodIn_of _ (by decide +kernel)) ggX11_hear_X3_keepAct
set_option maxRecDepth 20000 in
theorem ggX11_hear_X3_speak : GoodIn wsX11_hear wsX3_speak := goodIn_r _ [14, 15, 16, 17, 18, 19, 42, 43, 44, 45, 46, 47, 48, 49, 50] (by decide +kernel) (by decide +kernel)
set_option maxRecDepth 20000 in
theorem gX11_hear_X3_speak : GoodIn wsX11_hear (wsV RX11 159 RX3 yX3_speak wsX3_speak) := goodIn_app (goodIn_of _ (by decide +kernel)) ggX11_hear_X3_speak
set_option maxRecDepth 20000 in
theorem ggX11_carry_X11_isDoor : GoodIn wsX11_carry wsX11_isDoor := goodIn_r _ [13, 1, 14, 40, 41, 42, 43, 44, 45, 46, 47, 48, 49, 59, 60, 61, 62, 63, 64, 65, 66, 67, 68, 69, 70, 71, 72, 73, 74] (by decide +kernel) (by decide +kernel)
set_option maxRecDepth 20000 in
theorem gX11_carry_X11_isDoor : GoodIn wsX11_carry (wsV RX11 141 RX11 yX11_isDoor wsX11_isDoor) := goodIn_app (goodIn_of _ (by decide +kernel)) ggX11_carry_X11_isDoor
set_option maxRecDepth 20000 in
theorem ggX11_carry_X11_isThing : GoodIn wsX11_carry wsX11_isThing := goodIn_r _ [8, 1, 9, 40, 41, 42, 43, 44, 45, 46, 47, 48, 49, 59, 60, 61, 62, 63, 64, 65, 66, 67, 68, 69, 70, 71, 72, 73, 74] (by decide +kernel) (by decide +kernel)
set_option maxRecDepth 20000 in
theorem gX11_carry_X11_isThing : GoodIn wsX11_carry (wsV RX11 125 RX11 yX11_isThing wsX11_isThing) := goodIn_app (goodIn_of _ (by decide +kernel)) ggX11_carry_X11_isThing
set_option maxRecDepth 20000 in
theorem ggX11_carry_X3_bring : GoodIn wsX11_carry wsX3_bring := goodIn_r _ [26, 27, 50, 51, 52, 53, 54, 55, 56, 57, 58] (by decide +kernel) (by decide +kernel)
set_option maxRecDepth 20000 in
theorem gX11_carry_X3_bring : GoodIn wsX11_carry (wsV RX11 173 RX3 yX3_bring wsX3_bring) := goodIn_app (goodIn_of _ (by decide +kernel)) ggX11_carry_X3_bring
set_option maxRecDepth 20000 in
theorem ggX11_carry_X3_keepAct : GoodIn wsX11_carry wsX3_keepAct := goodIn_r _ [31, 32, 33, 34, 27, 35, 36, 37, 38, 39, 50, 51, 52, 53, 54, 55, 56, 57, 58] (by decide +kernel) (by decide +kernel)
set_option maxRecDepth 20000 in
theorem gX11_carry_X3_keepAct : GoodIn wsX11_carry (wsV RX11 163 RX3 yX3_keepAct wsX3_keepAct) := goodIn_app (goodIn_of _ (by decide +kernel)) ggX11_carry_X3_keepAct
set_option maxRecDepth 20000 in
theorem ggX11_carry_X5_behind : GoodIn wsX11_carry wsX5_behind := goodIn_r _ [19, 20, 21, 59, 60, 61, 62, 63, 64, 65, 66, 67, 68, 69, 70, 71, 72, 73, 74] (by decide +kernel) (by decide +kernel)
set_option maxRecDepth 20000 in
theorem gX11_carry_X5_behind : GoodIn wsX11_carry (wsV RX11 170 RX5 yX5_behind wsX5_behind) := goodIn_app (goodIn_of _ (by decide +kernel)) ggX11_carry_X5_behind
set_option maxRecDepth 20000 in
theorem ggX11_send_X11_isThing : GoodIn wsX11_send wsX11_isThing := goodIn_r _ [7, 8, 9, 24, 25, 26, 27, 28, 29, 30, 31, 32, 33, 43, 44, 45, 46, 47, 48, 49, 50, 51, 52, 53, 54, 55, 56, 57, 58] (by decide +kernel) (by decide +kernel)
set_option maxRecDepth 20000 in
theorem gX11_send_X11_isThing : GoodIn wsX11_send (wsV RX11 125 RX11 yX11_isThing wsX11_isThing) := goodIn_app (goodIn_of _ (by decide +kernel)) ggX11_send_X11_isThing
set_option maxRecDepth 20000 in
theorem ggX11_send_X3_keepAct : GoodIn wsX11_send wsX3_keepAct := goodIn_r _ [14, 15, 16, 17, 18, 19, 20, 21, 22, 23, 34, 35, 36, 37, 38, 39, 40, 41, 42] (by decide +kernel) (by decide +kernel)
set_option maxRecDepth 20000 in
theorem gX11_send_X3_keepAct : GoodIn wsX11_send (wsV RX11 163 RX3 yX3_keepAct wsX3_keepAct) := goodIn_app (goodIn_of _ (by decide +kernel)) ggX11_send_X3_keepAct
set_option maxRecDepth 20000 in
theorem ggX11_day_X3_keepAct : GoodIn wsX11_day wsX3_keepAct := goodIn_r _ [56, 57, 58, 59, 60, 61, 62, 63, 64, 65, 76, 77, 78, 79, 80, 81, 82, 83, 84] (by decide +kernel) (by decide +kernel)
set_option maxRecDepth 20000 in
theorem gX11_day_X3_keepAct : GoodIn wsX11_day (wsV RX11 163 RX3 yX3_keepAct wsX3_keepAct) := goodIn_app (goodIn_of _ (by decide +kernel)) ggX11_day_X3_keepAct
set_option maxRecDepth 20000 in
theorem ggX11_day_X3_passDay : GoodIn wsX11_day wsX3_passDay := goodIn_r _ [7, 8, 9, 10, 11, 12, 13, 14, 15, 16, 17, 18, 6, 19, 20, 21, 22, 23, 24, 25, 26, 27, 28, 29, 30, 31, 32, 33, 34, 35, 36, 37, 38, 39, 40, 41, 42, 43, 44, 45, 46, 47, 48, 49, 50, 51, 52, 76, 77, 78, 79, 80, 81, 82, 83, 84, 85, 86, 87, 88, 89, 90, 91, 92, 93, 94, 95, 96, 97, 98, 99, 100, 101, 102, 103, 104, 105, 106, 107, 108, 109, 110, 111] (by decide +kernel) (by decide +kernel)
set_option maxRecDepth 20000 in
theorem gX11_day_X3_passDay : GoodIn wsX11_day (wsV RX11 176 RX3 yX3_passDay wsX3_passDay) := goodIn_app (goodIn_of _ (by decide +kernel)) ggX11_day_X3_passDay
set_option maxRecDepth 20000 in
theorem ggX11_undo_X3_stepBack : GoodIn wsX11_undo wsX3_stepBack := goodIn_r _ [6, 7, 8, 9, 10, 11, 12, 13, 14, 15, 26, 27, 28, 29, 30, 31, 32, 33, 34] (by decide +kernel) (by decide +kernel)
set_option maxRecDepth 20000 in
theorem gX11_undo_X3_stepBack : GoodIn wsX11_undo (wsV RX11 180 RX3 yX3_stepBack wsX3_stepBack) := goodIn_app (goodIn_of _ (by decide +kernel)) ggX11_undo_X3_stepBack
set_option maxRecDepth 20000 in
theorem ggX11_redo_X3_stepOn : GoodIn wsX11_redo wsX3_stepOn := goodIn_r _ [6, 7, 8, 9, 10, 11, 12, 13, 14, 15, 26, 27, 28, 29, 30, 31, 32, 33, 34] (by decide +kernel) (by decide +kernel)
set_option maxRecDepth 20000 in
theorem gX11_redo_X3_stepOn : GoodIn wsX11_redo (wsV RX11 184 RX3 yX3_stepOn wsX3_stepOn) := goodIn_app (goodIn_of _ (by decide +kernel)) ggX11_redo_X3_stepOn
set_option maxRecDepth 20000 in
theorem ggX11_way_X11_isRoom : GoodIn wsX11_way wsX11_isRoom := goodIn_r _ [7, 8, 9, 35, 36, 37, 38, 39, 40, 41, 42, 43, 44, 50, 51, 52, 53, 54, 55, 56, 57, 58, 59, 60, 61, 62, 63, 64, 65] (by decide +kernel) (by decide +kernel)
set_option maxRecDepth 20000 in
theorem gX11_way_X11_isRoom : GoodIn wsX11_way (wsV RX11 110 RX11 yX11_isRoom wsX11_isRoom) := goodIn_app (goodIn_of _ (by decide +kernel)) ggX11_way_X11_isRoom
set_option maxRecDepth 20000 in
theorem ggX11_way_X7_layWay : GoodIn wsX11_way wsX7_layWay := goodIn_r _ [14, 15, 16, 17, 18, 19, 20, 21, 22, 23, 24, 13, 25, 26, 27, 28, 29, 30, 31, 32, 33, 34, 45, 46, 47, 48, 49, 66, 67, 68, 69, 70, 50, 51, 52, 53, 54, 55, 56, 57, 58, 59, 60, 61, 62, 63, 64, 65] (by decide +kernel) (by decide +kernel)
set_option maxRecDepth 20000 in
theorem gX11_way_X7_layWay : GoodIn wsX11_way (wsV RX11 190 RX7 yX7_layWay wsX7_layWay) := goodIn_app (goodIn_of _ (by decide +kernel)) ggX11_way_X7_layWay
set_option maxRecDepth 20000 in
theorem ggX11_quiet_X11_isRoom : GoodIn wsX11_quiet wsX11_isRoom := goodIn_r _ [7, 8, 9, 54, 55, 56, 57, 58, 59, 60, 61, 62, 63, 69, 70, 71, 72, 73, 74, 75, 76, 77, 78, 79, 80, 81, 82, 83, 84] (by decide +kernel) (by decide +kernel)
set_option maxRecDepth 20000 in
theorem gX11_quiet_X11_isRoom : GoodIn wsX11_quiet (wsV RX11 110 RX11 yX11_isRoom wsX11_isRoom) := goodIn_app (goodIn_of _ (by decide +kernel)) ggX11_quiet_X11_isRoom
set_option maxRecDepth 20000 in
theorem ggX11_quiet_X7_layQuiet : GoodIn wsX11_quiet wsX7_layQuiet := goodIn_r _ [14, 15, 16, 17, 18, 19, 20, 21, 22, 23, 24, 25, 13, 26, 27, 28, 29, 30, 31, 32, 33, 34, 35, 36, 37, 38, 39, 40, 41, 42, 43, 44, 45, 46, 47, 48, 49, 50, 51, 52, 53, 64, 65, 66, 67, 68, 85, 86, 87, 88, 89, 69, 70, 71, 72, 73, 74, 75, 76, 77, 78, 79, 80, 81, 82, 83, 84] (by decide +kernel) (by decide +kernel)
set_option maxRecDepth 20000 in
theorem gX11_quiet_X7_layQuiet : GoodIn wsX11_quiet (wsV RX11 193 RX7 yX7_layQuiet wsX7_layQuiet) := goodIn_app (goodIn_of _ (by decide +kernel)) ggX11_quiet_X7_layQuiet
set_option maxRecDepth 20000 in
theorem ggX11_ways_X11_isRoom : GoodIn wsX11_ways wsX11_isRoom := goodIn_r _ [6, 7, 8, 33, 34, 35, 36, 37, 38, 39, 40, 41, 42, 43, 44, 45, 46, 47, 48, 49, 50, 51, 52, 53, 54, 55, 56, 57, 58] (by decide +kernel) (by decide +kernel)
set_option maxRecDepth 20000 in
theorem gX11_ways_X11_isRoom : GoodIn wsX11_ways (wsV RX11 110 RX11 yX11_isRoom wsX11_isRoom) := goodIn_app (goodIn_of _ (by decide +kernel)) ggX11_ways_X11_isRoom
set_option maxRecDepth 20000 in
theorem ggX11_ways_X7_countWays : GoodIn wsX11_ways wsX7_countWays := goodIn_r _ [13, 14, 15, 16, 17, 18, 19, 20, 21, 22, 23, 24, 25, 26, 27, 28, 29, 30, 12, 31, 32, 59, 60, 61, 62, 63, 64, 65, 66, 67, 68, 43, 44, 45, 46, 47, 48, 49, 50, 51, 52, 53, 54, 55, 56, 57, 58] (by decide +kernel) (by decide +kernel)
set_option maxRecDepth 20000 in
theorem gX11_ways_X7_countWays : GoodIn wsX11_ways (wsV RX11 196 RX7 yX7_countWays wsX7_countWays) := goodIn_app (goodIn_of _ (by decide +kernel)) ggX11_ways_X7_countWays
set_option maxRecDepth 20000 in
theorem ggX11_pieces_X0_countPieces : GoodIn wsX11_pieces wsX0_countPieces := goodIn_r _ [6, 7, 8, 9, 10, 11, 5, 12, 13, 14, 15, 16, 17, 18, 19, 20, 21, 32, 33, 34, 35, 36, 37, 38, 39, 40, 41, 42, 43, 44, 45, 46, 47, 48, 49, 50, 51, 52] (by decide +kernel) (by decide +kernel)
set_option maxRecDepth 20000 in
theorem gX11_pieces_X0_countPieces : GoodIn wsX11_pieces (wsV RX11 199 RX0 yX0_countPieces wsX0_countPieces) := goodIn_app (goodIn_of _ (by decide +kernel)) ggX11_pieces_X0_countPieces
theorem iw_X11_isRoom_X11 : ∀ w ∈ wsX110, w ∈ wsX11_isRoom := fun _ h => List.mem_cons_of_mem _ (List.mem_append_left _ (List.mem_append_right _ h))
theorem iw_X11_isRoom_X5 : ∀ w ∈ wsX50, w ∈ wsX11_isRoom := fun _ h => List.mem_cons_of_mem _ (List.mem_append_right _ h)
theorem iw_X11_isThing_X11 : ∀ w ∈ wsX110, w ∈ wsX11_isThing := fun _ h => List.mem_cons_of_mem _ (List.mem_append_left _ (List.mem_append_right _ h))
theorem iw_X11_isThing_X5 : ∀ w ∈ wsX50, w ∈ wsX11_isThing := fun _ h => List.mem_cons_of_mem _ (List.mem_append_right _ h)
theorem iw_X11_isDoor_X11 : ∀ w ∈ wsX110, w ∈ wsX11_isDoor := fun _ h => List.mem_cons_of_mem _ (List.mem_append_left _ (List.mem_append_right _ h))
theorem iw_X11_isDoor_X5 : ∀ w ∈ wsX50, w ∈ wsX11_isDoor := fun _ h => List.mem_cons_of_mem _ (List.mem_append_right _ h)
theorem iw_X11_areRooms_X11 : ∀ w ∈ wsX110, w ∈ wsX11_areRooms := fun _ h => List.mem_cons_of_mem _ (List.mem_append_left _ (List.mem_append_right _ h))
theorem iw_X11_areRooms_X5 : ∀ w ∈ wsX50, w ∈ wsX11_areRooms := fun _ h => List.mem_cons_of_mem _ (List.mem_append_right _ h)
theorem iw_X11_takeUp_X11 : ∀ w ∈ wsX110, w ∈ wsX11_takeUp := fun _ h => List.mem_cons_of_mem _ (List.mem_append_left _ (List.mem_append_left _ (List.mem_append_left _ (List.mem_append_left _ (List.mem_append_left _ (List.mem_append_right _ h))))))
theorem iw_X11_takeUp_X4 : ∀ w ∈ wsX40, w ∈ wsX11_takeUp := fun _ h => List.mem_cons_of_mem _ (List.mem_append_left _ (List.mem_append_left _ (List.mem_append_left _ (List.mem_append_left _ (List.mem_append_right _ h)))))
theorem iw_X11_takeUp_X7 : ∀ w ∈ wsX70, w ∈ wsX11_takeUp := fun _ h => List.mem_cons_of_mem _ (List.mem_append_left _ (List.mem_append_left _ (List.mem_append_left _ (List.mem_append_right _ h))))
theorem iw_X11_feed_X11 : ∀ w ∈ wsX110, w ∈ wsX11_feed := fun _ h => List.mem_cons_of_mem _ (List.mem_append_left _ (List.mem_append_right _ h))
theorem iw_X11_feed_X8 : ∀ w ∈ wsX80, w ∈ wsX11_feed := fun _ h => List.mem_cons_of_mem _ (List.mem_append_right _ h)
theorem iw_X11_end_X11 : ∀ w ∈ wsX110, w ∈ wsX11_end := fun _ h => List.mem_cons_of_mem _ (List.mem_append_left _ (List.mem_append_right _ h))
theorem iw_X11_end_X8 : ∀ w ∈ wsX80, w ∈ wsX11_end := fun _ h => List.mem_cons_of_mem _ (List.mem_append_right _ h)
theorem iw_X11_fault_X11 : ∀ w ∈ wsX110, w ∈ wsX11_fault := fun _ h => List.mem_cons_of_mem _ (List.mem_append_left _ (List.mem_append_right _ h))
theorem iw_X11_fault_X6 : ∀ w ∈ wsX60, w ∈ wsX11_fault := fun _ h => List.mem_cons_of_mem _ (List.mem_append_right _ h)
theorem iw_X11_room_X0 : ∀ w ∈ wsX00, w ∈ wsX11_room := fun _ h => List.mem_cons_of_mem _ (List.mem_append_left _ (List.mem_append_right _ h))
theorem iw_X11_room_X11 : ∀ w ∈ wsX110, w ∈ wsX11_room := fun _ h => List.mem_cons_of_mem _ (List.mem_append_left _ (List.mem_append_left _ (List.mem_append_left _ (List.mem_append_right _ h))))
theorem iw_X11_room_X5 : ∀ w ∈ wsX50, w ∈ wsX11_room := fun _ h => List.mem_cons_of_mem _ (List.mem_append_left _ (List.mem_append_left _ (List.mem_append_right _ h)))
theorem iw_X11_thing_X11 : ∀ w ∈ wsX110, w ∈ wsX11_thing := fun _ h => List.mem_cons_of_mem _ (List.mem_append_left _ (List.mem_append_left _ (List.mem_append_left _ (List.mem_append_left _ (List.mem_append_right _ h)))))
theorem iw_X11_thing_X3 : ∀ w ∈ wsX30, w ∈ wsX11_thing := fun _ h => List.mem_cons_of_mem _ (List.mem_append_left _ (List.mem_append_left _ (List.mem_append_left _ (List.mem_append_right _ h))))
theorem iw_X11_thing_X5 : ∀ w ∈ wsX50, w ∈ wsX11_thing := fun _ h => List.mem_cons_of_mem _ (List.mem_append_left _ (List.mem_append_left _ (List.mem_append_right _ h)))
theorem iw_X11_door_X0 : ∀ w ∈ wsX00, w ∈ wsX11_door := fun _ h => List.mem_cons_of_mem _ (List.mem_append_right _ h)
theorem iw_X11_door_X11 : ∀ w ∈ wsX110, w ∈ wsX11_door := fun _ h => List.mem_cons_of_mem _ (List.mem_append_left _ (List.mem_append_left _ (List.mem_append_right _ h)))
theorem iw_X11_door_X5 : ∀ w ∈ wsX50, w ∈ wsX11_door := fun _ h => List.mem_cons_of_mem _ (List.mem_append_left _ (List.mem_append_right _ h))
theorem iw_X11_far_X11 : ∀ w ∈ wsX110, w ∈ wsX11_far := fun _ h => List.mem_cons_of_mem _ (List.mem_append_left _ (List.mem_append_left _ (List.mem_append_right _ h)))
theorem iw_X11_tell_X11 : ∀ w ∈ wsX110, w ∈ wsX11_tell := fun _ h => List.mem_cons_of_mem _ (List.mem_append_left _ (List.mem_append_left _ (List.mem_append_right _ h)))
theorem iw_X11_tell_X3 : ∀ w ∈ wsX30, w ∈ wsX11_tell := fun _ h => List.mem_cons_of_mem _ (List.mem_append_left _ (List.mem_append_right _ h))
theorem iw_X11_hear_X11 : ∀ w ∈ wsX110, w ∈ wsX11_hear := fun _ h => List.mem_cons_of_mem _ (List.mem_append_left _ (List.mem_append_left _ (List.mem_append_right _ h)))
theorem iw_X11_hear_X3 : ∀ w ∈ wsX30, w ∈ wsX11_hear := fun _ h => List.mem_cons_of_mem _ (List.mem_append_left _ (List.mem_append_right _ h))
theorem iw_X11_carry_X11 : ∀ w ∈ wsX110, w ∈ wsX11_carry := fun _ h => List.mem_cons_of_mem _ (List.mem_append_left _ (List.mem_append_left _ (List.mem_append_right _ h)))
theorem iw_X11_carry_X3 : ∀ w ∈ wsX30, w ∈ wsX11_carry := fun _ h => List.mem_cons_of_mem _ (List.mem_append_left _ (List.mem_append_right _ h))
theorem iw_X11_send_X11 : ∀ w ∈ wsX110, w ∈ wsX11_send := fun _ h => List.mem_cons_of_mem _ (List.mem_append_left _ (List.mem_append_left _ (List.mem_append_right _ h)))
theorem iw_X11_send_X3 : ∀ w ∈ wsX30, w ∈ wsX11_send := fun _ h => List.mem_cons_of_mem _ (List.mem_append_left _ (List.mem_append_right _ h))
theorem iw_X11_day_X11 : ∀ w ∈ wsX110, w ∈ wsX11_day := fun _ h => List.mem_cons_of_mem _ (List.mem_append_left _ (List.mem_append_left _ (List.mem_append_left _ (List.mem_append_left _ (List.mem_append_right _ h)))))
theorem iw_X11_day_X3 : ∀ w ∈ wsX30, w ∈ wsX11_day := fun _ h => List.mem_cons_of_mem _ (List.mem_append_left _ (List.mem_append_left _ (List.mem_append_left _ (List.mem_append_right _ h))))
theorem iw_X11_undo_X11 : ∀ w ∈ wsX110, w ∈ wsX11_undo := fun _ h => List.mem_cons_of_mem _ (List.mem_append_left _ (List.mem_append_right _ h))
theorem iw_X11_redo_X11 : ∀ w ∈ wsX110, w ∈ wsX11_redo := fun _ h => List.mem_cons_of_mem _ (List.mem_append_left _ (List.mem_append_right _ h))
theorem iw_X11_way_X11 : ∀ w ∈ wsX110, w ∈ wsX11_way := fun _ h => List.mem_cons_of_mem _ (List.mem_append_left _ (List.mem_append_left _ (List.mem_append_left _ (List.mem_append_right _ h))))
theorem iw_X11_way_X7 : ∀ w ∈ wsX70, w ∈ wsX11_way := fun _ h => List.mem_cons_of_mem _ (List.mem_append_left _ (List.mem_append_left _ (List.mem_append_right _ h)))
theorem iw_X11_quiet_X11 : ∀ w ∈ wsX110, w ∈ wsX11_quiet := fun _ h => List.mem_cons_of_mem _ (List.mem_append_left _ (List.mem_append_left _ (List.mem_append_left _ (List.mem_append_right _ h))))
theorem iw_X11_quiet_X7 : ∀ w ∈ wsX70, w ∈ wsX11_quiet := fun _ h => List.mem_cons_of_mem _ (List.mem_append_left _ (List.mem_append_left _ (List.mem_append_right _ h)))
theorem iw_X11_ways_X11 : ∀ w ∈ wsX110, w ∈ wsX11_ways := fun _ h => List.mem_cons_of_mem _ (List.mem_append_left _ (List.mem_append_left _ (List.mem_append_left _ (List.mem_append_right _ h))))
theorem iw_X11_pieces_X11 : ∀ w ∈ wsX110, w ∈ wsX11_pieces := fun _ h => List.mem_cons_of_mem _ (List.mem_append_left _ (List.mem_append_left _ (List.mem_append_right _ h)))
