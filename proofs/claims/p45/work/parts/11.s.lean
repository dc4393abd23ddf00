def wsX1_put : List Cond := .code yX1_put cX1_put 2 none :: ([.fieldLink RX1 19 "SoldHouse$Formula" "size" "I", .fieldLink RX1 9 "SoldHouse$Formula" "steps" "[I"] ++ wsX10)
def wsX1_know : List Cond := .code yX1_know cX1_know 6 none :: ([.fieldLink RX1 16 "SoldHouse$Formula" "known" "[I"] ++ wsX10)
def wsX1_join : List Cond := .code yX1_join cX1_join 3 (some .int) :: ([])
def wsX1_work : List Cond := .code yX1_work cX1_work 4 (some .int) :: ([.fieldLink RX1 19 "SoldHouse$Formula" "size" "I", .fieldLink RX1 9 "SoldHouse$Formula" "steps" "[I", .fieldLink RX1 13 "SoldHouse$Formula" "stack" "[I", .fieldLink RX1 16 "SoldHouse$Formula" "known" "[I", .methodLink RX1 30 yX1_join, .static yX1_join, .initialized RX1, .code yX1_join cX1_join 3 (some .int)] ++ wsX10)
def wsX7_lay : List Cond := .code yX7_lay cX7_lay 2 none :: ([.fieldLink RX7 79 "SoldHouse$Routes" "lying" "I", .fieldLink RX7 9 "SoldHouse$Routes" "lie" "[I"] ++ wsX70)
def wsX7_nextOnWay : List Cond := .code yX7_nextOnWay cX7_nextOnWay 5 (some .int) :: ([.fieldLink RX7 21 "SoldHouse$Routes" "floor" "LSoldHouse$Floor;", .fieldLink RX7 52 "SoldHouse$Floor" "plan" "LSoldHouse$Plan;", .fieldLink RX7 56 "SoldHouse$Plan" "rooms" "I", .fieldLink RX7 82 "SoldHouse$Floor" "next" "[I", .methodLink RX7 25 yX0_farOf, .instanceMethod yX0_farOf, .selects RX0 yX0_farOf yX0_farOf, .initialized RX0, .code yX0_farOf cX0_farOf 3 (some .int), .fieldLink RX0 15 "SoldHouse$Floor" "far" "[I"] ++ wsX70 ++ wsX00 ++ wsX50)
def wsX7_layWay : List Cond := .code yX7_layWay cX7_layWay 6 (some .int) :: ([.fieldLink RX7 21 "SoldHouse$Routes" "floor" "LSoldHouse$Floor;", .methodLink RX7 25 yX0_farOf, .instanceMethod yX0_farOf, .selects RX0 yX0_farOf yX0_farOf, .initialized RX0, .code yX0_farOf cX0_farOf 3 (some .int), .fieldLink RX0 15 "SoldHouse$Floor" "far" "[I", .methodLink RX7 31 yX7_lay, .instanceMethod yX7_lay, .selects RX7 yX7_lay yX7_lay, .initialized RX7, .code yX7_lay cX7_lay 2 none, .fieldLink RX7 79 "SoldHouse$Routes" "lying" "I", .fieldLink RX7 9 "SoldHouse$Routes" "lie" "[I", .methodLink RX7 35 yX7_nextOnWay, .instanceMethod yX7_nextOnWay, .selects RX7 yX7_nextOnWay yX7_nextOnWay, .code yX7_nextOnWay cX7_nextOnWay 5 (some .int), .fieldLink RX7 52 "SoldHouse$Floor" "plan" "LSoldHouse$Plan;", .fieldLink RX7 56 "SoldHouse$Plan" "rooms" "I", .fieldLink RX7 82 "SoldHouse$Floor" "next" "[I"] ++ wsX70 ++ wsX00 ++ wsX50)
def wsX7_costBy : List Cond := .code yX7_costBy cX7_costBy 3 (some .int) :: ([.constant RX7 85 (1048576), .fieldLink RX7 15 "SoldHouse$Routes" "cost" "[I", .fieldLink RX7 21 "SoldHouse$Routes" "floor" "LSoldHouse$Floor;", .fieldLink RX7 52 "SoldHouse$Floor" "plan" "LSoldHouse$Plan;", .fieldLink RX7 94 "SoldHouse$Plan" "creaks" "[I"] ++ wsX70 ++ wsX00 ++ wsX50)
def wsX7_nextOnQuiet : List Cond := .code yX7_nextOnQuiet cX7_nextOnQuiet 5 (some .int) :: ([.constant RX7 85 (1048576), .fieldLink RX7 21 "SoldHouse$Routes" "floor" "LSoldHouse$Floor;", .fieldLink RX7 52 "SoldHouse$Floor" "plan" "LSoldHouse$Plan;", .fieldLink RX7 56 "SoldHouse$Plan" "rooms" "I", .fieldLink RX7 82 "SoldHouse$Floor" "next" "[I", .methodLink RX7 86 yX7_costBy, .instanceMethod yX7_costBy, .selects RX7 yX7_costBy yX7_costBy, .initialized RX7, .code yX7_costBy cX7_costBy 3 (some .int), .fieldLink RX7 15 "SoldHouse$Routes" "cost" "[I", .fieldLink RX7 94 "SoldHouse$Plan" "creaks" "[I"] ++ wsX70 ++ wsX00 ++ wsX50)
def wsX7_costTo : List Cond := .code yX7_costTo cX7_costTo 4 none :: ([.fieldLink RX7 15 "SoldHouse$Routes" "cost" "[I", .constant RX7 85 (1048576), .fieldLink RX7 21 "SoldHouse$Routes" "floor" "LSoldHouse$Floor;", .fieldLink RX7 52 "SoldHouse$Floor" "plan" "LSoldHouse$Plan;", .fieldLink RX7 56 "SoldHouse$Plan" "rooms" "I", .methodLink RX7 89 Lib.Math.min.name, .static Lib.Math.min.name, .initialized "java/lang/Math", .code Lib.Math.min.name Lib.Math.min.code 2 (some .int), .methodLink RX7 46 yJ7_fill_53178, .static yJ7_fill_53178, .initialized RJ7, .code yJ7_fill_53178 cJ7_fill_53178 4 none, .methodLink RX7 42 yX7_nextOnQuiet, .instanceMethod yX7_nextOnQuiet, .selects RX7 yX7_nextOnQuiet yX7_nextOnQuiet, .initialized RX7, .code yX7_nextOnQuiet cX7_nextOnQuiet 5 (some .int), .fieldLink RX7 82 "SoldHouse$Floor" "next" "[I", .methodLink RX7 86 yX7_costBy, .instanceMethod yX7_costBy, .selects RX7 yX7_costBy yX7_costBy, .code yX7_costBy cX7_costBy 3 (some .int), .fieldLink RX7 94 "SoldHouse$Plan" "creaks" "[I"] ++ wsX70 ++ wsX00 ++ wsX50)
def wsX7_layQuiet_r1 : List Cond := [Cond.fieldLink RX7 21 "SoldHouse$Routes" "floor" "LSoldHouse$Floor;", Cond.fieldLink RX7 15 "SoldHouse$Routes" "cost" "[I", Cond.methodLink RX7 25 yX0_farOf, Cond.instanceMethod yX0_farOf, Cond.selects RX0 yX0_farOf yX0_farOf, Cond.initialized RX0, Cond.code yX0_farOf cX0_farOf 3 (some .int), Cond.fieldLink RX0 15 "SoldHouse$Floor" "far" "[I", Cond.methodLink RX7 39 yX7_costTo, Cond.instanceMethod yX7_costTo, Cond.selects RX7 yX7_costTo yX7_costTo, Cond.initialized RX7, Cond.code yX7_costTo cX7_costTo 4 none, Cond.constant RX7 85 (1048576), Cond.fieldLink RX7 52 "SoldHouse$Floor" "plan" "LSoldHouse$Plan;", Cond.fieldLink RX7 56 "SoldHouse$Plan" "rooms" "I", Cond.methodLink RX7 89 Lib.Math.min.name, Cond.static Lib.Math.min.name, Cond.initialized "java/lang/Math", Cond.code Lib.Math.min.name Lib.Math.min.code 2 (some .int), Cond.methodLink RX7 46 yJ7_fill_53178, Cond.static yJ7_fill_53178, Cond.initialized RJ7, Cond.code yJ7_fill_53178 cJ7_fill_53178 4 none]
def wsX7_layQuiet_r2 : List Cond := [Cond.methodLink RX7 42 yX7_nextOnQuiet, Cond.instanceMethod yX7_nextOnQuiet, Cond.selects RX7 yX7_nextOnQuiet yX7_nextOnQuiet, Cond.code yX7_nextOnQuiet cX7_nextOnQuiet 5 (some .int), Cond.fieldLink RX7 82 "SoldHouse$Floor" "next" "[I", Cond.methodLink RX7 86 yX7_costBy, Cond.instanceMethod yX7_costBy, Cond.selects RX7 yX7_costBy yX7_costBy, Cond.code yX7_costBy cX7_costBy 3 (some .int), Cond.fieldLink RX7 94 "SoldHouse$Plan" "creaks" "[I", Cond.methodLink RX7 31 yX7_lay, Cond.instanceMethod yX7_lay, Cond.selects RX7 yX7_lay yX7_lay, Cond.code yX7_lay cX7_lay 2 none, Cond.fieldLink RX7 79 "SoldHouse$Routes" "lying" "I", Cond.fieldLink RX7 9 "SoldHouse$Routes" "lie" "[I"]
def wsX7_layQuiet : List Cond := .code yX7_layQuiet cX7_layQuiet 5 (some .int) :: ((wsX7_layQuiet_r1 ++ wsX7_layQuiet_r2) ++ wsX70 ++ wsX00 ++ wsX50)
def wsX7_waysInto : List Cond := .code yX7_waysInto cX7_waysInto 6 (some .int) :: ([.fieldLink RX7 21 "SoldHouse$Routes" "floor" "LSoldHouse$Floor;", .fieldLink RX7 52 "SoldHouse$Floor" "plan" "LSoldHouse$Plan;", .fieldLink RX7 56 "SoldHouse$Plan" "rooms" "I", .fieldLink RX7 82 "SoldHouse$Floor" "next" "[I", .fieldLink RX7 15 "SoldHouse$Routes" "cost" "[I", .methodLink RX7 25 yX0_farOf, .instanceMethod yX0_farOf, .selects RX0 yX0_farOf yX0_farOf, .initialized RX0, .code yX0_farOf cX0_farOf 3 (some .int), .fieldLink RX0 15 "SoldHouse$Floor" "far" "[I"] ++ wsX70 ++ wsX00 ++ wsX50)
def wsX7_countWays : List Cond := .code yX7_countWays cX7_countWays 5 (some .int) :: ([.fieldLink RX7 21 "SoldHouse$Routes" "floor" "LSoldHouse$Floor;", .fieldLink RX7 15 "SoldHouse$Routes" "cost" "[I", .fieldLink RX7 52 "SoldHouse$Floor" "plan" "LSoldHouse$Plan;", .fieldLink RX7 56 "SoldHouse$Plan" "rooms" "I", .methodLink RX7 25 yX0_farOf, .instanceMethod yX0_farOf, .selects RX0 yX0_farOf yX0_farOf, .initialized RX0, .code yX0_farOf cX0_farOf 3 (some .int), .fieldLink RX0 15 "SoldHouse$Floor" "far" "[I", .methodLink RX7 46 yJ7_fill_53178, .static yJ7_fill_53178, .initialized RJ7, .code yJ7_fill_53178 cJ7_fill_53178 4 none, .methodLink RX7 62 yX7_waysInto, .instanceMethod yX7_waysInto, .selects RX7 yX7_waysInto yX7_waysInto, .initialized RX7, .code yX7_waysInto cX7_waysInto 6 (some .int), .fieldLink RX7 82 "SoldHouse$Floor" "next" "[I"] ++ wsX70 ++ wsX00 ++ wsX50)
def wsX7_tourBy : List Cond := .code yX7_tourBy cX7_tourBy 4 (some .int) :: ([.fieldLink RX7 21 "SoldHouse$Routes" "floor" "LSoldHouse$Floor;", .fieldLink RX7 18 "SoldHouse$Routes" "rest" "[I", .methodLink RX7 25 yX0_farOf, .instanceMethod yX0_farOf, .selects RX0 yX0_farOf yX0_farOf, .initialized RX0, .code yX0_farOf cX0_farOf 3 (some .int), .fieldLink RX0 15 "SoldHouse$Floor" "far" "[I"] ++ wsX70 ++ wsX00)
def wsX7_nextOnTour : List Cond := .code yX7_nextOnTour cX7_nextOnTour 6 (some .int) :: ([.constant RX7 85 (1048576), .fieldLink RX7 21 "SoldHouse$Routes" "floor" "LSoldHouse$Floor;", .fieldLink RX7 52 "SoldHouse$Floor" "plan" "LSoldHouse$Plan;", .fieldLink RX7 56 "SoldHouse$Plan" "rooms" "I", .methodLink RX7 97 yX7_tourBy, .instanceMethod yX7_tourBy, .selects RX7 yX7_tourBy yX7_tourBy, .initialized RX7, .code yX7_tourBy cX7_tourBy 4 (some .int), .fieldLink RX7 18 "SoldHouse$Routes" "rest" "[I", .methodLink RX7 25 yX0_farOf, .instanceMethod yX0_farOf, .selects RX0 yX0_farOf yX0_farOf, .initialized RX0, .code yX0_farOf cX0_farOf 3 (some .int), .fieldLink RX0 15 "SoldHouse$Floor" "far" "[I"] ++ wsX70 ++ wsX00 ++ wsX50)
def wsX7_measureTours : List Cond := .code yX7_measureTours cX7_measureTours 4 none :: ([.fieldLink RX7 21 "SoldHouse$Routes" "floor" "LSoldHouse$Floor;", .fieldLink RX7 52 "SoldHouse$Floor" "plan" "LSoldHouse$Plan;", .fieldLink RX7 56 "SoldHouse$Plan" "rooms" "I", .fieldLink RX7 18 "SoldHouse$Routes" "rest" "[I", .methodLink RX7 76 yX7_nextOnTour, .instanceMethod yX7_nextOnTour, .selects RX7 yX7_nextOnTour yX7_nextOnTour, .initialized RX7, .code yX7_nextOnTour cX7_nextOnTour 6 (some .int), .constant RX7 85 (1048576), .methodLink RX7 97 yX7_tourBy, .instanceMethod yX7_tourBy, .selects RX7 yX7_tourBy yX7_tourBy, .code yX7_tourBy cX7_tourBy 4 (some .int), .methodLink RX7 25 yX0_farOf, .instanceMethod yX0_farOf, .selects RX0 yX0_farOf yX0_farOf, .initialized RX0, .code yX0_farOf cX0_farOf 3 (some .int), .fieldLink RX0 15 "SoldHouse$Floor" "far" "[I"] ++ wsX70 ++ wsX00 ++ wsX50)
def wsX7_layTour_r1 : List Cond := [Cond.fieldLink RX7 21 "SoldHouse$Routes" "floor" "LSoldHouse$Floor;", Cond.fieldLink RX7 18 "SoldHouse$Routes" "rest" "[I", Cond.methodLink RX7 65 yX0_allRooms, Cond.instanceMethod yX0_allRooms, Cond.selects RX0 yX0_allRooms yX0_allRooms, Cond.initialized RX0, Cond.code yX0_allRooms cX0_allRooms 1 (some .int), Cond.fieldLink RX0 21 "SoldHouse$Floor" "plan" "LSoldHouse$Plan;", Cond.fieldLink RX0 43 "SoldHouse$Plan" "rooms" "I", Cond.methodLink RX7 69 yX0_reach, Cond.instanceMethod yX0_reach, Cond.selects RX0 yX0_reach yX0_reach, Cond.code yX0_reach cX0_reach 5 (some .int), Cond.methodLink RX0 57 yX0_behindDoors, Cond.instanceMethod yX0_behindDoors, Cond.selects RX0 yX0_behindDoors yX0_behindDoors, Cond.code yX0_behindDoors cX0_behindDoors 4 (some .int), Cond.fieldLink RX0 9 "SoldHouse$Floor" "next" "[I", Cond.methodLink RX7 72 yX7_measureTours, Cond.instanceMethod yX7_measureTours, Cond.selects RX7 yX7_measureTours yX7_measureTours, Cond.initialized RX7, Cond.code yX7_measureTours cX7_measureTours 4 none, Cond.fieldLink RX7 52 "SoldHouse$Floor" "plan" "LSoldHouse$Plan;"]
def wsX7_layTour_r2 : List Cond := [Cond.fieldLink RX7 56 "SoldHouse$Plan" "rooms" "I", Cond.methodLink RX7 76 yX7_nextOnTour, Cond.instanceMethod yX7_nextOnTour, Cond.selects RX7 yX7_nextOnTour yX7_nextOnTour, Cond.code yX7_nextOnTour cX7_nextOnTour 6 (some .int), Cond.constant RX7 85 (1048576), Cond.methodLink RX7 97 yX7_tourBy, Cond.instanceMethod yX7_tourBy, Cond.selects RX7 yX7_tourBy yX7_tourBy, Cond.code yX7_tourBy cX7_tourBy 4 (some .int), Cond.methodLink RX7 25 yX0_farOf, Cond.instanceMethod yX0_farOf, Cond.selects RX0 yX0_farOf yX0_farOf, Cond.code yX0_farOf cX0_farOf 3 (some .int), Cond.fieldLink RX0 15 "SoldHouse$Floor" "far" "[I", Cond.methodLink RX7 31 yX7_lay, Cond.instanceMethod yX7_lay, Cond.selects RX7 yX7_lay yX7_lay, Cond.code yX7_lay cX7_lay 2 none, Cond.fieldLink RX7 79 "SoldHouse$Routes" "lying" "I", Cond.fieldLink RX7 9 "SoldHouse$Routes" "lie" "[I"]
def wsX7_layTour : List Cond := .code yX7_layTour cX7_layTour 6 (some .int) :: ((wsX7_layTour_r1 ++ wsX7_layTour_r2) ++ wsX70 ++ wsX00 ++ wsX50)
def wsX2_asksBy : List Cond := .code yX2_asksBy cX2_asksBy 6 (some .int) :: ([.fieldLink RX2 15 "SoldHouse$Hunter" "floor" "LSoldHouse$Floor;", .fieldLink RX2 47 "SoldHouse$Floor" "near" "[I", .fieldLink RX2 50 "SoldHouse$Floor" "parting" "I", .fieldLink RX2 9 "SoldHouse$Hunter" "asks" "[I", .methodLink RX2 53 Lib.Math.max.name, .static Lib.Math.max.name, .initialized "java/lang/Math", .code Lib.Math.max.name Lib.Math.max.code 2 (some .int)] ++ wsX20 ++ wsX00)
def wsX2_bestDoor : List Cond := .code yX2_bestDoor cX2_bestDoor 5 (some .int) :: ([.fieldLink RX2 15 "SoldHouse$Hunter" "floor" "LSoldHouse$Floor;", .fieldLink RX2 35 "SoldHouse$Floor" "plan" "LSoldHouse$Plan;", .fieldLink RX2 41 "SoldHouse$Plan" "doors" "I", .methodLink RX2 28 yX2_asksBy, .instanceMethod yX2_asksBy, .selects RX2 yX2_asksBy yX2_asksBy, .initialized RX2, .code yX2_asksBy cX2_asksBy 6 (some .int), .fieldLink RX2 47 "SoldHouse$Floor" "near" "[I", .fieldLink RX2 50 "SoldHouse$Floor" "parting" "I", .fieldLink RX2 9 "SoldHouse$Hunter" "asks" "[I", .methodLink RX2 53 Lib.Math.max.name, .static Lib.Math.max.name, .initialized "java/lang/Math", .code Lib.Math.max.name Lib.Math.max.code 2 (some .int)] ++ wsX20 ++ wsX00 ++ wsX50)
def wsX2_fewestAsks_r1 : List Cond := [Cond.fieldLink RX2 9 "SoldHouse$Hunter" "asks" "[I", Cond.methodLink RX2 19 yX2_bestDoor, Cond.instanceMethod yX2_bestDoor, Cond.selects RX2 yX2_bestDoor yX2_bestDoor, Cond.initialized RX2, Cond.code yX2_bestDoor cX2_bestDoor 5 (some .int), Cond.fieldLink RX2 15 "SoldHouse$Hunter" "floor" "LSoldHouse$Floor;", Cond.fieldLink RX2 35 "SoldHouse$Floor" "plan" "LSoldHouse$Plan;", Cond.fieldLink RX2 41 "SoldHouse$Plan" "doors" "I", Cond.methodLink RX2 28 yX2_asksBy, Cond.instanceMethod yX2_asksBy, Cond.selects RX2 yX2_asksBy yX2_asksBy, Cond.code yX2_asksBy cX2_asksBy 6 (some .int), Cond.fieldLink RX2 47 "SoldHouse$Floor" "near" "[I", Cond.fieldLink RX2 50 "SoldHouse$Floor" "parting" "I", Cond.methodLink RX2 53 Lib.Math.max.name, Cond.static Lib.Math.max.name, Cond.initialized "java/lang/Math", Cond.code Lib.Math.max.name Lib.Math.max.code 2 (some .int), Cond.methodLink RX2 23 yJ6_bitCount_0f7a4, Cond.static yJ6_bitCount_0f7a4, Cond.initialized RJ6, Cond.code yJ6_bitCount_0f7a4 cJ6_bitCount_0f7a4 1 (some .int), Cond.constant RJ6 265 (1431655765)]
def wsX2_fewestAsks_r2 : List Cond := [Cond.constant RJ6 266 (858993459), Cond.constant RJ6 267 (252645135)]
def wsX2_fewestAsks : List Cond := .code yX2_fewestAsks cX2_fewestAsks 5 (some .int) :: ((wsX2_fewestAsks_r1 ++ wsX2_fewestAsks_r2) ++ wsX20 ++ wsX00 ++ wsX50)
def wsX2_firstDoor_r1 : List Cond := [Cond.methodLink RX2 32 yX2_fewestAsks, Cond.instanceMethod yX2_fewestAsks, Cond.selects RX2 yX2_fewestAsks yX2_fewestAsks, Cond.initialized RX2, Cond.code yX2_fewestAsks cX2_fewestAsks 5 (some .int), Cond.fieldLink RX2 9 "SoldHouse$Hunter" "asks" "[I", Cond.methodLink RX2 19 yX2_bestDoor, Cond.instanceMethod yX2_bestDoor, Cond.selects RX2 yX2_bestDoor yX2_bestDoor, Cond.code yX2_bestDoor cX2_bestDoor 5 (some .int), Cond.fieldLink RX2 15 "SoldHouse$Hunter" "floor" "LSoldHouse$Floor;", Cond.fieldLink RX2 35 "SoldHouse$Floor" "plan" "LSoldHouse$Plan;", Cond.fieldLink RX2 41 "SoldHouse$Plan" "doors" "I", Cond.methodLink RX2 28 yX2_asksBy, Cond.instanceMethod yX2_asksBy, Cond.selects RX2 yX2_asksBy yX2_asksBy, Cond.code yX2_asksBy cX2_asksBy 6 (some .int), Cond.fieldLink RX2 47 "SoldHouse$Floor" "near" "[I", Cond.fieldLink RX2 50 "SoldHouse$Floor" "parting" "I", Cond.methodLink RX2 53 Lib.Math.max.name, Cond.static Lib.Math.max.name, Cond.initialized "java/lang/Math", Cond.code Lib.Math.max.name Lib.Math.max.code 2 (some .int), Cond.methodLink RX2 23 yJ6_bitCount_0f7a4]
def wsX2_firstDoor_r2 : List Cond := [Cond.static yJ6_bitCount_0f7a4, Cond.initialized RJ6, Cond.code yJ6_bitCount_0f7a4 cJ6_bitCount_0f7a4 1 (some .int), Cond.constant RJ6 265 (1431655765), Cond.constant RJ6 266 (858993459), Cond.constant RJ6 267 (252645135)]
def wsX2_firstDoor : List Cond := .code yX2_firstDoor cX2_firstDoor 2 (some .int) :: ((wsX2_firstDoor_r1 ++ wsX2_firstDoor_r2) ++ wsX20 ++ wsX00 ++ wsX50)
def wsX3_thingsWith : List Cond := .code yX3_thingsWith cX3_thingsWith 5 (some .int) :: ([.fieldLink RX3 30 "SoldHouse$Memory" "floor" "LSoldHouse$Floor;", .fieldLink RX3 34 "SoldHouse$Floor" "plan" "LSoldHouse$Plan;", .fieldLink RX3 40 "SoldHouse$Plan" "things" "I", .fieldLink RX3 11 "SoldHouse$Memory" "now" "[I"] ++ wsX30 ++ wsX00 ++ wsX50)
def wsX3_isRight : List Cond := .code yX3_isRight cX3_isRight 3 (some .boolean) :: ([])
def wsX3_rightThings : List Cond := .code yX3_rightThings cX3_rightThings 4 (some .int) :: ([.fieldLink RX3 30 "SoldHouse$Memory" "floor" "LSoldHouse$Floor;", .fieldLink RX3 34 "SoldHouse$Floor" "plan" "LSoldHouse$Plan;", .fieldLink RX3 40 "SoldHouse$Plan" "things" "I", .methodLink RX3 61 yX3_isRight, .instanceMethod yX3_isRight, .selects RX3 yX3_isRight yX3_isRight, .initialized RX3, .code yX3_isRight cX3_isRight 3 (some .boolean)] ++ wsX30 ++ wsX00 ++ wsX50)
theorem dX1_put_0 : decode cX1_put 0 = .ok (.aload_n 0, 1) := by decide +kernel
theorem dX1_put_1 : decode cX1_put 1 = .ok (.getfield 19, 3) := by decide +kernel
theorem dX1_put_4 : decode cX1_put 4 = .ok (.sipush 400, 3) := by decide +kernel
theorem dX1_put_7 : decode cX1_put 7 = .ok (.if_icmp .ge 23, 3) := by decide +kernel
theorem dX1_put_10 : decode cX1_put 10 = .ok (.aload_n 0, 1) := by decide +kernel
theorem dX1_put_11 : decode cX1_put 11 = .ok (.getfield 9, 3) := by decide +kernel
theorem dX1_put_14 : decode cX1_put 14 = .ok (.aload_n 0, 1) := by decide +kernel
theorem dX1_put_15 : decode cX1_put 15 = .ok (.getfield 19, 3) := by decide +kernel
theorem dX1_put_18 : decode cX1_put 18 = .ok (.iload_n 1, 1) := by decide +kernel
theorem dX1_put_19 : decode cX1_put 19 = .ok (.iastore, 1) := by decide +kernel
theorem dX1_put_20 : decode cX1_put 20 = .ok (.aload_n 0, 1) := by decide +kernel
theorem dX1_put_21 : decode cX1_put 21 = .ok (.dup, 1) := by decide +kernel
theorem dX1_put_22 : decode cX1_put 22 = .ok (.getfield 19, 3) := by decide +kernel
theorem dX1_put_25 : decode cX1_put 25 = .ok (.iconst 1, 1) := by decide +kernel
theorem dX1_put_26 : decode cX1_put 26 = .ok (.iadd, 1) := by decide +kernel
theorem dX1_put_27 : decode cX1_put 27 = .ok (.putfield 19, 3) := by decide +kernel
theorem dX1_put_30 : decode cX1_put 30 = .ok (.return_, 1) := by decide +kernel
theorem dX1_know_0 : decode cX1_know 0 = .ok (.aload_n 0, 1) := by decide +kernel
theorem dX1_know_1 : decode cX1_know 1 = .ok (.getfield 16, 3) := by decide +kernel
theorem dX1_know_4 : decode cX1_know 4 = .ok (.iconst 0, 1) := by decide +kernel
theorem dX1_know_5 : decode cX1_know 5 = .ok (.iload_n 1, 1) := by decide +kernel
theorem dX1_know_6 : decode cX1_know 6 = .ok (.iastore, 1) := by decide +kernel
theorem dX1_know_7 : decode cX1_know 7 = .ok (.aload_n 0, 1) := by decide +kernel
theorem dX1_know_8 : decode cX1_know 8 = .ok (.getfield 16, 3) := by decide +kernel
theorem dX1_know_11 : decode cX1_know 11 = .ok (.iconst 1, 1) := by decide +kernel
theorem dX1_know_12 : decode cX1_know 12 = .ok (.iload_n 2, 1) := by decide +kernel
theorem dX1_know_13 : decode cX1_know 13 = .ok (.iastore, 1) := by decide +kernel
theorem dX1_know_14 : decode cX1_know 14 = .ok (.aload_n 0, 1) := by decide +kernel
theorem dX1_know_15 : decode cX1_know 15 = .ok (.getfield 16, 3) := by decide +kernel
theorem dX1_know_18 : decode cX1_know 18 = .ok (.iconst 2, 1) := by decide +kernel
theorem dX1_know_19 : decode cX1_know 19 = .ok (.iload_n 3, 1) := by decide +kernel
theorem dX1_know_20 : decode cX1_know 20 = .ok (.iastore, 1) := by decide +kernel
theorem dX1_know_21 : decode cX1_know 21 = .ok (.aload_n 0, 1) := by decide +kernel
theorem dX1_know_22 : decode cX1_know 22 = .ok (.getfield 16, 3) := by decide +kernel
theorem dX1_know_25 : decode cX1_know 25 = .ok (.iconst 3, 1) := by decide +kernel
theorem dX1_know_26 : decode cX1_know 26 = .ok (.iload 4, 2) := by decide +kernel
theorem dX1_know_28 : decode cX1_know 28 = .ok (.iastore, 1) := by decide +kernel
theorem dX1_know_29 : decode cX1_know 29 = .ok (.aload_n 0, 1) := by decide +kernel
theorem dX1_know_30 : decode cX1_know 30 = .ok (.getfield 16, 3) := by decide +kernel
theorem dX1_know_33 : decode cX1_know 33 = .ok (.iconst 4, 1) := by decide +kernel
theorem dX1_know_34 : decode cX1_know 34 = .ok (.iload 5, 2) := by decide +kernel
theorem dX1_know_36 : decode cX1_know 36 = .ok (.iastore, 1) := by decide +kernel
theorem dX1_know_37 : decode cX1_know 37 = .ok (.return_, 1) := by decide +kernel
theorem dX1_join_0 : decode cX1_join 0 = .ok (.iload_n 0, 1) := by decide +kernel
theorem dX1_join_1 : decode cX1_join 1 = .ok (.tableswitch 152 (-16) (-7) #[140, 128, 124, 120, 116, 105, 94, 83, 69, 55], 55) := by decide +kernel
theorem dX1_join_56 : decode cX1_join 56 = .ok (.iload_n 1, 1) := by decide +kernel
theorem dX1_join_57 : decode cX1_join 57 = .ok (.ifCond .ne 7, 3) := by decide +kernel
theorem dX1_join_60 : decode cX1_join 60 = .ok (.iload_n 2, 1) := by decide +kernel
theorem dX1_join_61 : decode cX1_join 61 = .ok (.ifCond .eq 7, 3) := by decide +kernel
theorem dX1_join_64 : decode cX1_join 64 = .ok (.iconst 1, 1) := by decide +kernel
theorem dX1_join_65 : decode cX1_join 65 = .ok (.goto 4, 3) := by decide +kernel
theorem dX1_join_68 : decode cX1_join 68 = .ok (.iconst 0, 1) := by decide +kernel
theorem dX1_join_69 : decode cX1_join 69 = .ok (.ireturn, 1) := by decide +kernel
theorem dX1_join_70 : decode cX1_join 70 = .ok (.iload_n 1, 1) := by decide +kernel
theorem dX1_join_71 : decode cX1_join 71 = .ok (.ifCond .eq 11, 3) := by decide +kernel
theorem dX1_join_74 : decode cX1_join 74 = .ok (.iload_n 2, 1) := by decide +kernel
theorem dX1_join_75 : decode cX1_join 75 = .ok (.ifCond .eq 7, 3) := by decide +kernel
theorem dX1_join_78 : decode cX1_join 78 = .ok (.iconst 1, 1) := by decide +kernel
theorem dX1_join_79 : decode cX1_join 79 = .ok (.goto 4, 3) := by decide +kernel
theorem dX1_join_82 : decode cX1_join 82 = .ok (.iconst 0, 1) := by decide +kernel
theorem dX1_join_83 : decode cX1_join 83 = .ok (.ireturn, 1) := by decide +kernel
theorem dX1_join_84 : decode cX1_join 84 = .ok (.iload_n 1, 1) := by decide +kernel
theorem dX1_join_85 : decode cX1_join 85 = .ok (.iload_n 2, 1) := by decide +kernel
theorem dX1_join_86 : decode cX1_join 86 = .ok (.if_icmp .ge 7, 3) := by decide +kernel
theorem dX1_join_89 : decode cX1_join 89 = .ok (.iconst 1, 1) := by decide +kernel
theorem dX1_join_90 : decode cX1_join 90 = .ok (.goto 4, 3) := by decide +kernel
theorem dX1_join_93 : decode cX1_join 93 = .ok (.iconst 0, 1) := by decide +kernel
theorem dX1_join_94 : decode cX1_join 94 = .ok (.ireturn, 1) := by decide +kernel
theorem dX1_join_95 : decode cX1_join 95 = .ok (.iload_n 1, 1) := by decide +kernel
theorem dX1_join_96 : decode cX1_join 96 = .ok (.iload_n 2, 1) := by decide +kernel
theorem dX1_join_97 : decode cX1_join 97 = .ok (.if_icmp .le 7, 3) := by decide +kernel
theorem dX1_join_100 : decode cX1_join 100 = .ok (.iconst 1, 1) := by decide +kernel
theorem dX1_join_101 : decode cX1_join 101 = .ok (.goto 4, 3) := by decide +kernel
theorem dX1_join_104 : decode cX1_join 104 = .ok (.iconst 0, 1) := by decide +kernel
theorem dX1_join_105 : decode cX1_join 105 = .ok (.ireturn, 1) := by decide +kernel
theorem dX1_join_106 : decode cX1_join 106 = .ok (.iload_n 1, 1) := by decide +kernel
theorem dX1_join_107 : decode cX1_join 107 = .ok (.iload_n 2, 1) := by decide +kernel
theorem dX1_join_108 : decode cX1_join 108 = .ok (.if_icmp .ne 7, 3) := by decide +kernel
theorem dX1_join_111 : decode cX1_join 111 = .ok (.iconst 1, 1) := by decide +kernel
theorem dX1_join_112 : decode cX1_join 112 = .ok (.goto 4, 3) := by decide +kernel
theorem dX1_join_115 : decode cX1_join 115 = .ok (.iconst 0, 1) := by decide +kernel
theorem dX1_join_116 : decode cX1_join 116 = .ok (.ireturn, 1) := by decide +kernel
theorem dX1_join_117 : decode cX1_join 117 = .ok (.iload_n 1, 1) := by decide +kernel
theorem dX1_join_118 : decode cX1_join 118 = .ok (.iload_n 2, 1) := by decide +kernel
theorem dX1_join_119 : decode cX1_join 119 = .ok (.iadd, 1) := by decide +kernel
theorem dX1_join_120 : decode cX1_join 120 = .ok (.ireturn, 1) := by decide +kernel
theorem dX1_join_121 : decode cX1_join 121 = .ok (.iload_n 1, 1) := by decide +kernel
theorem dX1_join_122 : decode cX1_join 122 = .ok (.iload_n 2, 1) := by decide +kernel
theorem dX1_join_123 : decode cX1_join 123 = .ok (.isub, 1) := by decide +kernel
theorem dX1_join_124 : decode cX1_join 124 = .ok (.ireturn, 1) := by decide +kernel
theorem dX1_join_125 : decode cX1_join 125 = .ok (.iload_n 1, 1) := by decide +kernel
theorem dX1_join_126 : decode cX1_join 126 = .ok (.iload_n 2, 1) := by decide +kernel
theorem dX1_join_127 : decode cX1_join 127 = .ok (.imul, 1) := by decide +kernel
theorem dX1_join_128 : decode cX1_join 128 = .ok (.ireturn, 1) := by decide +kernel
theorem dX1_join_129 : decode cX1_join 129 = .ok (.iload_n 2, 1) := by decide +kernel
theorem dX1_join_130 : decode cX1_join 130 = .ok (.ifCond .ne 7, 3) := by decide +kernel
theorem dX1_join_133 : decode cX1_join 133 = .ok (.iconst 0, 1) := by decide +kernel
theorem dX1_join_134 : decode cX1_join 134 = .ok (.goto 6, 3) := by decide +kernel
theorem dX1_join_137 : decode cX1_join 137 = .ok (.iload_n 1, 1) := by decide +kernel
theorem dX1_join_138 : decode cX1_join 138 = .ok (.iload_n 2, 1) := by decide +kernel
theorem dX1_join_139 : decode cX1_join 139 = .ok (.idiv, 1) := by decide +kernel
theorem dX1_join_140 : decode cX1_join 140 = .ok (.ireturn, 1) := by decide +kernel
theorem dX1_join_141 : decode cX1_join 141 = .ok (.iload_n 2, 1) := by decide +kernel
theorem dX1_join_142 : decode cX1_join 142 = .ok (.ifCond .ne 7, 3) := by decide +kernel
theorem dX1_join_145 : decode cX1_join 145 = .ok (.iconst 0, 1) := by decide +kernel
theorem dX1_join_146 : decode cX1_join 146 = .ok (.goto 6, 3) := by decide +kernel
theorem dX1_join_149 : decode cX1_join 149 = .ok (.iload_n 1, 1) := by decide +kernel
theorem dX1_join_150 : decode cX1_join 150 = .ok (.iload_n 2, 1) := by decide +kernel
theorem dX1_join_151 : decode cX1_join 151 = .ok (.irem, 1) := by decide +kernel
theorem dX1_join_152 : decode cX1_join 152 = .ok (.ireturn, 1) := by decide +kernel
theorem dX1_join_153 : decode cX1_join 153 = .ok (.iconst 0, 1) := by decide +kernel
theorem dX1_join_154 : decode cX1_join 154 = .ok (.ireturn, 1) := by decide +kernel
theorem dX1_work_0 : decode cX1_work 0 = .ok (.iconst 0, 1) := by decide +kernel
theorem dX1_work_1 : decode cX1_work 1 = .ok (.istore_n 1, 1) := by decide +kernel
theorem dX1_work_2 : decode cX1_work 2 = .ok (.iconst 0, 1) := by decide +kernel
theorem dX1_work_3 : decode cX1_work 3 = .ok (.istore_n 2, 1) := by decide +kernel
theorem dX1_work_4 : decode cX1_work 4 = .ok (.iload_n 2, 1) := by decide +kernel
theorem dX1_work_5 : decode cX1_work 5 = .ok (.aload_n 0, 1) := by decide +kernel
theorem dX1_work_6 : decode cX1_work 6 = .ok (.getfield 19, 3) := by decide +kernel
theorem dX1_work_9 : decode cX1_work 9 = .ok (.if_icmp .ge 130, 3) := by decide +kernel
theorem dX1_work_12 : decode cX1_work 12 = .ok (.aload_n 0, 1) := by decide +kernel
theorem dX1_work_13 : decode cX1_work 13 = .ok (.getfield 9, 3) := by decide +kernel
theorem dX1_work_16 : decode cX1_work 16 = .ok (.iload_n 2, 1) := by decide +kernel
theorem dX1_work_17 : decode cX1_work 17 = .ok (.iaload, 1) := by decide +kernel
theorem dX1_work_18 : decode cX1_work 18 = .ok (.istore_n 3, 1) := by decide +kernel
theorem dX1_work_19 : decode cX1_work 19 = .ok (.iload_n 3, 1) := by decide +kernel
theorem dX1_work_20 : decode cX1_work 20 = .ok (.bipush (-6), 2) := by decide +kernel
theorem dX1_work_22 : decode cX1_work 22 = .ok (.if_icmp .le 40, 3) := by decide +kernel
theorem dX1_work_25 : decode cX1_work 25 = .ok (.iload_n 1, 1) := by decide +kernel
theorem dX1_work_26 : decode cX1_work 26 = .ok (.aload_n 0, 1) := by decide +kernel
theorem dX1_work_27 : decode cX1_work 27 = .ok (.getfield 13, 3) := by decide +kernel
theorem dX1_work_30 : decode cX1_work 30 = .ok (.arraylength, 1) := by decide +kernel
theorem dX1_work_31 : decode cX1_work 31 = .ok (.if_icmp .ge 102, 3) := by decide +kernel
theorem dX1_work_34 : decode cX1_work 34 = .ok (.aload_n 0, 1) := by decide +kernel
theorem dX1_work_35 : decode cX1_work 35 = .ok (.getfield 13, 3) := by decide +kernel
theorem dX1_work_38 : decode cX1_work 38 = .ok (.iload_n 1, 1) := by decide +kernel
theorem dX1_work_39 : decode cX1_work 39 = .ok (.iload_n 3, 1) := by decide +kernel
theorem dX1_work_40 : decode cX1_work 40 = .ok (.ifCond .lt 7, 3) := by decide +kernel
theorem dX1_work_43 : decode cX1_work 43 = .ok (.iload_n 3, 1) := by decide +kernel
theorem dX1_work_44 : decode cX1_work 44 = .ok (.goto 11, 3) := by decide +kernel
theorem dX1_work_47 : decode cX1_work 47 = .ok (.aload_n 0, 1) := by decide +kernel
theorem dX1_work_48 : decode cX1_work 48 = .ok (.getfield 16, 3) := by decide +kernel
theorem dX1_work_51 : decode cX1_work 51 = .ok (.iconst (-1), 1) := by decide +kernel
theorem dX1_work_52 : decode cX1_work 52 = .ok (.iload_n 3, 1) := by decide +kernel
theorem dX1_work_53 : decode cX1_work 53 = .ok (.isub, 1) := by decide +kernel
theorem dX1_work_54 : decode cX1_work 54 = .ok (.iaload, 1) := by decide +kernel
theorem dX1_work_55 : decode cX1_work 55 = .ok (.iastore, 1) := by decide +kernel
theorem dX1_work_56 : decode cX1_work 56 = .ok (.iinc 1 1, 3) := by decide +kernel
theorem dX1_work_59 : decode cX1_work 59 = .ok (.goto 74, 3) := by decide +kernel
theorem dX1_work_62 : decode cX1_work 62 = .ok (.iload_n 3, 1) := by decide +kernel
theorem dX1_work_63 : decode cX1_work 63 = .ok (.bipush (-6), 2) := by decide +kernel
theorem dX1_work_65 : decode cX1_work 65 = .ok (.if_icmp .ne 34, 3) := by decide +kernel
theorem dX1_work_68 : decode cX1_work 68 = .ok (.iload_n 1, 1) := by decide +kernel
theorem dX1_work_69 : decode cX1_work 69 = .ok (.ifCond .le 64, 3) := by decide +kernel
theorem dX1_work_72 : decode cX1_work 72 = .ok (.aload_n 0, 1) := by decide +kernel
theorem dX1_work_73 : decode cX1_work 73 = .ok (.getfield 13, 3) := by decide +kernel
theorem dX1_work_76 : decode cX1_work 76 = .ok (.iload_n 1, 1) := by decide +kernel
theorem dX1_work_77 : decode cX1_work 77 = .ok (.iconst 1, 1) := by decide +kernel
theorem dX1_work_78 : decode cX1_work 78 = .ok (.isub, 1) := by decide +kernel
theorem dX1_work_79 : decode cX1_work 79 = .ok (.aload_n 0, 1) := by decide +kernel
theorem dX1_work_80 : decode cX1_work 80 = .ok (.getfield 13, 3) := by decide +kernel
theorem dX1_work_83 : decode cX1_work 83 = .ok (.iload_n 1, 1) := by decide +kernel
theorem dX1_work_84 : decode cX1_work 84 = .ok (.iconst 1, 1) := by decide +kernel
theorem dX1_work_85 : decode cX1_work 85 = .ok (.isub, 1) := by decide +kernel
theorem dX1_work_86 : decode cX1_work 86 = .ok (.iaload, 1) := by decide +kernel
theorem dX1_work_87 : decode cX1_work 87 = .ok (.ifCond .ne 7, 3) := by decide +kernel
theorem dX1_work_90 : decode cX1_work 90 = .ok (.iconst 1, 1) := by decide +kernel
theorem dX1_work_91 : decode cX1_work 91 = .ok (.goto 4, 3) := by decide +kernel
theorem dX1_work_94 : decode cX1_work 94 = .ok (.iconst 0, 1) := by decide +kernel
theorem dX1_work_95 : decode cX1_work 95 = .ok (.iastore, 1) := by decide +kernel
theorem dX1_work_96 : decode cX1_work 96 = .ok (.goto 37, 3) := by decide +kernel
theorem dX1_work_99 : decode cX1_work 99 = .ok (.iload_n 1, 1) := by decide +kernel
theorem dX1_work_100 : decode cX1_work 100 = .ok (.iconst 1, 1) := by decide +kernel
theorem dX1_work_101 : decode cX1_work 101 = .ok (.if_icmp .le 32, 3) := by decide +kernel
theorem dX1_work_104 : decode cX1_work 104 = .ok (.iinc 1 (-1), 3) := by decide +kernel
theorem dX1_work_107 : decode cX1_work 107 = .ok (.aload_n 0, 1) := by decide +kernel
theorem dX1_work_108 : decode cX1_work 108 = .ok (.getfield 13, 3) := by decide +kernel
theorem dX1_work_111 : decode cX1_work 111 = .ok (.iload_n 1, 1) := by decide +kernel
theorem dX1_work_112 : decode cX1_work 112 = .ok (.iconst 1, 1) := by decide +kernel
theorem dX1_work_113 : decode cX1_work 113 = .ok (.isub, 1) := by decide +kernel
theorem dX1_work_114 : decode cX1_work 114 = .ok (.iload_n 3, 1) := by decide +kernel
theorem dX1_work_115 : decode cX1_work 115 = .ok (.aload_n 0, 1) := by decide +kernel
theorem dX1_work_116 : decode cX1_work 116 = .ok (.getfield 13, 3) := by decide +kernel
theorem dX1_work_119 : decode cX1_work 119 = .ok (.iload_n 1, 1) := by decide +kernel
theorem dX1_work_120 : decode cX1_work 120 = .ok (.iconst 1, 1) := by decide +kernel
theorem dX1_work_121 : decode cX1_work 121 = .ok (.isub, 1) := by decide +kernel
theorem dX1_work_122 : decode cX1_work 122 = .ok (.iaload, 1) := by decide +kernel
theorem dX1_work_123 : decode cX1_work 123 = .ok (.aload_n 0, 1) := by decide +kernel
theorem dX1_work_124 : decode cX1_work 124 = .ok (.getfield 13, 3) := by decide +kernel
theorem dX1_work_127 : decode cX1_work 127 = .ok (.iload_n 1, 1) := by decide +kernel
theorem dX1_work_128 : decode cX1_work 128 = .ok (.iaload, 1) := by decide +kernel
theorem dX1_work_129 : decode cX1_work 129 = .ok (.invokestatic 30, 3) := by decide +kernel
theorem dX1_work_132 : decode cX1_work 132 = .ok (.iastore, 1) := by decide +kernel
theorem dX1_work_133 : decode cX1_work 133 = .ok (.iinc 2 1, 3) := by decide +kernel
theorem dX1_work_136 : decode cX1_work 136 = .ok (.goto (-132), 3) := by decide +kernel
theorem dX1_work_139 : decode cX1_work 139 = .ok (.iload_n 1, 1) := by decide +kernel
theorem dX1_work_140 : decode cX1_work 140 = .ok (.ifCond .le 12, 3) := by decide +kernel
theorem dX1_work_143 : decode cX1_work 143 = .ok (.aload_n 0, 1) := by decide +kernel
theorem dX1_work_144 : decode cX1_work 144 = .ok (.getfield 13, 3) := by decide +kernel
theorem dX1_work_147 : decode cX1_work 147 = .ok (.iconst 0, 1) := by decide +kernel
theorem dX1_work_148 : decode cX1_work 148 = .ok (.iaload, 1) := by decide +kernel
theorem dX1_work_149 : decode cX1_work 149 = .ok (.goto 4, 3) := by decide +kernel
theorem dX1_work_152 : decode cX1_work 152 = .ok (.iconst 0, 1) := by decide +kernel
theorem dX1_work_153 : decode cX1_work 153 = .ok (.ireturn, 1) := by decide +kernel
theorem dX7_lay_0 : decode cX7_lay 0 = .ok (.aload_n 0, 1) := by decide +kernel
theorem dX7_lay_1 : decode cX7_lay 1 = .ok (.getfield 79, 3) := by decide +kernel
theorem dX7_lay_4 : decode cX7_lay 4 = .ok (.bipush 8, 2) := by decide +kernel
theorem dX7_lay_6 : decode cX7_lay 6 = .ok (.if_icmp .ge 23, 3) := by decide +kernel
theorem dX7_lay_9 : decode cX7_lay 9 = .ok (.aload_n 0, 1) := by decide +kernel
theorem dX7_lay_10 : decode cX7_lay 10 = .ok (.getfield 9, 3) := by decide +kernel
theorem dX7_lay_13 : decode cX7_lay 13 = .ok (.aload_n 0, 1) := by decide +kernel
theorem dX7_lay_14 : decode cX7_lay 14 = .ok (.getfield 79, 3) := by decide +kernel
theorem dX7_lay_17 : decode cX7_lay 17 = .ok (.iload_n 1, 1) := by decide +kernel
theorem dX7_lay_18 : decode cX7_lay 18 = .ok (.iastore, 1) := by decide +kernel
theorem dX7_lay_19 : decode cX7_lay 19 = .ok (.aload_n 0, 1) := by decide +kernel
theorem dX7_lay_20 : decode cX7_lay 20 = .ok (.dup, 1) := by decide +kernel
theorem dX7_lay_21 : decode cX7_lay 21 = .ok (.getfield 79, 3) := by decide +kernel
theorem dX7_lay_24 : decode cX7_lay 24 = .ok (.iconst 1, 1) := by decide +kernel
theorem dX7_lay_25 : decode cX7_lay 25 = .ok (.iadd, 1) := by decide +kernel
theorem dX7_lay_26 : decode cX7_lay 26 = .ok (.putfield 79, 3) := by decide +kernel
theorem dX7_lay_29 : decode cX7_lay 29 = .ok (.return_, 1) := by decide +kernel
theorem dX7_nextOnWay_0 : decode cX7_nextOnWay 0 = .ok (.iconst 0, 1) := by decide +kernel
theorem dX7_nextOnWay_1 : decode cX7_nextOnWay 1 = .ok (.istore 4, 2) := by decide +kernel
theorem dX7_nextOnWay_3 : decode cX7_nextOnWay 3 = .ok (.iload 4, 2) := by decide +kernel
theorem dX7_nextOnWay_5 : decode cX7_nextOnWay 5 = .ok (.aload_n 0, 1) := by decide +kernel
theorem dX7_nextOnWay_6 : decode cX7_nextOnWay 6 = .ok (.getfield 21, 3) := by decide +kernel
theorem dX7_nextOnWay_9 : decode cX7_nextOnWay 9 = .ok (.getfield 52, 3) := by decide +kernel
theorem dX7_nextOnWay_12 : decode cX7_nextOnWay 12 = .ok (.getfield 56, 3) := by decide +kernel
theorem dX7_nextOnWay_15 : decode cX7_nextOnWay 15 = .ok (.if_icmp .ge 44, 3) := by decide +kernel
theorem dX7_nextOnWay_18 : decode cX7_nextOnWay 18 = .ok (.aload_n 0, 1) := by decide +kernel
theorem dX7_nextOnWay_19 : decode cX7_nextOnWay 19 = .ok (.getfield 21, 3) := by decide +kernel
theorem dX7_nextOnWay_22 : decode cX7_nextOnWay 22 = .ok (.getfield 82, 3) := by decide +kernel
theorem dX7_nextOnWay_25 : decode cX7_nextOnWay 25 = .ok (.iload_n 1, 1) := by decide +kernel
theorem dX7_nextOnWay_26 : decode cX7_nextOnWay 26 = .ok (.iaload, 1) := by decide +kernel
theorem dX7_nextOnWay_27 : decode cX7_nextOnWay 27 = .ok (.iload 4, 2) := by decide +kernel
theorem dX7_nextOnWay_29 : decode cX7_nextOnWay 29 = .ok (.ishr, 1) := by decide +kernel
theorem dX7_nextOnWay_30 : decode cX7_nextOnWay 30 = .ok (.iconst 1, 1) := by decide +kernel
theorem dX7_nextOnWay_31 : decode cX7_nextOnWay 31 = .ok (.iand, 1) := by decide +kernel
theorem dX7_nextOnWay_32 : decode cX7_nextOnWay 32 = .ok (.iconst 1, 1) := by decide +kernel
theorem dX7_nextOnWay_33 : decode cX7_nextOnWay 33 = .ok (.if_icmp .ne 20, 3) := by decide +kernel
theorem dX7_nextOnWay_36 : decode cX7_nextOnWay 36 = .ok (.aload_n 0, 1) := by decide +kernel
theorem dX7_nextOnWay_37 : decode cX7_nextOnWay 37 = .ok (.getfield 21, 3) := by decide +kernel
theorem dX7_nextOnWay_40 : decode cX7_nextOnWay 40 = .ok (.iload 4, 2) := by decide +kernel
theorem dX7_nextOnWay_42 : decode cX7_nextOnWay 42 = .ok (.iload_n 2, 1) := by decide +kernel
theorem dX7_nextOnWay_43 : decode cX7_nextOnWay 43 = .ok (.invokevirtual 25, 3) := by decide +kernel
theorem dX7_nextOnWay_46 : decode cX7_nextOnWay 46 = .ok (.iload_n 3, 1) := by decide +kernel
theorem dX7_nextOnWay_47 : decode cX7_nextOnWay 47 = .ok (.if_icmp .ne 6, 3) := by decide +kernel
theorem dX7_nextOnWay_50 : decode cX7_nextOnWay 50 = .ok (.iload 4, 2) := by decide +kernel
theorem dX7_nextOnWay_52 : decode cX7_nextOnWay 52 = .ok (.ireturn, 1) := by decide +kernel
theorem dX7_nextOnWay_53 : decode cX7_nextOnWay 53 = .ok (.iinc 4 1, 3) := by decide +kernel
theorem dX7_nextOnWay_56 : decode cX7_nextOnWay 56 = .ok (.goto (-53), 3) := by decide +kernel
theorem dX7_nextOnWay_59 : decode cX7_nextOnWay 59 = .ok (.iload_n 1, 1) := by decide +kernel
theorem dX7_nextOnWay_60 : decode cX7_nextOnWay 60 = .ok (.ireturn, 1) := by decide +kernel
theorem dX7_layWay_0 : decode cX7_layWay 0 = .ok (.aload_n 0, 1) := by decide +kernel
theorem dX7_layWay_1 : decode cX7_layWay 1 = .ok (.getfield 21, 3) := by decide +kernel
theorem dX7_layWay_4 : decode cX7_layWay 4 = .ok (.iload_n 1, 1) := by decide +kernel
theorem dX7_layWay_5 : decode cX7_layWay 5 = .ok (.iload_n 2, 1) := by decide +kernel
theorem dX7_layWay_6 : decode cX7_layWay 6 = .ok (.invokevirtual 25, 3) := by decide +kernel
theorem dX7_layWay_9 : decode cX7_layWay 9 = .ok (.istore_n 3, 1) := by decide +kernel
theorem dX7_layWay_10 : decode cX7_layWay 10 = .ok (.iload_n 3, 1) := by decide +kernel
theorem dX7_layWay_11 : decode cX7_layWay 11 = .ok (.iconst (-1), 1) := by decide +kernel
theorem dX7_layWay_12 : decode cX7_layWay 12 = .ok (.if_icmp .ne 5, 3) := by decide +kernel
theorem dX7_layWay_15 : decode cX7_layWay 15 = .ok (.iconst (-1), 1) := by decide +kernel
theorem dX7_layWay_16 : decode cX7_layWay 16 = .ok (.ireturn, 1) := by decide +kernel
theorem dX7_layWay_17 : decode cX7_layWay 17 = .ok (.aload_n 0, 1) := by decide +kernel
theorem dX7_layWay_18 : decode cX7_layWay 18 = .ok (.iload_n 1, 1) := by decide +kernel
theorem dX7_layWay_19 : decode cX7_layWay 19 = .ok (.invokevirtual 31, 3) := by decide +kernel
theorem dX7_layWay_22 : decode cX7_layWay 22 = .ok (.iload_n 1, 1) := by decide +kernel
theorem dX7_layWay_23 : decode cX7_layWay 23 = .ok (.istore 4, 2) := by decide +kernel
theorem dX7_layWay_25 : decode cX7_layWay 25 = .ok (.iload_n 3, 1) := by decide +kernel
theorem dX7_layWay_26 : decode cX7_layWay 26 = .ok (.iconst 1, 1) := by decide +kernel
theorem dX7_layWay_27 : decode cX7_layWay 27 = .ok (.isub, 1) := by decide +kernel
theorem dX7_layWay_28 : decode cX7_layWay 28 = .ok (.istore 5, 2) := by decide +kernel
theorem dX7_layWay_30 : decode cX7_layWay 30 = .ok (.iload 5, 2) := by decide +kernel
theorem dX7_layWay_32 : decode cX7_layWay 32 = .ok (.ifCond .lt 26, 3) := by decide +kernel
theorem dX7_layWay_35 : decode cX7_layWay 35 = .ok (.aload_n 0, 1) := by decide +kernel
theorem dX7_layWay_36 : decode cX7_layWay 36 = .ok (.iload 4, 2) := by decide +kernel
theorem dX7_layWay_38 : decode cX7_layWay 38 = .ok (.iload_n 2, 1) := by decide +kernel
theorem dX7_layWay_39 : decode cX7_layWay 39 = .ok (.iload 5, 2) := by decide +kernel
theorem dX7_layWay_41 : decode cX7_layWay 41 = .ok (.invokevirtual 35, 3) := by decide +kernel
theorem dX7_layWay_44 : decode cX7_layWay 44 = .ok (.istore 4, 2) := by decide +kernel
theorem dX7_layWay_46 : decode cX7_layWay 46 = .ok (.aload_n 0, 1) := by decide +kernel
theorem dX7_layWay_47 : decode cX7_layWay 47 = .ok (.iload 4, 2) := by decide +kernel
theorem dX7_layWay_49 : decode cX7_layWay 49 = .ok (.invokevirtual 31, 3) := by decide +kernel
theorem dX7_layWay_52 : decode cX7_layWay 52 = .ok (.iinc 5 (-1), 3) := by decide +kernel
theorem dX7_layWay_55 : decode cX7_layWay 55 = .ok (.goto (-25), 3) := by decide +kernel
theorem dX7_layWay_58 : decode cX7_layWay 58 = .ok (.iload_n 3, 1) := by decide +kernel
theorem dX7_layWay_59 : decode cX7_layWay 59 = .ok (.ireturn, 1) := by decide +kernel
theorem dX7_costBy_0 : decode cX7_costBy 0 = .ok (.iload_n 1, 1) := by decide +kernel
theorem dX7_costBy_1 : decode cX7_costBy 1 = .ok (.iload_n 2, 1) := by decide +kernel
theorem dX7_costBy_2 : decode cX7_costBy 2 = .ok (.if_icmp .ne 8, 3) := by decide +kernel
theorem dX7_costBy_5 : decode cX7_costBy 5 = .ok (.ldc 85, 2) := by decide +kernel
theorem dX7_costBy_7 : decode cX7_costBy 7 = .ok (.goto 27, 3) := by decide +kernel
theorem dX7_costBy_10 : decode cX7_costBy 10 = .ok (.aload_n 0, 1) := by decide +kernel
theorem dX7_costBy_11 : decode cX7_costBy 11 = .ok (.getfield 15, 3) := by decide +kernel
theorem dX7_costBy_14 : decode cX7_costBy 14 = .ok (.iload_n 2, 1) := by decide +kernel
theorem dX7_costBy_15 : decode cX7_costBy 15 = .ok (.iaload, 1) := by decide +kernel
theorem dX7_costBy_16 : decode cX7_costBy 16 = .ok (.aload_n 0, 1) := by decide +kernel
theorem dX7_costBy_17 : decode cX7_costBy 17 = .ok (.getfield 21, 3) := by decide +kernel
theorem dX7_costBy_20 : decode cX7_costBy 20 = .ok (.getfield 52, 3) := by decide +kernel
theorem dX7_costBy_23 : decode cX7_costBy 23 = .ok (.getfield 94, 3) := by decide +kernel
theorem dX7_costBy_26 : decode cX7_costBy 26 = .ok (.iload_n 2, 1) := by decide +kernel
theorem dX7_costBy_27 : decode cX7_costBy 27 = .ok (.iaload, 1) := by decide +kernel
theorem dX7_costBy_28 : decode cX7_costBy 28 = .ok (.bipush 16, 2) := by decide +kernel
theorem dX7_costBy_30 : decode cX7_costBy 30 = .ok (.imul, 1) := by decide +kernel
theorem dX7_costBy_31 : decode cX7_costBy 31 = .ok (.iadd, 1) := by decide +kernel
theorem dX7_costBy_32 : decode cX7_costBy 32 = .ok (.iconst 1, 1) := by decide +kernel
theorem dX7_costBy_33 : decode cX7_costBy 33 = .ok (.iadd, 1) := by decide +kernel
theorem dX7_costBy_34 : decode cX7_costBy 34 = .ok (.ireturn, 1) := by decide +kernel
theorem dX7_nextOnQuiet_0 : decode cX7_nextOnQuiet 0 = .ok (.iload_n 1, 1) := by decide +kernel
theorem dX7_nextOnQuiet_1 : decode cX7_nextOnQuiet 1 = .ok (.istore_n 2, 1) := by decide +kernel
theorem dX7_nextOnQuiet_2 : decode cX7_nextOnQuiet 2 = .ok (.ldc 85, 2) := by decide +kernel
theorem dX7_nextOnQuiet_4 : decode cX7_nextOnQuiet 4 = .ok (.istore_n 3, 1) := by decide +kernel
theorem dX7_nextOnQuiet_5 : decode cX7_nextOnQuiet 5 = .ok (.iconst 0, 1) := by decide +kernel
theorem dX7_nextOnQuiet_6 : decode cX7_nextOnQuiet 6 = .ok (.istore 4, 2) := by decide +kernel
theorem dX7_nextOnQuiet_8 : decode cX7_nextOnQuiet 8 = .ok (.iload 4, 2) := by decide +kernel
theorem dX7_nextOnQuiet_10 : decode cX7_nextOnQuiet 10 = .ok (.aload_n 0, 1) := by decide +kernel
theorem dX7_nextOnQuiet_11 : decode cX7_nextOnQuiet 11 = .ok (.getfield 21, 3) := by decide +kernel
theorem dX7_nextOnQuiet_14 : decode cX7_nextOnQuiet 14 = .ok (.getfield 52, 3) := by decide +kernel
theorem dX7_nextOnQuiet_17 : decode cX7_nextOnQuiet 17 = .ok (.getfield 56, 3) := by decide +kernel
theorem dX7_nextOnQuiet_20 : decode cX7_nextOnQuiet 20 = .ok (.if_icmp .ge 49, 3) := by decide +kernel
theorem dX7_nextOnQuiet_23 : decode cX7_nextOnQuiet 23 = .ok (.aload_n 0, 1) := by decide +kernel
theorem dX7_nextOnQuiet_24 : decode cX7_nextOnQuiet 24 = .ok (.getfield 21, 3) := by decide +kernel
theorem dX7_nextOnQuiet_27 : decode cX7_nextOnQuiet 27 = .ok (.getfield 82, 3) := by decide +kernel
theorem dX7_nextOnQuiet_30 : decode cX7_nextOnQuiet 30 = .ok (.iload_n 1, 1) := by decide +kernel
theorem dX7_nextOnQuiet_31 : decode cX7_nextOnQuiet 31 = .ok (.iaload, 1) := by decide +kernel
theorem dX7_nextOnQuiet_32 : decode cX7_nextOnQuiet 32 = .ok (.iload 4, 2) := by decide +kernel
theorem dX7_nextOnQuiet_34 : decode cX7_nextOnQuiet 34 = .ok (.ishr, 1) := by decide +kernel
theorem dX7_nextOnQuiet_35 : decode cX7_nextOnQuiet 35 = .ok (.iconst 1, 1) := by decide +kernel
theorem dX7_nextOnQuiet_36 : decode cX7_nextOnQuiet 36 = .ok (.iand, 1) := by decide +kernel
theorem dX7_nextOnQuiet_37 : decode cX7_nextOnQuiet 37 = .ok (.iconst 1, 1) := by decide +kernel
theorem dX7_nextOnQuiet_38 : decode cX7_nextOnQuiet 38 = .ok (.if_icmp .ne 25, 3) := by decide +kernel
theorem dX7_nextOnQuiet_41 : decode cX7_nextOnQuiet 41 = .ok (.aload_n 0, 1) := by decide +kernel
theorem dX7_nextOnQuiet_42 : decode cX7_nextOnQuiet 42 = .ok (.iload_n 1, 1) := by decide +kernel
theorem dX7_nextOnQuiet_43 : decode cX7_nextOnQuiet 43 = .ok (.iload 4, 2) := by decide +kernel
theorem dX7_nextOnQuiet_45 : decode cX7_nextOnQuiet 45 = .ok (.invokevirtual 86, 3) := by decide +kernel
theorem dX7_nextOnQuiet_48 : decode cX7_nextOnQuiet 48 = .ok (.iload_n 3, 1) := by decide +kernel
theorem dX7_nextOnQuiet_49 : decode cX7_nextOnQuiet 49 = .ok (.if_icmp .ge 14, 3) := by decide +kernel
theorem dX7_nextOnQuiet_52 : decode cX7_nextOnQuiet 52 = .ok (.aload_n 0, 1) := by decide +kernel
theorem dX7_nextOnQuiet_53 : decode cX7_nextOnQuiet 53 = .ok (.iload_n 1, 1) := by decide +kernel
theorem dX7_nextOnQuiet_54 : decode cX7_nextOnQuiet 54 = .ok (.iload 4, 2) := by decide +kernel
theorem dX7_nextOnQuiet_56 : decode cX7_nextOnQuiet 56 = .ok (.invokevirtual 86, 3) := by decide +kernel
theorem dX7_nextOnQuiet_59 : decode cX7_nextOnQuiet 59 = .ok (.istore_n 3, 1) := by decide +kernel
theorem dX7_nextOnQuiet_60 : decode cX7_nextOnQuiet 60 = .ok (.iload 4, 2) := by decide +kernel
theorem dX7_nextOnQuiet_62 : decode cX7_nextOnQuiet 62 = .ok (.istore_n 2, 1) := by decide +kernel
theorem dX7_nextOnQuiet_63 : decode cX7_nextOnQuiet 63 = .ok (.iinc 4 1, 3) := by decide +kernel
theorem dX7_nextOnQuiet_66 : decode cX7_nextOnQuiet 66 = .ok (.goto (-58), 3) := by decide +kernel
theorem dX7_nextOnQuiet_69 : decode cX7_nextOnQuiet 69 = .ok (.iload_n 2, 1) := by decide +kernel
theorem dX7_nextOnQuiet_70 : decode cX7_nextOnQuiet 70 = .ok (.ireturn, 1) := by decide +kernel
theorem dX7_costTo_0 : decode cX7_costTo 0 = .ok (.aload_n 0, 1) := by decide +kernel
theorem dX7_costTo_1 : decode cX7_costTo 1 = .ok (.getfield 15, 3) := by decide +kernel
theorem dX7_costTo_4 : decode cX7_costTo 4 = .ok (.ldc 85, 2) := by decide +kernel
theorem dX7_costTo_6 : decode cX7_costTo 6 = .ok (.invokestatic 46, 3) := by decide +kernel
theorem dX7_costTo_9 : decode cX7_costTo 9 = .ok (.aload_n 0, 1) := by decide +kernel
theorem dX7_costTo_10 : decode cX7_costTo 10 = .ok (.getfield 15, 3) := by decide +kernel
theorem dX7_costTo_13 : decode cX7_costTo 13 = .ok (.iload_n 1, 1) := by decide +kernel
theorem dX7_costTo_14 : decode cX7_costTo 14 = .ok (.iconst 0, 1) := by decide +kernel
theorem dX7_costTo_15 : decode cX7_costTo 15 = .ok (.iastore, 1) := by decide +kernel
theorem dX7_costTo_16 : decode cX7_costTo 16 = .ok (.iconst 0, 1) := by decide +kernel
theorem dX7_costTo_17 : decode cX7_costTo 17 = .ok (.istore_n 2, 1) := by decide +kernel
theorem dX7_costTo_18 : decode cX7_costTo 18 = .ok (.iload_n 2, 1) := by decide +kernel
theorem dX7_costTo_19 : decode cX7_costTo 19 = .ok (.bipush 8, 2) := by decide +kernel
theorem dX7_costTo_21 : decode cX7_costTo 21 = .ok (.if_icmp .ge 61, 3) := by decide +kernel
theorem dX7_costTo_24 : decode cX7_costTo 24 = .ok (.iconst 0, 1) := by decide +kernel
theorem dX7_costTo_25 : decode cX7_costTo 25 = .ok (.istore_n 3, 1) := by decide +kernel
theorem dX7_costTo_26 : decode cX7_costTo 26 = .ok (.iload_n 3, 1) := by decide +kernel
theorem dX7_costTo_27 : decode cX7_costTo 27 = .ok (.aload_n 0, 1) := by decide +kernel
theorem dX7_costTo_28 : decode cX7_costTo 28 = .ok (.getfield 21, 3) := by decide +kernel
theorem dX7_costTo_31 : decode cX7_costTo 31 = .ok (.getfield 52, 3) := by decide +kernel
theorem dX7_costTo_34 : decode cX7_costTo 34 = .ok (.getfield 56, 3) := by decide +kernel
theorem dX7_costTo_37 : decode cX7_costTo 37 = .ok (.if_icmp .ge 39, 3) := by decide +kernel
theorem dX7_costTo_40 : decode cX7_costTo 40 = .ok (.iload_n 3, 1) := by decide +kernel
theorem dX7_costTo_41 : decode cX7_costTo 41 = .ok (.iload_n 1, 1) := by decide +kernel
theorem dX7_costTo_42 : decode cX7_costTo 42 = .ok (.if_icmp .eq 28, 3) := by decide +kernel
theorem dX7_costTo_45 : decode cX7_costTo 45 = .ok (.aload_n 0, 1) := by decide +kernel
theorem dX7_costTo_46 : decode cX7_costTo 46 = .ok (.getfield 15, 3) := by decide +kernel
theorem dX7_costTo_49 : decode cX7_costTo 49 = .ok (.iload_n 3, 1) := by decide +kernel
theorem dX7_costTo_50 : decode cX7_costTo 50 = .ok (.aload_n 0, 1) := by decide +kernel
theorem dX7_costTo_51 : decode cX7_costTo 51 = .ok (.getfield 15, 3) := by decide +kernel
theorem dX7_costTo_54 : decode cX7_costTo 54 = .ok (.iload_n 3, 1) := by decide +kernel
theorem dX7_costTo_55 : decode cX7_costTo 55 = .ok (.iaload, 1) := by decide +kernel
theorem dX7_costTo_56 : decode cX7_costTo 56 = .ok (.aload_n 0, 1) := by decide +kernel
theorem dX7_costTo_57 : decode cX7_costTo 57 = .ok (.iload_n 3, 1) := by decide +kernel
theorem dX7_costTo_58 : decode cX7_costTo 58 = .ok (.aload_n 0, 1) := by decide +kernel
theorem dX7_costTo_59 : decode cX7_costTo 59 = .ok (.iload_n 3, 1) := by decide +kernel
theorem dX7_costTo_60 : decode cX7_costTo 60 = .ok (.invokevirtual 42, 3) := by decide +kernel
theorem dX7_costTo_63 : decode cX7_costTo 63 = .ok (.invokevirtual 86, 3) := by decide +kernel
theorem dX7_costTo_66 : decode cX7_costTo 66 = .ok (.invokestatic 89, 3) := by decide +kernel
theorem dX7_costTo_69 : decode cX7_costTo 69 = .ok (.iastore, 1) := by decide +kernel
theorem dX7_costTo_70 : decode cX7_costTo 70 = .ok (.iinc 3 1, 3) := by decide +kernel
theorem dX7_costTo_73 : decode cX7_costTo 73 = .ok (.goto (-47), 3) := by decide +kernel
theorem dX7_costTo_76 : decode cX7_costTo 76 = .ok (.iinc 2 1, 3) := by decide +kernel
theorem dX7_costTo_79 : decode cX7_costTo 79 = .ok (.goto (-61), 3) := by decide +kernel
theorem dX7_costTo_82 : decode cX7_costTo 82 = .ok (.return_, 1) := by decide +kernel
theorem dX7_layQuiet_0 : decode cX7_layQuiet 0 = .ok (.aload_n 0, 1) := by decide +kernel
theorem dX7_layQuiet_1 : decode cX7_layQuiet 1 = .ok (.getfield 21, 3) := by decide +kernel
theorem dX7_layQuiet_4 : decode cX7_layQuiet 4 = .ok (.iload_n 1, 1) := by decide +kernel
theorem dX7_layQuiet_5 : decode cX7_layQuiet 5 = .ok (.iload_n 2, 1) := by decide +kernel
theorem dX7_layQuiet_6 : decode cX7_layQuiet 6 = .ok (.invokevirtual 25, 3) := by decide +kernel
theorem dX7_layQuiet_9 : decode cX7_layQuiet 9 = .ok (.iconst (-1), 1) := by decide +kernel
theorem dX7_layQuiet_10 : decode cX7_layQuiet 10 = .ok (.if_icmp .ne 5, 3) := by decide +kernel
theorem dX7_layQuiet_13 : decode cX7_layQuiet 13 = .ok (.iconst (-1), 1) := by decide +kernel
theorem dX7_layQuiet_14 : decode cX7_layQuiet 14 = .ok (.ireturn, 1) := by decide +kernel
theorem dX7_layQuiet_15 : decode cX7_layQuiet 15 = .ok (.aload_n 0, 1) := by decide +kernel
theorem dX7_layQuiet_16 : decode cX7_layQuiet 16 = .ok (.iload_n 2, 1) := by decide +kernel
theorem dX7_layQuiet_17 : decode cX7_layQuiet 17 = .ok (.invokevirtual 39, 3) := by decide +kernel
theorem dX7_layQuiet_20 : decode cX7_layQuiet 20 = .ok (.aload_n 0, 1) := by decide +kernel
theorem dX7_layQuiet_21 : decode cX7_layQuiet 21 = .ok (.iload_n 1, 1) := by decide +kernel
theorem dX7_layQuiet_22 : decode cX7_layQuiet 22 = .ok (.invokevirtual 31, 3) := by decide +kernel
theorem dX7_layQuiet_25 : decode cX7_layQuiet 25 = .ok (.iload_n 1, 1) := by decide +kernel
theorem dX7_layQuiet_26 : decode cX7_layQuiet 26 = .ok (.istore_n 3, 1) := by decide +kernel
theorem dX7_layQuiet_27 : decode cX7_layQuiet 27 = .ok (.iconst 0, 1) := by decide +kernel
theorem dX7_layQuiet_28 : decode cX7_layQuiet 28 = .ok (.istore 4, 2) := by decide +kernel
theorem dX7_layQuiet_30 : decode cX7_layQuiet 30 = .ok (.iload 4, 2) := by decide +kernel
theorem dX7_layQuiet_32 : decode cX7_layQuiet 32 = .ok (.bipush 8, 2) := by decide +kernel
theorem dX7_layQuiet_34 : decode cX7_layQuiet 34 = .ok (.if_icmp .ge 25, 3) := by decide +kernel
theorem dX7_layQuiet_37 : decode cX7_layQuiet 37 = .ok (.iload_n 3, 1) := by decide +kernel
theorem dX7_layQuiet_38 : decode cX7_layQuiet 38 = .ok (.iload_n 2, 1) := by decide +kernel
theorem dX7_layQuiet_39 : decode cX7_layQuiet 39 = .ok (.if_icmp .eq 20, 3) := by decide +kernel
theorem dX7_layQuiet_42 : decode cX7_layQuiet 42 = .ok (.aload_n 0, 1) := by decide +kernel
theorem dX7_layQuiet_43 : decode cX7_layQuiet 43 = .ok (.iload_n 3, 1) := by decide +kernel
theorem dX7_layQuiet_44 : decode cX7_layQuiet 44 = .ok (.invokevirtual 42, 3) := by decide +kernel
theorem dX7_layQuiet_47 : decode cX7_layQuiet 47 = .ok (.istore_n 3, 1) := by decide +kernel
theorem dX7_layQuiet_48 : decode cX7_layQuiet 48 = .ok (.aload_n 0, 1) := by decide +kernel
theorem dX7_layQuiet_49 : decode cX7_layQuiet 49 = .ok (.iload_n 3, 1) := by decide +kernel
theorem dX7_layQuiet_50 : decode cX7_layQuiet 50 = .ok (.invokevirtual 31, 3) := by decide +kernel
theorem dX7_layQuiet_53 : decode cX7_layQuiet 53 = .ok (.iinc 4 1, 3) := by decide +kernel
theorem dX7_layQuiet_56 : decode cX7_layQuiet 56 = .ok (.goto (-26), 3) := by decide +kernel
theorem dX7_layQuiet_59 : decode cX7_layQuiet 59 = .ok (.aload_n 0, 1) := by decide +kernel
theorem dX7_layQuiet_60 : decode cX7_layQuiet 60 = .ok (.getfield 15, 3) := by decide +kernel
theorem dX7_layQuiet_63 : decode cX7_layQuiet 63 = .ok (.iload_n 1, 1) := by decide +kernel
theorem dX7_layQuiet_64 : decode cX7_layQuiet 64 = .ok (.iaload, 1) := by decide +kernel
theorem dX7_layQuiet_65 : decode cX7_layQuiet 65 = .ok (.bipush 16, 2) := by decide +kernel
theorem dX7_layQuiet_67 : decode cX7_layQuiet 67 = .ok (.idiv, 1) := by decide +kernel
theorem dX7_layQuiet_68 : decode cX7_layQuiet 68 = .ok (.ireturn, 1) := by decide +kernel
theorem dX7_waysInto_0 : decode cX7_waysInto 0 = .ok (.iconst 0, 1) := by decide +kernel
theorem dX7_waysInto_1 : decode cX7_waysInto 1 = .ok (.istore_n 3, 1) := by decide +kernel
theorem dX7_waysInto_2 : decode cX7_waysInto 2 = .ok (.iconst 0, 1) := by decide +kernel
theorem dX7_waysInto_3 : decode cX7_waysInto 3 = .ok (.istore 4, 2) := by decide +kernel
theorem dX7_waysInto_5 : decode cX7_waysInto 5 = .ok (.iload 4, 2) := by decide +kernel
theorem dX7_waysInto_7 : decode cX7_waysInto 7 = .ok (.aload_n 0, 1) := by decide +kernel
theorem dX7_waysInto_8 : decode cX7_waysInto 8 = .ok (.getfield 21, 3) := by decide +kernel
theorem dX7_waysInto_11 : decode cX7_waysInto 11 = .ok (.getfield 52, 3) := by decide +kernel
theorem dX7_waysInto_14 : decode cX7_waysInto 14 = .ok (.getfield 56, 3) := by decide +kernel
theorem dX7_waysInto_17 : decode cX7_waysInto 17 = .ok (.if_icmp .ge 73, 3) := by decide +kernel
theorem dX7_waysInto_20 : decode cX7_waysInto 20 = .ok (.aload_n 0, 1) := by decide +kernel
theorem dX7_waysInto_21 : decode cX7_waysInto 21 = .ok (.getfield 21, 3) := by decide +kernel
theorem dX7_waysInto_24 : decode cX7_waysInto 24 = .ok (.iload_n 1, 1) := by decide +kernel
theorem dX7_waysInto_25 : decode cX7_waysInto 25 = .ok (.iload 4, 2) := by decide +kernel
theorem dX7_waysInto_27 : decode cX7_waysInto 27 = .ok (.invokevirtual 25, 3) := by decide +kernel
theorem dX7_waysInto_30 : decode cX7_waysInto 30 = .ok (.aload_n 0, 1) := by decide +kernel
theorem dX7_waysInto_31 : decode cX7_waysInto 31 = .ok (.getfield 21, 3) := by decide +kernel
theorem dX7_waysInto_34 : decode cX7_waysInto 34 = .ok (.iload_n 1, 1) := by decide +kernel
theorem dX7_waysInto_35 : decode cX7_waysInto 35 = .ok (.iload_n 2, 1) := by decide +kernel
theorem dX7_waysInto_36 : decode cX7_waysInto 36 = .ok (.invokevirtual 25, 3) := by decide +kernel
theorem dX7_waysInto_39 : decode cX7_waysInto 39 = .ok (.iconst 1, 1) := by decide +kernel
theorem dX7_waysInto_40 : decode cX7_waysInto 40 = .ok (.isub, 1) := by decide +kernel
theorem dX7_waysInto_41 : decode cX7_waysInto 41 = .ok (.if_icmp .ne 7, 3) := by decide +kernel
theorem dX7_waysInto_44 : decode cX7_waysInto 44 = .ok (.iconst 1, 1) := by decide +kernel
theorem dX7_waysInto_45 : decode cX7_waysInto 45 = .ok (.goto 4, 3) := by decide +kernel
theorem dX7_waysInto_48 : decode cX7_waysInto 48 = .ok (.iconst 0, 1) := by decide +kernel
theorem dX7_waysInto_49 : decode cX7_waysInto 49 = .ok (.istore 5, 2) := by decide +kernel
theorem dX7_waysInto_51 : decode cX7_waysInto 51 = .ok (.iload 5, 2) := by decide +kernel
theorem dX7_waysInto_53 : decode cX7_waysInto 53 = .ok (.ifCond .eq 31, 3) := by decide +kernel
theorem dX7_waysInto_56 : decode cX7_waysInto 56 = .ok (.aload_n 0, 1) := by decide +kernel
theorem dX7_waysInto_57 : decode cX7_waysInto 57 = .ok (.getfield 21, 3) := by decide +kernel
theorem dX7_waysInto_60 : decode cX7_waysInto 60 = .ok (.getfield 82, 3) := by decide +kernel
theorem dX7_waysInto_63 : decode cX7_waysInto 63 = .ok (.iload_n 2, 1) := by decide +kernel
theorem dX7_waysInto_64 : decode cX7_waysInto 64 = .ok (.iaload, 1) := by decide +kernel
theorem dX7_waysInto_65 : decode cX7_waysInto 65 = .ok (.iload 4, 2) := by decide +kernel
theorem dX7_waysInto_67 : decode cX7_waysInto 67 = .ok (.ishr, 1) := by decide +kernel
theorem dX7_waysInto_68 : decode cX7_waysInto 68 = .ok (.iconst 1, 1) := by decide +kernel
theorem dX7_waysInto_69 : decode cX7_waysInto 69 = .ok (.iand, 1) := by decide +kernel
theorem dX7_waysInto_70 : decode cX7_waysInto 70 = .ok (.iconst 1, 1) := by decide +kernel
theorem dX7_waysInto_71 : decode cX7_waysInto 71 = .ok (.if_icmp .ne 13, 3) := by decide +kernel
theorem dX7_waysInto_74 : decode cX7_waysInto 74 = .ok (.iload_n 3, 1) := by decide +kernel
theorem dX7_waysInto_75 : decode cX7_waysInto 75 = .ok (.aload_n 0, 1) := by decide +kernel
theorem dX7_waysInto_76 : decode cX7_waysInto 76 = .ok (.getfield 15, 3) := by decide +kernel
theorem dX7_waysInto_79 : decode cX7_waysInto 79 = .ok (.iload 4, 2) := by decide +kernel
theorem dX7_waysInto_81 : decode cX7_waysInto 81 = .ok (.iaload, 1) := by decide +kernel
theorem dX7_waysInto_82 : decode cX7_waysInto 82 = .ok (.iadd, 1) := by decide +kernel
theorem dX7_waysInto_83 : decode cX7_waysInto 83 = .ok (.istore_n 3, 1) := by decide +kernel
theorem dX7_waysInto_84 : decode cX7_waysInto 84 = .ok (.iinc 4 1, 3) := by decide +kernel
theorem dX7_waysInto_87 : decode cX7_waysInto 87 = .ok (.goto (-82), 3) := by decide +kernel
theorem dX7_waysInto_90 : decode cX7_waysInto 90 = .ok (.iload_n 3, 1) := by decide +kernel
theorem dX7_waysInto_91 : decode cX7_waysInto 91 = .ok (.ireturn, 1) := by decide +kernel
theorem dX7_countWays_0 : decode cX7_countWays 0 = .ok (.aload_n 0, 1) := by decide +kernel
theorem dX7_countWays_1 : decode cX7_countWays 1 = .ok (.getfield 21, 3) := by decide +kernel
theorem dX7_countWays_4 : decode cX7_countWays 4 = .ok (.iload_n 1, 1) := by decide +kernel
theorem dX7_countWays_5 : decode cX7_countWays 5 = .ok (.iload_n 2, 1) := by decide +kernel
theorem dX7_countWays_6 : decode cX7_countWays 6 = .ok (.invokevirtual 25, 3) := by decide +kernel
theorem dX7_countWays_9 : decode cX7_countWays 9 = .ok (.iconst (-1), 1) := by decide +kernel
theorem dX7_countWays_10 : decode cX7_countWays 10 = .ok (.if_icmp .ne 5, 3) := by decide +kernel
theorem dX7_countWays_13 : decode cX7_countWays 13 = .ok (.iconst (-1), 1) := by decide +kernel
theorem dX7_countWays_14 : decode cX7_countWays 14 = .ok (.ireturn, 1) := by decide +kernel
theorem dX7_countWays_15 : decode cX7_countWays 15 = .ok (.aload_n 0, 1) := by decide +kernel
theorem dX7_countWays_16 : decode cX7_countWays 16 = .ok (.getfield 15, 3) := by decide +kernel
theorem dX7_countWays_19 : decode cX7_countWays 19 = .ok (.iconst 0, 1) := by decide +kernel
theorem dX7_countWays_20 : decode cX7_countWays 20 = .ok (.invokestatic 46, 3) := by decide +kernel
theorem dX7_countWays_23 : decode cX7_countWays 23 = .ok (.aload_n 0, 1) := by decide +kernel
theorem dX7_countWays_24 : decode cX7_countWays 24 = .ok (.getfield 15, 3) := by decide +kernel
theorem dX7_countWays_27 : decode cX7_countWays 27 = .ok (.iload_n 1, 1) := by decide +kernel
theorem dX7_countWays_28 : decode cX7_countWays 28 = .ok (.iconst 1, 1) := by decide +kernel
theorem dX7_countWays_29 : decode cX7_countWays 29 = .ok (.iastore, 1) := by decide +kernel
theorem dX7_countWays_30 : decode cX7_countWays 30 = .ok (.iconst 1, 1) := by decide +kernel
theorem dX7_countWays_31 : decode cX7_countWays 31 = .ok (.istore_n 3, 1) := by decide +kernel
theorem dX7_countWays_32 : decode cX7_countWays 32 = .ok (.iload_n 3, 1) := by decide +kernel
theorem dX7_countWays_33 : decode cX7_countWays 33 = .ok (.aload_n 0, 1) := by decide +kernel
theorem dX7_countWays_34 : decode cX7_countWays 34 = .ok (.getfield 21, 3) := by decide +kernel
theorem dX7_countWays_37 : decode cX7_countWays 37 = .ok (.iload_n 1, 1) := by decide +kernel
theorem dX7_countWays_38 : decode cX7_countWays 38 = .ok (.iload_n 2, 1) := by decide +kernel
theorem dX7_countWays_39 : decode cX7_countWays 39 = .ok (.invokevirtual 25, 3) := by decide +kernel
theorem dX7_countWays_42 : decode cX7_countWays 42 = .ok (.if_icmp .gt 61, 3) := by decide +kernel
theorem dX7_countWays_45 : decode cX7_countWays 45 = .ok (.iconst 0, 1) := by decide +kernel
theorem dX7_countWays_46 : decode cX7_countWays 46 = .ok (.istore 4, 2) := by decide +kernel
theorem dX7_countWays_48 : decode cX7_countWays 48 = .ok (.iload 4, 2) := by decide +kernel
theorem dX7_countWays_50 : decode cX7_countWays 50 = .ok (.aload_n 0, 1) := by decide +kernel
theorem dX7_countWays_51 : decode cX7_countWays 51 = .ok (.getfield 21, 3) := by decide +kernel
theorem dX7_countWays_54 : decode cX7_countWays 54 = .ok (.getfield 52, 3) := by decide +kernel
theorem dX7_countWays_57 : decode cX7_countWays 57 = .ok (.getfield 56, 3) := by decide +kernel
theorem dX7_countWays_60 : decode cX7_countWays 60 = .ok (.if_icmp .ge 37, 3) := by decide +kernel
theorem dX7_countWays_63 : decode cX7_countWays 63 = .ok (.aload_n 0, 1) := by decide +kernel
theorem dX7_countWays_64 : decode cX7_countWays 64 = .ok (.getfield 21, 3) := by decide +kernel
theorem dX7_countWays_67 : decode cX7_countWays 67 = .ok (.iload_n 1, 1) := by decide +kernel
theorem dX7_countWays_68 : decode cX7_countWays 68 = .ok (.iload 4, 2) := by decide +kernel
theorem dX7_countWays_70 : decode cX7_countWays 70 = .ok (.invokevirtual 25, 3) := by decide +kernel
theorem dX7_countWays_73 : decode cX7_countWays 73 = .ok (.iload_n 3, 1) := by decide +kernel
theorem dX7_countWays_74 : decode cX7_countWays 74 = .ok (.if_icmp .ne 17, 3) := by decide +kernel
theorem dX7_countWays_77 : decode cX7_countWays 77 = .ok (.aload_n 0, 1) := by decide +kernel
theorem dX7_countWays_78 : decode cX7_countWays 78 = .ok (.getfield 15, 3) := by decide +kernel
theorem dX7_countWays_81 : decode cX7_countWays 81 = .ok (.iload 4, 2) := by decide +kernel
theorem dX7_countWays_83 : decode cX7_countWays 83 = .ok (.aload_n 0, 1) := by decide +kernel
theorem dX7_countWays_84 : decode cX7_countWays 84 = .ok (.iload_n 1, 1) := by decide +kernel
theorem dX7_countWays_85 : decode cX7_countWays 85 = .ok (.iload 4, 2) := by decide +kernel
theorem dX7_countWays_87 : decode cX7_countWays 87 = .ok (.invokevirtual 62, 3) := by decide +kernel
theorem dX7_countWays_90 : decode cX7_countWays 90 = .ok (.iastore, 1) := by decide +kernel
theorem dX7_countWays_91 : decode cX7_countWays 91 = .ok (.iinc 4 1, 3) := by decide +kernel
theorem dX7_countWays_94 : decode cX7_countWays 94 = .ok (.goto (-46), 3) := by decide +kernel
theorem dX7_countWays_97 : decode cX7_countWays 97 = .ok (.iinc 3 1, 3) := by decide +kernel
theorem dX7_countWays_100 : decode cX7_countWays 100 = .ok (.goto (-68), 3) := by decide +kernel
theorem dX7_countWays_103 : decode cX7_countWays 103 = .ok (.aload_n 0, 1) := by decide +kernel
theorem dX7_countWays_104 : decode cX7_countWays 104 = .ok (.getfield 15, 3) := by decide +kernel
theorem dX7_countWays_107 : decode cX7_countWays 107 = .ok (.iload_n 2, 1) := by decide +kernel
theorem dX7_countWays_108 : decode cX7_countWays 108 = .ok (.iaload, 1) := by decide +kernel
theorem dX7_countWays_109 : decode cX7_countWays 109 = .ok (.ireturn, 1) := by decide +kernel
theorem dX7_tourBy_0 : decode cX7_tourBy 0 = .ok (.aload_n 0, 1) := by decide +kernel
theorem dX7_tourBy_1 : decode cX7_tourBy 1 = .ok (.getfield 21, 3) := by decide +kernel
theorem dX7_tourBy_4 : decode cX7_tourBy 4 = .ok (.iload_n 1, 1) := by decide +kernel
theorem dX7_tourBy_5 : decode cX7_tourBy 5 = .ok (.iload_n 2, 1) := by decide +kernel
theorem dX7_tourBy_6 : decode cX7_tourBy 6 = .ok (.invokevirtual 25, 3) := by decide +kernel
theorem dX7_tourBy_9 : decode cX7_tourBy 9 = .ok (.aload_n 0, 1) := by decide +kernel
theorem dX7_tourBy_10 : decode cX7_tourBy 10 = .ok (.getfield 18, 3) := by decide +kernel
theorem dX7_tourBy_13 : decode cX7_tourBy 13 = .ok (.iload_n 3, 1) := by decide +kernel
theorem dX7_tourBy_14 : decode cX7_tourBy 14 = .ok (.iconst 1, 1) := by decide +kernel
theorem dX7_tourBy_15 : decode cX7_tourBy 15 = .ok (.iload_n 2, 1) := by decide +kernel
theorem dX7_tourBy_16 : decode cX7_tourBy 16 = .ok (.ishl, 1) := by decide +kernel
theorem dX7_tourBy_17 : decode cX7_tourBy 17 = .ok (.iconst (-1), 1) := by decide +kernel
theorem dX7_tourBy_18 : decode cX7_tourBy 18 = .ok (.ixor, 1) := by decide +kernel
theorem dX7_tourBy_19 : decode cX7_tourBy 19 = .ok (.iand, 1) := by decide +kernel
theorem dX7_tourBy_20 : decode cX7_tourBy 20 = .ok (.bipush 8, 2) := by decide +kernel
theorem dX7_tourBy_22 : decode cX7_tourBy 22 = .ok (.imul, 1) := by decide +kernel
theorem dX7_tourBy_23 : decode cX7_tourBy 23 = .ok (.iload_n 2, 1) := by decide +kernel
theorem dX7_tourBy_24 : decode cX7_tourBy 24 = .ok (.iadd, 1) := by decide +kernel
theorem dX7_tourBy_25 : decode cX7_tourBy 25 = .ok (.iaload, 1) := by decide +kernel
theorem dX7_tourBy_26 : decode cX7_tourBy 26 = .ok (.iadd, 1) := by decide +kernel
theorem dX7_tourBy_27 : decode cX7_tourBy 27 = .ok (.ireturn, 1) := by decide +kernel
theorem dX7_nextOnTour_0 : decode cX7_nextOnTour 0 = .ok (.iload_n 1, 1) := by decide +kernel
theorem dX7_nextOnTour_1 : decode cX7_nextOnTour 1 = .ok (.istore_n 3, 1) := by decide +kernel
theorem dX7_nextOnTour_2 : decode cX7_nextOnTour 2 = .ok (.ldc 85, 2) := by decide +kernel
theorem dX7_nextOnTour_4 : decode cX7_nextOnTour 4 = .ok (.istore 4, 2) := by decide +kernel
theorem dX7_nextOnTour_6 : decode cX7_nextOnTour 6 = .ok (.iconst 0, 1) := by decide +kernel
theorem dX7_nextOnTour_7 : decode cX7_nextOnTour 7 = .ok (.istore 5, 2) := by decide +kernel
theorem dX7_nextOnTour_9 : decode cX7_nextOnTour 9 = .ok (.iload 5, 2) := by decide +kernel
theorem dX7_nextOnTour_11 : decode cX7_nextOnTour 11 = .ok (.aload_n 0, 1) := by decide +kernel
theorem dX7_nextOnTour_12 : decode cX7_nextOnTour 12 = .ok (.getfield 21, 3) := by decide +kernel
theorem dX7_nextOnTour_15 : decode cX7_nextOnTour 15 = .ok (.getfield 52, 3) := by decide +kernel
theorem dX7_nextOnTour_18 : decode cX7_nextOnTour 18 = .ok (.getfield 56, 3) := by decide +kernel
theorem dX7_nextOnTour_21 : decode cX7_nextOnTour 21 = .ok (.if_icmp .ge 45, 3) := by decide +kernel
theorem dX7_nextOnTour_24 : decode cX7_nextOnTour 24 = .ok (.iload_n 2, 1) := by decide +kernel
theorem dX7_nextOnTour_25 : decode cX7_nextOnTour 25 = .ok (.iload 5, 2) := by decide +kernel
theorem dX7_nextOnTour_27 : decode cX7_nextOnTour 27 = .ok (.ishr, 1) := by decide +kernel
theorem dX7_nextOnTour_28 : decode cX7_nextOnTour 28 = .ok (.iconst 1, 1) := by decide +kernel
theorem dX7_nextOnTour_29 : decode cX7_nextOnTour 29 = .ok (.iand, 1) := by decide +kernel
theorem dX7_nextOnTour_30 : decode cX7_nextOnTour 30 = .ok (.iconst 1, 1) := by decide +kernel
theorem dX7_nextOnTour_31 : decode cX7_nextOnTour 31 = .ok (.if_icmp .ne 29, 3) := by decide +kernel
theorem dX7_nextOnTour_34 : decode cX7_nextOnTour 34 = .ok (.aload_n 0, 1) := by decide +kernel
theorem dX7_nextOnTour_35 : decode cX7_nextOnTour 35 = .ok (.iload_n 1, 1) := by decide +kernel
theorem dX7_nextOnTour_36 : decode cX7_nextOnTour 36 = .ok (.iload 5, 2) := by decide +kernel
theorem dX7_nextOnTour_38 : decode cX7_nextOnTour 38 = .ok (.iload_n 2, 1) := by decide +kernel
theorem dX7_nextOnTour_39 : decode cX7_nextOnTour 39 = .ok (.invokevirtual 97, 3) := by decide +kernel
theorem dX7_nextOnTour_42 : decode cX7_nextOnTour 42 = .ok (.iload 4, 2) := by decide +kernel
theorem dX7_nextOnTour_44 : decode cX7_nextOnTour 44 = .ok (.if_icmp .ge 16, 3) := by decide +kernel
theorem dX7_nextOnTour_47 : decode cX7_nextOnTour 47 = .ok (.aload_n 0, 1) := by decide +kernel
theorem dX7_nextOnTour_48 : decode cX7_nextOnTour 48 = .ok (.iload_n 1, 1) := by decide +kernel
theorem dX7_nextOnTour_49 : decode cX7_nextOnTour 49 = .ok (.iload 5, 2) := by decide +kernel
theorem dX7_nextOnTour_51 : decode cX7_nextOnTour 51 = .ok (.iload_n 2, 1) := by decide +kernel
theorem dX7_nextOnTour_52 : decode cX7_nextOnTour 52 = .ok (.invokevirtual 97, 3) := by decide +kernel
theorem dX7_nextOnTour_55 : decode cX7_nextOnTour 55 = .ok (.istore 4, 2) := by decide +kernel
theorem dX7_nextOnTour_57 : decode cX7_nextOnTour 57 = .ok (.iload 5, 2) := by decide +kernel
theorem dX7_nextOnTour_59 : decode cX7_nextOnTour 59 = .ok (.istore_n 3, 1) := by decide +kernel
theorem dX7_nextOnTour_60 : decode cX7_nextOnTour 60 = .ok (.iinc 5 1, 3) := by decide +kernel
theorem dX7_nextOnTour_63 : decode cX7_nextOnTour 63 = .ok (.goto (-54), 3) := by decide +kernel
theorem dX7_nextOnTour_66 : decode cX7_nextOnTour 66 = .ok (.iload_n 3, 1) := by decide +kernel
theorem dX7_nextOnTour_67 : decode cX7_nextOnTour 67 = .ok (.ireturn, 1) := by decide +kernel
theorem dX7_measureTours_0 : decode cX7_measureTours 0 = .ok (.iconst 0, 1) := by decide +kernel
theorem dX7_measureTours_1 : decode cX7_measureTours 1 = .ok (.istore_n 3, 1) := by decide +kernel
theorem dX7_measureTours_2 : decode cX7_measureTours 2 = .ok (.iload_n 3, 1) := by decide +kernel
theorem dX7_measureTours_3 : decode cX7_measureTours 3 = .ok (.aload_n 0, 1) := by decide +kernel
theorem dX7_measureTours_4 : decode cX7_measureTours 4 = .ok (.getfield 21, 3) := by decide +kernel
theorem dX7_measureTours_7 : decode cX7_measureTours 7 = .ok (.getfield 52, 3) := by decide +kernel
theorem dX7_measureTours_10 : decode cX7_measureTours 10 = .ok (.getfield 56, 3) := by decide +kernel
theorem dX7_measureTours_13 : decode cX7_measureTours 13 = .ok (.if_icmp .ge 49, 3) := by decide +kernel
theorem dX7_measureTours_16 : decode cX7_measureTours 16 = .ok (.iload_n 2, 1) := by decide +kernel
theorem dX7_measureTours_17 : decode cX7_measureTours 17 = .ok (.iload_n 3, 1) := by decide +kernel
theorem dX7_measureTours_18 : decode cX7_measureTours 18 = .ok (.ishr, 1) := by decide +kernel
theorem dX7_measureTours_19 : decode cX7_measureTours 19 = .ok (.iconst 1, 1) := by decide +kernel
theorem dX7_measureTours_20 : decode cX7_measureTours 20 = .ok (.iand, 1) := by decide +kernel
theorem dX7_measureTours_21 : decode cX7_measureTours 21 = .ok (.iconst 1, 1) := by decide +kernel
theorem dX7_measureTours_22 : decode cX7_measureTours 22 = .ok (.if_icmp .ne 34, 3) := by decide +kernel
theorem dX7_measureTours_25 : decode cX7_measureTours 25 = .ok (.aload_n 0, 1) := by decide +kernel
theorem dX7_measureTours_26 : decode cX7_measureTours 26 = .ok (.getfield 18, 3) := by decide +kernel
theorem dX7_measureTours_29 : decode cX7_measureTours 29 = .ok (.iload_n 1, 1) := by decide +kernel
theorem dX7_measureTours_30 : decode cX7_measureTours 30 = .ok (.bipush 8, 2) := by decide +kernel
theorem dX7_measureTours_32 : decode cX7_measureTours 32 = .ok (.imul, 1) := by decide +kernel
theorem dX7_measureTours_33 : decode cX7_measureTours 33 = .ok (.iload_n 3, 1) := by decide +kernel
theorem dX7_measureTours_34 : decode cX7_measureTours 34 = .ok (.iadd, 1) := by decide +kernel
theorem dX7_measureTours_35 : decode cX7_measureTours 35 = .ok (.iload_n 1, 1) := by decide +kernel
theorem dX7_measureTours_36 : decode cX7_measureTours 36 = .ok (.ifCond .ne 7, 3) := by decide +kernel
theorem dX7_measureTours_39 : decode cX7_measureTours 39 = .ok (.iconst 0, 1) := by decide +kernel
theorem dX7_measureTours_40 : decode cX7_measureTours 40 = .ok (.goto 15, 3) := by decide +kernel
theorem dX7_measureTours_43 : decode cX7_measureTours 43 = .ok (.aload_n 0, 1) := by decide +kernel
theorem dX7_measureTours_44 : decode cX7_measureTours 44 = .ok (.iload_n 3, 1) := by decide +kernel
theorem dX7_measureTours_45 : decode cX7_measureTours 45 = .ok (.aload_n 0, 1) := by decide +kernel
theorem dX7_measureTours_46 : decode cX7_measureTours 46 = .ok (.iload_n 3, 1) := by decide +kernel
theorem dX7_measureTours_47 : decode cX7_measureTours 47 = .ok (.iload_n 1, 1) := by decide +kernel
theorem dX7_measureTours_48 : decode cX7_measureTours 48 = .ok (.invokevirtual 76, 3) := by decide +kernel
theorem dX7_measureTours_51 : decode cX7_measureTours 51 = .ok (.iload_n 1, 1) := by decide +kernel
theorem dX7_measureTours_52 : decode cX7_measureTours 52 = .ok (.invokevirtual 97, 3) := by decide +kernel
theorem dX7_measureTours_55 : decode cX7_measureTours 55 = .ok (.iastore, 1) := by decide +kernel
theorem dX7_measureTours_56 : decode cX7_measureTours 56 = .ok (.iinc 3 1, 3) := by decide +kernel
theorem dX7_measureTours_59 : decode cX7_measureTours 59 = .ok (.goto (-57), 3) := by decide +kernel
theorem dX7_measureTours_62 : decode cX7_measureTours 62 = .ok (.return_, 1) := by decide +kernel
theorem dX7_layTour_0 : decode cX7_layTour 0 = .ok (.iload_n 2, 1) := by decide +kernel
theorem dX7_layTour_1 : decode cX7_layTour 1 = .ok (.aload_n 0, 1) := by decide +kernel
theorem dX7_layTour_2 : decode cX7_layTour 2 = .ok (.getfield 21, 3) := by decide +kernel
theorem dX7_layTour_5 : decode cX7_layTour 5 = .ok (.iload_n 1, 1) := by decide +kernel
theorem dX7_layTour_6 : decode cX7_layTour 6 = .ok (.aload_n 0, 1) := by decide +kernel
theorem dX7_layTour_7 : decode cX7_layTour 7 = .ok (.getfield 21, 3) := by decide +kernel
theorem dX7_layTour_10 : decode cX7_layTour 10 = .ok (.invokevirtual 65, 3) := by decide +kernel
theorem dX7_layTour_13 : decode cX7_layTour 13 = .ok (.invokevirtual 69, 3) := by decide +kernel
theorem dX7_layTour_16 : decode cX7_layTour 16 = .ok (.iconst (-1), 1) := by decide +kernel
theorem dX7_layTour_17 : decode cX7_layTour 17 = .ok (.ixor, 1) := by decide +kernel
theorem dX7_layTour_18 : decode cX7_layTour 18 = .ok (.iand, 1) := by decide +kernel
theorem dX7_layTour_19 : decode cX7_layTour 19 = .ok (.ifCond .eq 5, 3) := by decide +kernel
theorem dX7_layTour_22 : decode cX7_layTour 22 = .ok (.iconst (-1), 1) := by decide +kernel
theorem dX7_layTour_23 : decode cX7_layTour 23 = .ok (.ireturn, 1) := by decide +kernel
theorem dX7_layTour_24 : decode cX7_layTour 24 = .ok (.iconst 0, 1) := by decide +kernel
theorem dX7_layTour_25 : decode cX7_layTour 25 = .ok (.istore_n 3, 1) := by decide +kernel
theorem dX7_layTour_26 : decode cX7_layTour 26 = .ok (.iload_n 3, 1) := by decide +kernel
theorem dX7_layTour_27 : decode cX7_layTour 27 = .ok (.iload_n 2, 1) := by decide +kernel
theorem dX7_layTour_28 : decode cX7_layTour 28 = .ok (.if_icmp .gt 27, 3) := by decide +kernel
theorem dX7_layTour_31 : decode cX7_layTour 31 = .ok (.iload_n 3, 1) := by decide +kernel
theorem dX7_layTour_32 : decode cX7_layTour 32 = .ok (.iload_n 2, 1) := by decide +kernel
theorem dX7_layTour_33 : decode cX7_layTour 33 = .ok (.iconst (-1), 1) := by decide +kernel
theorem dX7_layTour_34 : decode cX7_layTour 34 = .ok (.ixor, 1) := by decide +kernel
theorem dX7_layTour_35 : decode cX7_layTour 35 = .ok (.iand, 1) := by decide +kernel
theorem dX7_layTour_36 : decode cX7_layTour 36 = .ok (.ifCond .ne 13, 3) := by decide +kernel
theorem dX7_layTour_39 : decode cX7_layTour 39 = .ok (.aload_n 0, 1) := by decide +kernel
theorem dX7_layTour_40 : decode cX7_layTour 40 = .ok (.iload_n 3, 1) := by decide +kernel
theorem dX7_layTour_41 : decode cX7_layTour 41 = .ok (.iload_n 2, 1) := by decide +kernel
theorem dX7_layTour_42 : decode cX7_layTour 42 = .ok (.iconst 1, 1) := by decide +kernel
theorem dX7_layTour_43 : decode cX7_layTour 43 = .ok (.iload_n 1, 1) := by decide +kernel
theorem dX7_layTour_44 : decode cX7_layTour 44 = .ok (.ishl, 1) := by decide +kernel
theorem dX7_layTour_45 : decode cX7_layTour 45 = .ok (.ior, 1) := by decide +kernel
theorem dX7_layTour_46 : decode cX7_layTour 46 = .ok (.invokevirtual 72, 3) := by decide +kernel
theorem dX7_layTour_49 : decode cX7_layTour 49 = .ok (.iinc 3 1, 3) := by decide +kernel
theorem dX7_layTour_52 : decode cX7_layTour 52 = .ok (.goto (-26), 3) := by decide +kernel
theorem dX7_layTour_55 : decode cX7_layTour 55 = .ok (.iload_n 1, 1) := by decide +kernel
theorem dX7_layTour_56 : decode cX7_layTour 56 = .ok (.istore_n 3, 1) := by decide +kernel
theorem dX7_layTour_57 : decode cX7_layTour 57 = .ok (.iload_n 2, 1) := by decide +kernel
theorem dX7_layTour_58 : decode cX7_layTour 58 = .ok (.istore 4, 2) := by decide +kernel
theorem dX7_layTour_60 : decode cX7_layTour 60 = .ok (.iconst 0, 1) := by decide +kernel
theorem dX7_layTour_61 : decode cX7_layTour 61 = .ok (.istore 5, 2) := by decide +kernel
theorem dX7_layTour_63 : decode cX7_layTour 63 = .ok (.iload 5, 2) := by decide +kernel
theorem dX7_layTour_65 : decode cX7_layTour 65 = .ok (.bipush 8, 2) := by decide +kernel
theorem dX7_layTour_67 : decode cX7_layTour 67 = .ok (.if_icmp .ge 37, 3) := by decide +kernel
theorem dX7_layTour_70 : decode cX7_layTour 70 = .ok (.iload 4, 2) := by decide +kernel
theorem dX7_layTour_72 : decode cX7_layTour 72 = .ok (.ifCond .eq 32, 3) := by decide +kernel
theorem dX7_layTour_75 : decode cX7_layTour 75 = .ok (.aload_n 0, 1) := by decide +kernel
theorem dX7_layTour_76 : decode cX7_layTour 76 = .ok (.iload_n 3, 1) := by decide +kernel
theorem dX7_layTour_77 : decode cX7_layTour 77 = .ok (.iload 4, 2) := by decide +kernel
theorem dX7_layTour_79 : decode cX7_layTour 79 = .ok (.invokevirtual 76, 3) := by decide +kernel
theorem dX7_layTour_82 : decode cX7_layTour 82 = .ok (.istore_n 3, 1) := by decide +kernel
theorem dX7_layTour_83 : decode cX7_layTour 83 = .ok (.iload 4, 2) := by decide +kernel
theorem dX7_layTour_85 : decode cX7_layTour 85 = .ok (.iconst 1, 1) := by decide +kernel
theorem dX7_layTour_86 : decode cX7_layTour 86 = .ok (.iload_n 3, 1) := by decide +kernel
theorem dX7_layTour_87 : decode cX7_layTour 87 = .ok (.ishl, 1) := by decide +kernel
theorem dX7_layTour_88 : decode cX7_layTour 88 = .ok (.iconst (-1), 1) := by decide +kernel
theorem dX7_layTour_89 : decode cX7_layTour 89 = .ok (.ixor, 1) := by decide +kernel
theorem dX7_layTour_90 : decode cX7_layTour 90 = .ok (.iand, 1) := by decide +kernel
theorem dX7_layTour_91 : decode cX7_layTour 91 = .ok (.istore 4, 2) := by decide +kernel
theorem dX7_layTour_93 : decode cX7_layTour 93 = .ok (.aload_n 0, 1) := by decide +kernel
theorem dX7_layTour_94 : decode cX7_layTour 94 = .ok (.iload_n 3, 1) := by decide +kernel
theorem dX7_layTour_95 : decode cX7_layTour 95 = .ok (.invokevirtual 31, 3) := by decide +kernel
theorem dX7_layTour_98 : decode cX7_layTour 98 = .ok (.iinc 5 1, 3) := by decide +kernel
theorem dX7_layTour_101 : decode cX7_layTour 101 = .ok (.goto (-38), 3) := by decide +kernel
theorem dX7_layTour_104 : decode cX7_layTour 104 = .ok (.aload_n 0, 1) := by decide +kernel
theorem dX7_layTour_105 : decode cX7_layTour 105 = .ok (.getfield 18, 3) := by decide +kernel
theorem dX7_layTour_108 : decode cX7_layTour 108 = .ok (.iload_n 2, 1) := by decide +kernel
theorem dX7_layTour_109 : decode cX7_layTour 109 = .ok (.bipush 8, 2) := by decide +kernel
theorem dX7_layTour_111 : decode cX7_layTour 111 = .ok (.imul, 1) := by decide +kernel
theorem dX7_layTour_112 : decode cX7_layTour 112 = .ok (.iload_n 1, 1) := by decide +kernel
theorem dX7_layTour_113 : decode cX7_layTour 113 = .ok (.iadd, 1) := by decide +kernel
theorem dX7_layTour_114 : decode cX7_layTour 114 = .ok (.iaload, 1) := by decide +kernel
theorem dX7_layTour_115 : decode cX7_layTour 115 = .ok (.ireturn, 1) := by decide +kernel
theorem dX2_asksBy_0 : decode cX2_asksBy 0 = .ok (.iload_n 1, 1) := by decide +kernel
theorem dX2_asksBy_1 : decode cX2_asksBy 1 = .ok (.aload_n 0, 1) := by decide +kernel
theorem dX2_asksBy_2 : decode cX2_asksBy 2 = .ok (.getfield 15, 3) := by decide +kernel
theorem dX2_asksBy_5 : decode cX2_asksBy 5 = .ok (.getfield 47, 3) := by decide +kernel
theorem dX2_asksBy_8 : decode cX2_asksBy 8 = .ok (.iload_n 2, 1) := by decide +kernel
theorem dX2_asksBy_9 : decode cX2_asksBy 9 = .ok (.iaload, 1) := by decide +kernel
theorem dX2_asksBy_10 : decode cX2_asksBy 10 = .ok (.iand, 1) := by decide +kernel
theorem dX2_asksBy_11 : decode cX2_asksBy 11 = .ok (.istore_n 3, 1) := by decide +kernel
theorem dX2_asksBy_12 : decode cX2_asksBy 12 = .ok (.iload_n 1, 1) := by decide +kernel
theorem dX2_asksBy_13 : decode cX2_asksBy 13 = .ok (.iload_n 3, 1) := by decide +kernel
theorem dX2_asksBy_14 : decode cX2_asksBy 14 = .ok (.iconst (-1), 1) := by decide +kernel
theorem dX2_asksBy_15 : decode cX2_asksBy 15 = .ok (.ixor, 1) := by decide +kernel
theorem dX2_asksBy_16 : decode cX2_asksBy 16 = .ok (.iand, 1) := by decide +kernel
theorem dX2_asksBy_17 : decode cX2_asksBy 17 = .ok (.istore 4, 2) := by decide +kernel
theorem dX2_asksBy_19 : decode cX2_asksBy 19 = .ok (.aload_n 0, 1) := by decide +kernel
theorem dX2_asksBy_20 : decode cX2_asksBy 20 = .ok (.getfield 15, 3) := by decide +kernel
theorem dX2_asksBy_23 : decode cX2_asksBy 23 = .ok (.getfield 50, 3) := by decide +kernel
theorem dX2_asksBy_26 : decode cX2_asksBy 26 = .ok (.iload_n 2, 1) := by decide +kernel
theorem dX2_asksBy_27 : decode cX2_asksBy 27 = .ok (.ishr, 1) := by decide +kernel
theorem dX2_asksBy_28 : decode cX2_asksBy 28 = .ok (.iconst 1, 1) := by decide +kernel
theorem dX2_asksBy_29 : decode cX2_asksBy 29 = .ok (.iand, 1) := by decide +kernel
theorem dX2_asksBy_30 : decode cX2_asksBy 30 = .ok (.iconst 1, 1) := by decide +kernel
theorem dX2_asksBy_31 : decode cX2_asksBy 31 = .ok (.if_icmp .ne 16, 3) := by decide +kernel
theorem dX2_asksBy_34 : decode cX2_asksBy 34 = .ok (.iload_n 3, 1) := by decide +kernel
theorem dX2_asksBy_35 : decode cX2_asksBy 35 = .ok (.ifCond .eq 12, 3) := by decide +kernel
theorem dX2_asksBy_38 : decode cX2_asksBy 38 = .ok (.iload 4, 2) := by decide +kernel
theorem dX2_asksBy_40 : decode cX2_asksBy 40 = .ok (.ifCond .eq 7, 3) := by decide +kernel
theorem dX2_asksBy_43 : decode cX2_asksBy 43 = .ok (.iconst 1, 1) := by decide +kernel
theorem dX2_asksBy_44 : decode cX2_asksBy 44 = .ok (.goto 4, 3) := by decide +kernel
theorem dX2_asksBy_47 : decode cX2_asksBy 47 = .ok (.iconst 0, 1) := by decide +kernel
theorem dX2_asksBy_48 : decode cX2_asksBy 48 = .ok (.istore 5, 2) := by decide +kernel
theorem dX2_asksBy_50 : decode cX2_asksBy 50 = .ok (.iload 5, 2) := by decide +kernel
theorem dX2_asksBy_52 : decode cX2_asksBy 52 = .ok (.ifCond .eq 24, 3) := by decide +kernel
theorem dX2_asksBy_55 : decode cX2_asksBy 55 = .ok (.aload_n 0, 1) := by decide +kernel
theorem dX2_asksBy_56 : decode cX2_asksBy 56 = .ok (.getfield 9, 3) := by decide +kernel
theorem dX2_asksBy_59 : decode cX2_asksBy 59 = .ok (.iload_n 3, 1) := by decide +kernel
theorem dX2_asksBy_60 : decode cX2_asksBy 60 = .ok (.iaload, 1) := by decide +kernel
theorem dX2_asksBy_61 : decode cX2_asksBy 61 = .ok (.iconst (-1), 1) := by decide +kernel
theorem dX2_asksBy_62 : decode cX2_asksBy 62 = .ok (.if_icmp .eq 14, 3) := by decide +kernel
theorem dX2_asksBy_65 : decode cX2_asksBy 65 = .ok (.aload_n 0, 1) := by decide +kernel
theorem dX2_asksBy_66 : decode cX2_asksBy 66 = .ok (.getfield 9, 3) := by decide +kernel
theorem dX2_asksBy_69 : decode cX2_asksBy 69 = .ok (.iload 4, 2) := by decide +kernel
theorem dX2_asksBy_71 : decode cX2_asksBy 71 = .ok (.iaload, 1) := by decide +kernel
theorem dX2_asksBy_72 : decode cX2_asksBy 72 = .ok (.iconst (-1), 1) := by decide +kernel
theorem dX2_asksBy_73 : decode cX2_asksBy 73 = .ok (.if_icmp .ne 5, 3) := by decide +kernel
theorem dX2_asksBy_76 : decode cX2_asksBy 76 = .ok (.iconst (-1), 1) := by decide +kernel
theorem dX2_asksBy_77 : decode cX2_asksBy 77 = .ok (.ireturn, 1) := by decide +kernel
theorem dX2_asksBy_78 : decode cX2_asksBy 78 = .ok (.iconst 1, 1) := by decide +kernel
theorem dX2_asksBy_79 : decode cX2_asksBy 79 = .ok (.aload_n 0, 1) := by decide +kernel
theorem dX2_asksBy_80 : decode cX2_asksBy 80 = .ok (.getfield 9, 3) := by decide +kernel
theorem dX2_asksBy_83 : decode cX2_asksBy 83 = .ok (.iload_n 3, 1) := by decide +kernel
theorem dX2_asksBy_84 : decode cX2_asksBy 84 = .ok (.iaload, 1) := by decide +kernel
theorem dX2_asksBy_85 : decode cX2_asksBy 85 = .ok (.aload_n 0, 1) := by decide +kernel
theorem dX2_asksBy_86 : decode cX2_asksBy 86 = .ok (.getfield 9, 3) := by decide +kernel
theorem dX2_asksBy_89 : decode cX2_asksBy 89 = .ok (.iload 4, 2) := by decide +kernel
theorem dX2_asksBy_91 : decode cX2_asksBy 91 = .ok (.iaload, 1) := by decide +kernel
theorem dX2_asksBy_92 : decode cX2_asksBy 92 = .ok (.invokestatic 53, 3) := by decide +kernel
theorem dX2_asksBy_95 : decode cX2_asksBy 95 = .ok (.iadd, 1) := by decide +kernel
theorem dX2_asksBy_96 : decode cX2_asksBy 96 = .ok (.ireturn, 1) := by decide +kernel
theorem dX2_bestDoor_0 : decode cX2_bestDoor 0 = .ok (.iconst (-1), 1) := by decide +kernel
theorem dX2_bestDoor_1 : decode cX2_bestDoor 1 = .ok (.istore_n 2, 1) := by decide +kernel
theorem dX2_bestDoor_2 : decode cX2_bestDoor 2 = .ok (.iconst 0, 1) := by decide +kernel
theorem dX2_bestDoor_3 : decode cX2_bestDoor 3 = .ok (.istore_n 3, 1) := by decide +kernel
theorem dX2_bestDoor_4 : decode cX2_bestDoor 4 = .ok (.iload_n 3, 1) := by decide +kernel
theorem dX2_bestDoor_5 : decode cX2_bestDoor 5 = .ok (.aload_n 0, 1) := by decide +kernel
theorem dX2_bestDoor_6 : decode cX2_bestDoor 6 = .ok (.getfield 15, 3) := by decide +kernel
theorem dX2_bestDoor_9 : decode cX2_bestDoor 9 = .ok (.getfield 35, 3) := by decide +kernel
theorem dX2_bestDoor_12 : decode cX2_bestDoor 12 = .ok (.getfield 41, 3) := by decide +kernel
theorem dX2_bestDoor_15 : decode cX2_bestDoor 15 = .ok (.if_icmp .ge 41, 3) := by decide +kernel
theorem dX2_bestDoor_18 : decode cX2_bestDoor 18 = .ok (.aload_n 0, 1) := by decide +kernel
theorem dX2_bestDoor_19 : decode cX2_bestDoor 19 = .ok (.iload_n 1, 1) := by decide +kernel
theorem dX2_bestDoor_20 : decode cX2_bestDoor 20 = .ok (.iload_n 3, 1) := by decide +kernel
theorem dX2_bestDoor_21 : decode cX2_bestDoor 21 = .ok (.invokevirtual 28, 3) := by decide +kernel
theorem dX2_bestDoor_24 : decode cX2_bestDoor 24 = .ok (.istore 4, 2) := by decide +kernel
theorem dX2_bestDoor_26 : decode cX2_bestDoor 26 = .ok (.iload 4, 2) := by decide +kernel
theorem dX2_bestDoor_28 : decode cX2_bestDoor 28 = .ok (.iconst (-1), 1) := by decide +kernel
theorem dX2_bestDoor_29 : decode cX2_bestDoor 29 = .ok (.if_icmp .eq 21, 3) := by decide +kernel
theorem dX2_bestDoor_32 : decode cX2_bestDoor 32 = .ok (.iload_n 2, 1) := by decide +kernel
theorem dX2_bestDoor_33 : decode cX2_bestDoor 33 = .ok (.iconst (-1), 1) := by decide +kernel
theorem dX2_bestDoor_34 : decode cX2_bestDoor 34 = .ok (.if_icmp .eq 14, 3) := by decide +kernel
theorem dX2_bestDoor_37 : decode cX2_bestDoor 37 = .ok (.iload 4, 2) := by decide +kernel
theorem dX2_bestDoor_39 : decode cX2_bestDoor 39 = .ok (.aload_n 0, 1) := by decide +kernel
theorem dX2_bestDoor_40 : decode cX2_bestDoor 40 = .ok (.iload_n 1, 1) := by decide +kernel
theorem dX2_bestDoor_41 : decode cX2_bestDoor 41 = .ok (.iload_n 2, 1) := by decide +kernel
theorem dX2_bestDoor_42 : decode cX2_bestDoor 42 = .ok (.invokevirtual 28, 3) := by decide +kernel
theorem dX2_bestDoor_45 : decode cX2_bestDoor 45 = .ok (.if_icmp .ge 5, 3) := by decide +kernel
theorem dX2_bestDoor_48 : decode cX2_bestDoor 48 = .ok (.iload_n 3, 1) := by decide +kernel
theorem dX2_bestDoor_49 : decode cX2_bestDoor 49 = .ok (.istore_n 2, 1) := by decide +kernel
theorem dX2_bestDoor_50 : decode cX2_bestDoor 50 = .ok (.iinc 3 1, 3) := by decide +kernel
theorem dX2_bestDoor_53 : decode cX2_bestDoor 53 = .ok (.goto (-49), 3) := by decide +kernel
theorem dX2_bestDoor_56 : decode cX2_bestDoor 56 = .ok (.iload_n 2, 1) := by decide +kernel
theorem dX2_bestDoor_57 : decode cX2_bestDoor 57 = .ok (.ireturn, 1) := by decide +kernel
theorem dX2_fewestAsks_0 : decode cX2_fewestAsks 0 = .ok (.iconst 1, 1) := by decide +kernel
theorem dX2_fewestAsks_1 : decode cX2_fewestAsks 1 = .ok (.istore_n 2, 1) := by decide +kernel
theorem dX2_fewestAsks_2 : decode cX2_fewestAsks 2 = .ok (.iload_n 2, 1) := by decide +kernel
theorem dX2_fewestAsks_3 : decode cX2_fewestAsks 3 = .ok (.iload_n 1, 1) := by decide +kernel
theorem dX2_fewestAsks_4 : decode cX2_fewestAsks 4 = .ok (.if_icmp .gt 60, 3) := by decide +kernel
theorem dX2_fewestAsks_7 : decode cX2_fewestAsks 7 = .ok (.iload_n 2, 1) := by decide +kernel
theorem dX2_fewestAsks_8 : decode cX2_fewestAsks 8 = .ok (.iload_n 1, 1) := by decide +kernel
theorem dX2_fewestAsks_9 : decode cX2_fewestAsks 9 = .ok (.iconst (-1), 1) := by decide +kernel
theorem dX2_fewestAsks_10 : decode cX2_fewestAsks 10 = .ok (.ixor, 1) := by decide +kernel
theorem dX2_fewestAsks_11 : decode cX2_fewestAsks 11 = .ok (.iand, 1) := by decide +kernel
theorem dX2_fewestAsks_12 : decode cX2_fewestAsks 12 = .ok (.ifCond .ne 46, 3) := by decide +kernel
theorem dX2_fewestAsks_15 : decode cX2_fewestAsks 15 = .ok (.aload_n 0, 1) := by decide +kernel
theorem dX2_fewestAsks_16 : decode cX2_fewestAsks 16 = .ok (.iload_n 2, 1) := by decide +kernel
theorem dX2_fewestAsks_17 : decode cX2_fewestAsks 17 = .ok (.invokevirtual 19, 3) := by decide +kernel
theorem dX2_fewestAsks_20 : decode cX2_fewestAsks 20 = .ok (.istore_n 3, 1) := by decide +kernel
theorem dX2_fewestAsks_21 : decode cX2_fewestAsks 21 = .ok (.iload_n 2, 1) := by decide +kernel
theorem dX2_fewestAsks_22 : decode cX2_fewestAsks 22 = .ok (.invokestatic 23, 3) := by decide +kernel
theorem dX2_fewestAsks_25 : decode cX2_fewestAsks 25 = .ok (.iconst 1, 1) := by decide +kernel
theorem dX2_fewestAsks_26 : decode cX2_fewestAsks 26 = .ok (.if_icmp .ne 7, 3) := by decide +kernel
theorem dX2_fewestAsks_29 : decode cX2_fewestAsks 29 = .ok (.iconst 0, 1) := by decide +kernel
theorem dX2_fewestAsks_30 : decode cX2_fewestAsks 30 = .ok (.goto 4, 3) := by decide +kernel
theorem dX2_fewestAsks_33 : decode cX2_fewestAsks 33 = .ok (.iconst (-1), 1) := by decide +kernel
theorem dX2_fewestAsks_34 : decode cX2_fewestAsks 34 = .ok (.istore 4, 2) := by decide +kernel
theorem dX2_fewestAsks_36 : decode cX2_fewestAsks 36 = .ok (.aload_n 0, 1) := by decide +kernel
theorem dX2_fewestAsks_37 : decode cX2_fewestAsks 37 = .ok (.getfield 9, 3) := by decide +kernel
theorem dX2_fewestAsks_40 : decode cX2_fewestAsks 40 = .ok (.iload_n 2, 1) := by decide +kernel
theorem dX2_fewestAsks_41 : decode cX2_fewestAsks 41 = .ok (.iload_n 3, 1) := by decide +kernel
theorem dX2_fewestAsks_42 : decode cX2_fewestAsks 42 = .ok (.iconst (-1), 1) := by decide +kernel
theorem dX2_fewestAsks_43 : decode cX2_fewestAsks 43 = .ok (.if_icmp .ne 8, 3) := by decide +kernel
theorem dX2_fewestAsks_46 : decode cX2_fewestAsks 46 = .ok (.iload 4, 2) := by decide +kernel
theorem dX2_fewestAsks_48 : decode cX2_fewestAsks 48 = .ok (.goto 9, 3) := by decide +kernel
theorem dX2_fewestAsks_51 : decode cX2_fewestAsks 51 = .ok (.aload_n 0, 1) := by decide +kernel
theorem dX2_fewestAsks_52 : decode cX2_fewestAsks 52 = .ok (.iload_n 2, 1) := by decide +kernel
theorem dX2_fewestAsks_53 : decode cX2_fewestAsks 53 = .ok (.iload_n 3, 1) := by decide +kernel
theorem dX2_fewestAsks_54 : decode cX2_fewestAsks 54 = .ok (.invokevirtual 28, 3) := by decide +kernel
theorem dX2_fewestAsks_57 : decode cX2_fewestAsks 57 = .ok (.iastore, 1) := by decide +kernel
theorem dX2_fewestAsks_58 : decode cX2_fewestAsks 58 = .ok (.iinc 2 1, 3) := by decide +kernel
theorem dX2_fewestAsks_61 : decode cX2_fewestAsks 61 = .ok (.goto (-59), 3) := by decide +kernel
theorem dX2_fewestAsks_64 : decode cX2_fewestAsks 64 = .ok (.aload_n 0, 1) := by decide +kernel
theorem dX2_fewestAsks_65 : decode cX2_fewestAsks 65 = .ok (.getfield 9, 3) := by decide +kernel
theorem dX2_fewestAsks_68 : decode cX2_fewestAsks 68 = .ok (.iload_n 1, 1) := by decide +kernel
theorem dX2_fewestAsks_69 : decode cX2_fewestAsks 69 = .ok (.iaload, 1) := by decide +kernel
theorem dX2_fewestAsks_70 : decode cX2_fewestAsks 70 = .ok (.ireturn, 1) := by decide +kernel
theorem dX2_firstDoor_0 : decode cX2_firstDoor 0 = .ok (.aload_n 0, 1) := by decide +kernel
theorem dX2_firstDoor_1 : decode cX2_firstDoor 1 = .ok (.iload_n 1, 1) := by decide +kernel
theorem dX2_firstDoor_2 : decode cX2_firstDoor 2 = .ok (.invokevirtual 32, 3) := by decide +kernel
theorem dX2_firstDoor_5 : decode cX2_firstDoor 5 = .ok (.pop, 1) := by decide +kernel
theorem dX2_firstDoor_6 : decode cX2_firstDoor 6 = .ok (.aload_n 0, 1) := by decide +kernel
theorem dX2_firstDoor_7 : decode cX2_firstDoor 7 = .ok (.iload_n 1, 1) := by decide +kernel
theorem dX2_firstDoor_8 : decode cX2_firstDoor 8 = .ok (.invokevirtual 19, 3) := by decide +kernel
theorem dX2_firstDoor_11 : decode cX2_firstDoor 11 = .ok (.ireturn, 1) := by decide +kernel
theorem dX3_thingsWith_0 : decode cX3_thingsWith 0 = .ok (.iconst 0, 1) := by decide +kernel
theorem dX3_thingsWith_1 : decode cX3_thingsWith 1 = .ok (.istore_n 3, 1) := by decide +kernel
theorem dX3_thingsWith_2 : decode cX3_thingsWith 2 = .ok (.iconst 0, 1) := by decide +kernel
theorem dX3_thingsWith_3 : decode cX3_thingsWith 3 = .ok (.istore 4, 2) := by decide +kernel
theorem dX3_thingsWith_5 : decode cX3_thingsWith 5 = .ok (.iload 4, 2) := by decide +kernel
theorem dX3_thingsWith_7 : decode cX3_thingsWith 7 = .ok (.aload_n 0, 1) := by decide +kernel
theorem dX3_thingsWith_8 : decode cX3_thingsWith 8 = .ok (.getfield 30, 3) := by decide +kernel
theorem dX3_thingsWith_11 : decode cX3_thingsWith 11 = .ok (.getfield 34, 3) := by decide +kernel
theorem dX3_thingsWith_14 : decode cX3_thingsWith 14 = .ok (.getfield 40, 3) := by decide +kernel
theorem dX3_thingsWith_17 : decode cX3_thingsWith 17 = .ok (.if_icmp .ge 29, 3) := by decide +kernel
theorem dX3_thingsWith_20 : decode cX3_thingsWith 20 = .ok (.aload_n 0, 1) := by decide +kernel
theorem dX3_thingsWith_21 : decode cX3_thingsWith 21 = .ok (.getfield 11, 3) := by decide +kernel
theorem dX3_thingsWith_24 : decode cX3_thingsWith 24 = .ok (.iload_n 1, 1) := by decide +kernel
theorem dX3_thingsWith_25 : decode cX3_thingsWith 25 = .ok (.iload 4, 2) := by decide +kernel
theorem dX3_thingsWith_27 : decode cX3_thingsWith 27 = .ok (.iadd, 1) := by decide +kernel
theorem dX3_thingsWith_28 : decode cX3_thingsWith 28 = .ok (.iaload, 1) := by decide +kernel
theorem dX3_thingsWith_29 : decode cX3_thingsWith 29 = .ok (.iload_n 2, 1) := by decide +kernel
theorem dX3_thingsWith_30 : decode cX3_thingsWith 30 = .ok (.if_icmp .ne 10, 3) := by decide +kernel
theorem dX3_thingsWith_33 : decode cX3_thingsWith 33 = .ok (.iload_n 3, 1) := by decide +kernel
theorem dX3_thingsWith_34 : decode cX3_thingsWith 34 = .ok (.iconst 1, 1) := by decide +kernel
theorem dX3_thingsWith_35 : decode cX3_thingsWith 35 = .ok (.iload 4, 2) := by decide +kernel
theorem dX3_thingsWith_37 : decode cX3_thingsWith 37 = .ok (.ishl, 1) := by decide +kernel
theorem dX3_thingsWith_38 : decode cX3_thingsWith 38 = .ok (.ior, 1) := by decide +kernel
theorem dX3_thingsWith_39 : decode cX3_thingsWith 39 = .ok (.istore_n 3, 1) := by decide +kernel
theorem dX3_thingsWith_40 : decode cX3_thingsWith 40 = .ok (.iinc 4 1, 3) := by decide +kernel
theorem dX3_thingsWith_43 : decode cX3_thingsWith 43 = .ok (.goto (-38), 3) := by decide +kernel
theorem dX3_thingsWith_46 : decode cX3_thingsWith 46 = .ok (.iload_n 3, 1) := by decide +kernel
theorem dX3_thingsWith_47 : decode cX3_thingsWith 47 = .ok (.ireturn, 1) := by decide +kernel
theorem dX3_isRight_0 : decode cX3_isRight 0 = .ok (.aload_n 1, 1) := by decide +kernel
theorem dX3_isRight_1 : decode cX3_isRight 1 = .ok (.iconst 0, 1) := by decide +kernel
theorem dX3_isRight_2 : decode cX3_isRight 2 = .ok (.iload_n 2, 1) := by decide +kernel
theorem dX3_isRight_3 : decode cX3_isRight 3 = .ok (.iadd, 1) := by decide +kernel
theorem dX3_isRight_4 : decode cX3_isRight 4 = .ok (.iaload, 1) := by decide +kernel
theorem dX3_isRight_5 : decode cX3_isRight 5 = .ok (.aload_n 1, 1) := by decide +kernel
theorem dX3_isRight_6 : decode cX3_isRight 6 = .ok (.bipush 6, 2) := by decide +kernel
theorem dX3_isRight_8 : decode cX3_isRight 8 = .ok (.iload_n 2, 1) := by decide +kernel
theorem dX3_isRight_9 : decode cX3_isRight 9 = .ok (.iadd, 1) := by decide +kernel
theorem dX3_isRight_10 : decode cX3_isRight 10 = .ok (.iaload, 1) := by decide +kernel
theorem dX3_isRight_11 : decode cX3_isRight 11 = .ok (.if_icmp .ne 7, 3) := by decide +kernel
theorem dX3_isRight_14 : decode cX3_isRight 14 = .ok (.iconst 1, 1) := by decide +kernel
theorem dX3_isRight_15 : decode cX3_isRight 15 = .ok (.goto 4, 3) := by decide +kernel
theorem dX3_isRight_18 : decode cX3_isRight 18 = .ok (.iconst 0, 1) := by decide +kernel
theorem dX3_isRight_19 : decode cX3_isRight 19 = .ok (.ireturn, 1) := by decide +kernel
theorem dX3_rightThings_0 : decode cX3_rightThings 0 = .ok (.iconst 0, 1) := by decide +kernel
theorem dX3_rightThings_1 : decode cX3_rightThings 1 = .ok (.istore_n 2, 1) := by decide +kernel
theorem dX3_rightThings_2 : decode cX3_rightThings 2 = .ok (.iconst 0, 1) := by decide +kernel
theorem dX3_rightThings_3 : decode cX3_rightThings 3 = .ok (.istore_n 3, 1) := by decide +kernel
theorem dX3_rightThings_4 : decode cX3_rightThings 4 = .ok (.iload_n 3, 1) := by decide +kernel
theorem dX3_rightThings_5 : decode cX3_rightThings 5 = .ok (.aload_n 0, 1) := by decide +kernel
theorem dX3_rightThings_6 : decode cX3_rightThings 6 = .ok (.getfield 30, 3) := by decide +kernel
theorem dX3_rightThings_9 : decode cX3_rightThings 9 = .ok (.getfield 34, 3) := by decide +kernel
theorem dX3_rightThings_12 : decode cX3_rightThings 12 = .ok (.getfield 40, 3) := by decide +kernel
theorem dX3_rightThings_15 : decode cX3_rightThings 15 = .ok (.if_icmp .ge 24, 3) := by decide +kernel
theorem dX3_rightThings_18 : decode cX3_rightThings 18 = .ok (.aload_n 0, 1) := by decide +kernel
theorem dX3_rightThings_19 : decode cX3_rightThings 19 = .ok (.aload_n 1, 1) := by decide +kernel
theorem dX3_rightThings_20 : decode cX3_rightThings 20 = .ok (.iload_n 3, 1) := by decide +kernel
theorem dX3_rightThings_21 : decode cX3_rightThings 21 = .ok (.invokevirtual 61, 3) := by decide +kernel
theorem dX3_rightThings_24 : decode cX3_rightThings 24 = .ok (.ifCond .eq 9, 3) := by decide +kernel
theorem dX3_rightThings_27 : decode cX3_rightThings 27 = .ok (.iload_n 2, 1) := by decide +kernel
theorem dX3_rightThings_28 : decode cX3_rightThings 28 = .ok (.iconst 1, 1) := by decide +kernel
theorem dX3_rightThings_29 : decode cX3_rightThings 29 = .ok (.iload_n 3, 1) := by decide +kernel
theorem dX3_rightThings_30 : decode cX3_rightThings 30 = .ok (.ishl, 1) := by decide +kernel
theorem dX3_rightThings_31 : decode cX3_rightThings 31 = .ok (.ior, 1) := by decide +kernel
theorem dX3_rightThings_32 : decode cX3_rightThings 32 = .ok (.istore_n 2, 1) := by decide +kernel
theorem dX3_rightThings_33 : decode cX3_rightThings 33 = .ok (.iinc 3 1, 3) := by decide +kernel
theorem dX3_rightThings_36 : decode cX3_rightThings 36 = .ok (.goto (-32), 3) := by decide +kernel
theorem dX3_rightThings_39 : decode cX3_rightThings 39 = .ok (.iload_n 2, 1) := by decide +kernel
theorem dX3_rightThings_40 : decode cX3_rightThings 40 = .ok (.ireturn, 1) := by decide +kernel
set_option maxRecDepth 20000 in
theorem ggX1_work_X1_join : GoodIn wsX1_work wsX1_join := goodIn_r _ [8] (by decide +kernel) (by decide +kernel)
set_option maxRecDepth 20000 in
theorem gX1_work_X1_join : GoodIn wsX1_work (va_wsS RX1 30 yX1_join wsX1_join) := goodIn_app (goodIn_of _ (by decide +kernel)) ggX1_work_X1_join
set_option maxRecDepth 20000 in
theorem ggX7_nextOnWay_X0_farOf : GoodIn wsX7_nextOnWay wsX0_farOf := goodIn_r _ [9, 10, 16, 17, 18, 19, 20] (by decide +kernel) (by decide +kernel)
set_option maxRecDepth 20000 in
theorem gX7_nextOnWay_X0_farOf : GoodIn wsX7_nextOnWay (wsV RX7 25 RX0 yX0_farOf wsX0_farOf) := goodIn_app (goodIn_of _ (by decide +kernel)) ggX7_nextOnWay_X0_farOf
set_option maxRecDepth 20000 in
theorem ggX7_layWay_X0_farOf : GoodIn wsX7_layWay wsX0_farOf := goodIn_r _ [6, 7, 27, 28, 29, 30, 31] (by decide +kernel) (by decide +kernel)
set_option maxRecDepth 20000 in
theorem gX7_layWay_X0_farOf : GoodIn wsX7_layWay (wsV RX7 25 RX0 yX0_farOf wsX0_farOf) := goodIn_app (goodIn_of _ (by decide +kernel)) ggX7_layWay_X0_farOf
set_option maxRecDepth 20000 in
theorem ggX7_layWay_X7_lay : GoodIn wsX7_layWay wsX7_lay := goodIn_r _ [12, 13, 14, 22, 23, 24, 25, 26] (by decide +kernel) (by decide +kernel)
set_option maxRecDepth 20000 in
theorem gX7_layWay_X7_lay : GoodIn wsX7_layWay (wsV RX7 31 RX7 yX7_lay wsX7_lay) := goodIn_app (goodIn_of _ (by decide +kernel)) ggX7_layWay_X7_lay
set_option maxRecDepth 20000 in
theorem ggX7_layWay_X7_nextOnWay : GoodIn wsX7_layWay wsX7_nextOnWay := goodIn_r _ [18, 1, 19, 20, 21, 2, 3, 4, 5, 6, 7, 22, 23, 24, 25, 26, 27, 28, 29, 30, 31, 32, 33, 34, 35, 36, 37, 38, 39, 40, 41, 42, 43, 44, 45, 46, 47] (by decide +kernel) (by decide +kernel)
set_option maxRecDepth 20000 in
theorem gX7_layWay_X7_nextOnWay : GoodIn wsX7_layWay (wsV RX7 35 RX7 yX7_nextOnWay wsX7_nextOnWay) := goodIn_app (goodIn_of _ (by decide +kernel)) ggX7_layWay_X7_nextOnWay
set_option maxRecDepth 20000 in
theorem ggX7_nextOnQuiet_X7_costBy : GoodIn wsX7_nextOnQuiet wsX7_costBy := goodIn_r _ [10, 1, 11, 2, 3, 12, 13, 14, 15, 16, 17, 18, 19, 20, 21, 22, 23, 24, 25, 26, 27, 28, 29, 30, 31, 32, 33, 34, 35, 36, 37, 38] (by decide +kernel) (by decide +kernel)
set_option maxRecDepth 20000 in
theorem gX7_nextOnQuiet_X7_costBy : GoodIn wsX7_nextOnQuiet (wsV RX7 86 RX7 yX7_costBy wsX7_costBy) := goodIn_app (goodIn_of _ (by decide +kernel)) ggX7_nextOnQuiet_X7_costBy
set_option maxRecDepth 20000 in
theorem ggX7_costTo_J7_fill_53178 : GoodIn wsX7_costTo wsJ7_fill_53178 := goodIn_r _ [13] (by decide +kernel) (by decide +kernel)
set_option maxRecDepth 20000 in
theorem gX7_costTo_J7_fill_53178 : GoodIn wsX7_costTo (va_wsS RX7 46 yJ7_fill_53178 wsJ7_fill_53178) := goodIn_app (goodIn_of _ (by decide +kernel)) ggX7_costTo_J7_fill_53178
set_option maxRecDepth 20000 in
theorem ggX7_costTo_X7_costBy : GoodIn wsX7_costTo wsX7_costBy := goodIn_r _ [23, 2, 1, 3, 4, 24, 25, 26, 27, 28, 29, 30, 31, 32, 33, 34, 35, 36, 37, 38, 39, 40, 41, 42, 43, 44, 45, 46, 47, 48, 49, 50] (by decide +kernel) (by decide +kernel)
set_option maxRecDepth 20000 in
theorem gX7_costTo_X7_costBy : GoodIn wsX7_costTo (wsV RX7 86 RX7 yX7_costBy wsX7_costBy) := goodIn_app (goodIn_of _ (by decide +kernel)) ggX7_costTo_X7_costBy
set_option maxRecDepth 20000 in
theorem ggX7_costTo_X7_nextOnQuiet : GoodIn wsX7_costTo wsX7_nextOnQuiet := goodIn_r _ [18, 2, 3, 4, 5, 19, 20, 21, 22, 17, 23, 1, 24, 25, 26, 27, 28, 29, 30, 31, 32, 33, 34, 35, 36, 37, 38, 39, 40, 41, 42, 43, 44, 45, 46, 47, 48, 49, 50] (by decide +kernel) (by decide +kernel)
set_option maxRecDepth 20000 in
theorem gX7_costTo_X7_nextOnQuiet : GoodIn wsX7_costTo (wsV RX7 42 RX7 yX7_nextOnQuiet wsX7_nextOnQuiet) := goodIn_app (goodIn_of _ (by decide +kernel)) ggX7_costTo_X7_nextOnQuiet
set_option maxRecDepth 20000 in
theorem ggX7_layQuiet_X0_farOf : GoodIn wsX7_layQuiet wsX0_farOf := goodIn_r _ [7, 8, 46, 47, 48, 49, 50] (by decide +kernel) (by decide +kernel)
set_option maxRecDepth 20000 in
theorem gX7_layQuiet_X0_farOf : GoodIn wsX7_layQuiet (wsV RX7 25 RX0 yX0_farOf wsX0_farOf) := goodIn_app (goodIn_of _ (by decide +kernel)) ggX7_layQuiet_X0_farOf
set_option maxRecDepth 20000 in
theorem ggX7_layQuiet_X7_costTo : GoodIn wsX7_layQuiet wsX7_costTo := goodIn_r _ [13, 2, 14, 1, 15, 16, 17, 18, 19, 20, 21, 22, 23, 24, 25, 26, 27, 12, 28, 29, 30, 31, 32, 33, 34, 41, 42, 43, 44, 45, 46, 47, 48, 49, 50, 51, 52, 53, 54, 55, 56, 57, 58, 59, 60, 61, 62, 63, 64, 65, 66] (by decide +kernel) (by decide +kernel)
set_option maxRecDepth 20000 in
theorem gX7_layQuiet_X7_costTo : GoodIn wsX7_layQuiet (wsV RX7 39 RX7 yX7_costTo wsX7_costTo) := goodIn_app (goodIn_of _ (by decide +kernel)) ggX7_layQuiet_X7_costTo
set_option maxRecDepth 20000 in
theorem ggX7_layQuiet_X7_lay : GoodIn wsX7_layQuiet wsX7_lay := goodIn_r _ [38, 39, 40, 41, 42, 43, 44, 45] (by decide +kernel) (by decide +kernel)
set_option maxRecDepth 20000 in
theorem gX7_layQuiet_X7_lay : GoodIn wsX7_layQuiet (wsV RX7 31 RX7 yX7_lay wsX7_lay) := goodIn_app (goodIn_of _ (by decide +kernel)) ggX7_layQuiet_X7_lay
set_option maxRecDepth 20000 in
theorem ggX7_layQuiet_X7_nextOnQuiet : GoodIn wsX7_layQuiet wsX7_nextOnQuiet := goodIn_r _ [28, 14, 1, 15, 16, 29, 30, 31, 32, 12, 33, 2, 34, 41, 42, 43, 44, 45, 46, 47, 48, 49, 50, 51, 52, 53, 54, 55, 56, 57, 58, 59, 60, 61, 62, 63, 64, 65, 66] (by decide +kernel) (by decide +kernel)
set_option maxRecDepth 20000 in
theorem gX7_layQuiet_X7_nextOnQuiet : GoodIn wsX7_layQuiet (wsV RX7 42 RX7 yX7_nextOnQuiet wsX7_nextOnQuiet) := goodIn_app (goodIn_of _ (by decide +kernel)) ggX7_layQuiet_X7_nextOnQuiet
set_option maxRecDepth 20000 in
theorem ggX7_waysInto_X0_farOf : GoodIn wsX7_waysInto wsX0_farOf := goodIn_r _ [10, 11, 17, 18, 19, 20, 21] (by decide +kernel) (by decide +kernel)
set_option maxRecDepth 20000 in
theorem gX7_waysInto_X0_farOf : GoodIn wsX7_waysInto (wsV RX7 25 RX0 yX0_farOf wsX0_farOf) := goodIn_app (goodIn_of _ (by decide +kernel)) ggX7_waysInto_X0_farOf
set_option maxRecDepth 20000 in
theorem ggX7_countWays_J7_fill_53178 : GoodIn wsX7_countWays wsJ7_fill_53178 := goodIn_r _ [14] (by decide +kernel) (by decide +kernel)
set_option maxRecDepth 20000 in
theorem gX7_countWays_J7_fill_53178 : GoodIn wsX7_countWays (va_wsS RX7 46 yJ7_fill_53178 wsJ7_fill_53178) := goodIn_app (goodIn_of _ (by decide +kernel)) ggX7_countWays_J7_fill_53178
set_option maxRecDepth 20000 in
theorem ggX7_countWays_X0_farOf : GoodIn wsX7_countWays wsX0_farOf := goodIn_r _ [9, 10, 26, 27, 28, 29, 30] (by decide +kernel) (by decide +kernel)
set_option maxRecDepth 20000 in
theorem gX7_countWays_X0_farOf : GoodIn wsX7_countWays (wsV RX7 25 RX0 yX0_farOf wsX0_farOf) := goodIn_app (goodIn_of _ (by decide +kernel)) ggX7_countWays_X0_farOf
set_option maxRecDepth 20000 in
theorem ggX7_countWays_X7_waysInto : GoodIn wsX7_countWays wsX7_waysInto := goodIn_r _ [19, 1, 3, 4, 20, 2, 5, 6, 7, 8, 9, 10, 21, 22, 23, 24, 25, 26, 27, 28, 29, 30, 31, 32, 33, 34, 35, 36, 37, 38, 39, 40, 41, 42, 43, 44, 45, 46] (by decide +kernel) (by decide +kernel)
set_option maxRecDepth 20000 in
theorem gX7_countWays_X7_waysInto : GoodIn wsX7_countWays (wsV RX7 62 RX7 yX7_waysInto wsX7_waysInto) := goodIn_app (goodIn_of _ (by decide +kernel)) ggX7_countWays_X7_waysInto
set_option maxRecDepth 20000 in
theorem ggX7_tourBy_X0_farOf : GoodIn wsX7_tourBy wsX0_farOf := goodIn_r _ [7, 8, 14, 15, 16, 17, 18] (by decide +kernel) (by decide +kernel)
set_option maxRecDepth 20000 in
theorem gX7_tourBy_X0_farOf : GoodIn wsX7_tourBy (wsV RX7 25 RX0 yX0_farOf wsX0_farOf) := goodIn_app (goodIn_of _ (by decide +kernel)) ggX7_tourBy_X0_farOf
set_option maxRecDepth 20000 in
theorem ggX7_nextOnTour_X7_tourBy : GoodIn wsX7_nextOnTour wsX7_tourBy := goodIn_r _ [9, 2, 10, 11, 12, 13, 14, 15, 16, 17, 18, 19, 20, 21, 22, 23, 24, 25, 26] (by decide +kernel) (by decide +kernel)
set_option maxRecDepth 20000 in
theorem gX7_nextOnTour_X7_tourBy : GoodIn wsX7_nextOnTour (wsV RX7 97 RX7 yX7_tourBy wsX7_tourBy) := goodIn_app (goodIn_of _ (by decide +kernel)) ggX7_nextOnTour_X7_tourBy
set_option maxRecDepth 20000 in
theorem ggX7_measureTours_X7_nextOnTour : GoodIn wsX7_measureTours wsX7_nextOnTour := goodIn_r _ [9, 10, 1, 2, 3, 11, 12, 13, 8, 14, 4, 15, 16, 17, 18, 19, 20, 21, 22, 23, 24, 25, 26, 27, 28, 29, 30, 31, 32, 33, 34, 35, 36, 37, 38, 39, 40, 41, 42, 43, 44, 45, 46] (by decide +kernel) (by decide +kernel)
set_option maxRecDepth 20000 in
theorem gX7_measureTours_X7_nextOnTour : GoodIn wsX7_measureTours (wsV RX7 76 RX7 yX7_nextOnTour wsX7_nextOnTour) := goodIn_app (goodIn_of _ (by decide +kernel)) ggX7_measureTours_X7_nextOnTour
set_option maxRecDepth 20000 in
theorem ggX7_measureTours_X7_tourBy : GoodIn wsX7_measureTours wsX7_tourBy := goodIn_r _ [14, 1, 4, 15, 16, 17, 18, 19, 20, 21, 22, 23, 24, 25, 26, 27, 28, 29, 30] (by decide +kernel) (by decide +kernel)
set_option maxRecDepth 20000 in
theorem gX7_measureTours_X7_tourBy : GoodIn wsX7_measureTours (wsV RX7 97 RX7 yX7_tourBy wsX7_tourBy) := goodIn_app (goodIn_of _ (by decide +kernel)) ggX7_measureTours_X7_tourBy
set_option maxRecDepth 20000 in
theorem ggX7_layTour_X0_allRooms : GoodIn wsX7_layTour wsX0_allRooms := goodIn_r _ [7, 8, 9, 51, 52, 53, 54, 55, 56, 57, 58, 59, 60, 61, 62, 63, 64, 65, 66, 67, 68, 69, 70, 71] (by decide +kernel) (by decide +kernel)
set_option maxRecDepth 20000 in
theorem gX7_layTour_X0_allRooms : GoodIn wsX7_layTour (wsV RX7 65 RX0 yX0_allRooms wsX0_allRooms) := goodIn_app (goodIn_of _ (by decide +kernel)) ggX7_layTour_X0_allRooms
set_option maxRecDepth 20000 in
theorem ggX7_layTour_X0_reach : GoodIn wsX7_layTour wsX0_reach := goodIn_r _ [13, 14, 15, 16, 6, 17, 8, 9, 18, 51, 52, 53, 54, 55, 56, 57, 58, 59, 60, 61, 62, 63, 64, 65, 66, 67, 68, 69, 70, 71] (by decide +kernel) (by decide +kernel)
set_option maxRecDepth 20000 in
theorem gX7_layTour_X0_reach : GoodIn wsX7_layTour (wsV RX7 69 RX0 yX0_reach wsX0_reach) := goodIn_app (goodIn_of _ (by decide +kernel)) ggX7_layTour_X0_reach
set_option maxRecDepth 20000 in
theorem ggX7_layTour_X7_lay : GoodIn wsX7_layTour wsX7_lay := goodIn_r _ [43, 44, 45, 46, 47, 48, 49, 50] (by decide +kernel) (by decide +kernel)
set_option maxRecDepth 20000 in
theorem gX7_layTour_X7_lay : GoodIn wsX7_layTour (wsV RX7 31 RX7 yX7_lay wsX7_lay) := goodIn_app (goodIn_of _ (by decide +kernel)) ggX7_layTour_X7_lay
set_option maxRecDepth 20000 in
theorem ggX7_layTour_X7_measureTours : GoodIn wsX7_layTour wsX7_measureTours := goodIn_r _ [23, 1, 24, 25, 2, 26, 27, 28, 22, 29, 30, 31, 32, 33, 34, 35, 36, 37, 6, 38, 39, 46, 47, 48, 49, 50, 51, 52, 53, 54, 55, 56, 57, 58, 59, 60, 61, 62, 63, 64, 65, 66, 67, 68, 69, 70, 71] (by decide +kernel) (by decide +kernel)
set_option maxRecDepth 20000 in
theorem gX7_layTour_X7_measureTours : GoodIn wsX7_layTour (wsV RX7 72 RX7 yX7_measureTours wsX7_measureTours) := goodIn_app (goodIn_of _ (by decide +kernel)) ggX7_layTour_X7_measureTours
set_option maxRecDepth 20000 in
theorem ggX7_layTour_X7_nextOnTour : GoodIn wsX7_layTour wsX7_nextOnTour := goodIn_r _ [29, 30, 1, 24, 25, 31, 32, 33, 22, 34, 2, 35, 36, 37, 6, 38, 39, 46, 47, 48, 49, 50, 51, 52, 53, 54, 55, 56, 57, 58, 59, 60, 61, 62, 63, 64, 65, 66, 67, 68, 69, 70, 71] (by decide +kernel) (by decide +kernel)
set_option maxRecDepth 20000 in
theorem gX7_layTour_X7_nextOnTour : GoodIn wsX7_layTour (wsV RX7 76 RX7 yX7_nextOnTour wsX7_nextOnTour) := goodIn_app (goodIn_of _ (by decide +kernel)) ggX7_layTour_X7_nextOnTour
set_option maxRecDepth 20000 in
theorem ggX2_bestDoor_X2_asksBy : GoodIn wsX2_bestDoor wsX2_asksBy := goodIn_r _ [8, 1, 9, 10, 11, 12, 13, 14, 15, 16, 17, 18, 19, 20, 21, 22] (by decide +kernel) (by decide +kernel)
set_option maxRecDepth 20000 in
theorem gX2_bestDoor_X2_asksBy : GoodIn wsX2_bestDoor (wsV RX2 28 RX2 yX2_asksBy wsX2_asksBy) := goodIn_app (goodIn_of _ (by decide +kernel)) ggX2_bestDoor_X2_asksBy
set_option maxRecDepth 20000 in
theorem ggX2_fewestAsks_J6_bitCount_0f7a4 : GoodIn wsX2_fewestAsks wsJ6_bitCount_0f7a4 := goodIn_r _ [23, 24, 25, 26] (by decide +kernel) (by decide +kernel)
set_option maxRecDepth 20000 in
theorem gX2_fewestAsks_J6_bitCount_0f7a4 : GoodIn wsX2_fewestAsks (va_wsS RX2 23 yJ6_bitCount_0f7a4 wsJ6_bitCount_0f7a4) := goodIn_app (goodIn_of _ (by decide +kernel)) ggX2_fewestAsks_J6_bitCount_0f7a4
set_option maxRecDepth 20000 in
theorem ggX2_fewestAsks_X2_asksBy : GoodIn wsX2_fewestAsks wsX2_asksBy := goodIn_r _ [13, 7, 14, 15, 1, 16, 17, 18, 19, 27, 28, 29, 30, 31, 32, 33] (by decide +kernel) (by decide +kernel)
set_option maxRecDepth 20000 in
theorem gX2_fewestAsks_X2_asksBy : GoodIn wsX2_fewestAsks (wsV RX2 28 RX2 yX2_asksBy wsX2_asksBy) := goodIn_app (goodIn_of _ (by decide +kernel)) ggX2_fewestAsks_X2_asksBy
set_option maxRecDepth 20000 in
theorem ggX2_fewestAsks_X2_bestDoor : GoodIn wsX2_fewestAsks wsX2_bestDoor := goodIn_r _ [6, 7, 8, 9, 10, 11, 12, 5, 13, 14, 15, 1, 16, 17, 18, 19, 27, 28, 29, 30, 31, 32, 33, 34, 35, 36, 37, 38, 39, 40, 41, 42, 43, 44, 45, 46, 47, 48, 49] (by decide +kernel) (by decide +kernel)
set_option maxRecDepth 20000 in
theorem gX2_fewestAsks_X2_bestDoor : GoodIn wsX2_fewestAsks (wsV RX2 19 RX2 yX2_bestDoor wsX2_bestDoor) := goodIn_app (goodIn_of _ (by decide +kernel)) ggX2_fewestAsks_X2_bestDoor
set_option maxRecDepth 20000 in
theorem ggX2_firstDoor_X2_bestDoor : GoodIn wsX2_firstDoor wsX2_bestDoor := goodIn_r _ [10, 11, 12, 13, 14, 15, 16, 4, 17, 18, 19, 6, 20, 21, 22, 23, 31, 32, 33, 34, 35, 36, 37, 38, 39, 40, 41, 42, 43, 44, 45, 46, 47, 48, 49, 50, 51, 52, 53] (by decide +kernel) (by decide +kernel)
set_option maxRecDepth 20000 in
theorem gX2_firstDoor_X2_bestDoor : GoodIn wsX2_firstDoor (wsV RX2 19 RX2 yX2_bestDoor wsX2_bestDoor) := goodIn_app (goodIn_of _ (by decide +kernel)) ggX2_firstDoor_X2_bestDoor
set_option maxRecDepth 20000 in
theorem ggX2_firstDoor_X2_fewestAsks : GoodIn wsX2_firstDoor wsX2_fewestAsks := goodIn_r _ [5, 6, 7, 8, 9, 4, 10, 11, 12, 13, 14, 15, 16, 17, 18, 19, 20, 21, 22, 23, 24, 25, 26, 27, 28, 29, 30, 31, 32, 33, 34, 35, 36, 37, 38, 39, 40, 41, 42, 43, 44, 45, 46, 47, 48, 49, 50, 51, 52, 53] (by decide +kernel) (by decide +kernel)
set_option maxRecDepth 20000 in
theorem gX2_firstDoor_X2_fewestAsks : GoodIn wsX2_firstDoor (wsV RX2 32 RX2 yX2_fewestAsks wsX2_fewestAsks) := goodIn_app (goodIn_of _ (by decide +kernel)) ggX2_firstDoor_X2_fewestAsks
set_option maxRecDepth 20000 in
theorem ggX3_rightThings_X3_isRight : GoodIn wsX3_rightThings wsX3_isRight := goodIn_r _ [8] (by decide +kernel) (by decide +kernel)
set_option maxRecDepth 20000 in
theorem gX3_rightThings_X3_isRight : GoodIn wsX3_rightThings (wsV RX3 61 RX3 yX3_isRight wsX3_isRight) := goodIn_app (goodIn_of _ (by decide +kernel)) ggX3_rightThings_X3_isRight
theorem iw_X1_put_X1 : ∀ w ∈ wsX10, w ∈ wsX1_put := fun _ h => List.mem_cons_of_mem _ (List.mem_append_right _ h)
theorem iw_X1_know_X1 : ∀ w ∈ wsX10, w ∈ wsX1_know := fun _ h => List.mem_cons_of_mem _ (List.mem_append_right _ h)
theorem iw_X1_work_X1 : ∀ w ∈ wsX10, w ∈ wsX1_work := fun _ h => List.mem_cons_of_mem _ (List.mem_append_right _ h)
theorem iw_X7_lay_X7 : ∀ w ∈ wsX70, w ∈ wsX7_lay := fun _ h => List.mem_cons_of_mem _ (List.mem_append_right _ h)
theorem iw_X7_nextOnWay_X0 : ∀ w ∈ wsX00, w ∈ wsX7_nextOnWay := fun _ h => List.mem_cons_of_mem _ (List.mem_append_left _ (List.mem_append_right _ h))
theorem iw_X7_nextOnWay_X5 : ∀ w ∈ wsX50, w ∈ wsX7_nextOnWay := fun _ h => List.mem_cons_of_mem _ (List.mem_append_right _ h)
theorem iw_X7_nextOnWay_X7 : ∀ w ∈ wsX70, w ∈ wsX7_nextOnWay := fun _ h => List.mem_cons_of_mem _ (List.mem_append_left _ (List.mem_append_left _ (List.mem_append_right _ h)))
theorem iw_X7_layWay_X7 : ∀ w ∈ wsX70, w ∈ wsX7_layWay := fun _ h => List.mem_cons_of_mem _ (List.mem_append_left _ (List.mem_append_left _ (List.mem_append_right _ h)))
theorem iw_X7_costBy_X0 : ∀ w ∈ wsX00, w ∈ wsX7_costBy := fun _ h => List.mem_cons_of_mem _ (List.mem_append_left _ (List.mem_append_right _ h))
theorem iw_X7_costBy_X5 : ∀ w ∈ wsX50, w ∈ wsX7_costBy := fun _ h => List.mem_cons_of_mem _ (List.mem_append_right _ h)
theorem iw_X7_costBy_X7 : ∀ w ∈ wsX70, w ∈ wsX7_costBy := fun _ h => List.mem_cons_of_mem _ (List.mem_append_left _ (List.mem_append_left _ (List.mem_append_right _ h)))
theorem iw_X7_nextOnQuiet_X0 : ∀ w ∈ wsX00, w ∈ wsX7_nextOnQuiet := fun _ h => List.mem_cons_of_mem _ (List.mem_append_left _ (List.mem_append_right _ h))
theorem iw_X7_nextOnQuiet_X5 : ∀ w ∈ wsX50, w ∈ wsX7_nextOnQuiet := fun _ h => List.mem_cons_of_mem _ (List.mem_append_right _ h)
theorem iw_X7_nextOnQuiet_X7 : ∀ w ∈ wsX70, w ∈ wsX7_nextOnQuiet := fun _ h => List.mem_cons_of_mem _ (List.mem_append_left _ (List.mem_append_left _ (List.mem_append_right _ h)))
theorem iw_X7_costTo_X0 : ∀ w ∈ wsX00, w ∈ wsX7_costTo := fun _ h => List.mem_cons_of_mem _ (List.mem_append_left _ (List.mem_append_right _ h))
theorem iw_X7_costTo_X5 : ∀ w ∈ wsX50, w ∈ wsX7_costTo := fun _ h => List.mem_cons_of_mem _ (List.mem_append_right _ h)
theorem iw_X7_costTo_X7 : ∀ w ∈ wsX70, w ∈ wsX7_costTo := fun _ h => List.mem_cons_of_mem _ (List.mem_append_left _ (List.mem_append_left _ (List.mem_append_right _ h)))
theorem iw_X7_layQuiet_X7 : ∀ w ∈ wsX70, w ∈ wsX7_layQuiet := fun _ h => List.mem_cons_of_mem _ (List.mem_append_left _ (List.mem_append_left _ (List.mem_append_right _ h)))
theorem iw_X7_waysInto_X0 : ∀ w ∈ wsX00, w ∈ wsX7_waysInto := fun _ h => List.mem_cons_of_mem _ (List.mem_append_left _ (List.mem_append_right _ h))
theorem iw_X7_waysInto_X5 : ∀ w ∈ wsX50, w ∈ wsX7_waysInto := fun _ h => List.mem_cons_of_mem _ (List.mem_append_right _ h)
theorem iw_X7_waysInto_X7 : ∀ w ∈ wsX70, w ∈ wsX7_waysInto := fun _ h => List.mem_cons_of_mem _ (List.mem_append_left _ (List.mem_append_left _ (List.mem_append_right _ h)))
theorem iw_X7_countWays_X0 : ∀ w ∈ wsX00, w ∈ wsX7_countWays := fun _ h => List.mem_cons_of_mem _ (List.mem_append_left _ (List.mem_append_right _ h))
theorem iw_X7_countWays_X5 : ∀ w ∈ wsX50, w ∈ wsX7_countWays := fun _ h => List.mem_cons_of_mem _ (List.mem_append_right _ h)
theorem iw_X7_countWays_X7 : ∀ w ∈ wsX70, w ∈ wsX7_countWays := fun _ h => List.mem_cons_of_mem _ (List.mem_append_left _ (List.mem_append_left _ (List.mem_append_right _ h)))
theorem iw_X7_tourBy_X7 : ∀ w ∈ wsX70, w ∈ wsX7_tourBy := fun _ h => List.mem_cons_of_mem _ (List.mem_append_left _ (List.mem_append_right _ h))
theorem iw_X7_nextOnTour_X0 : ∀ w ∈ wsX00, w ∈ wsX7_nextOnTour := fun _ h => List.mem_cons_of_mem _ (List.mem_append_left _ (List.mem_append_right _ h))
theorem iw_X7_nextOnTour_X5 : ∀ w ∈ wsX50, w ∈ wsX7_nextOnTour := fun _ h => List.mem_cons_of_mem _ (List.mem_append_right _ h)
theorem iw_X7_nextOnTour_X7 : ∀ w ∈ wsX70, w ∈ wsX7_nextOnTour := fun _ h => List.mem_cons_of_mem _ (List.mem_append_left _ (List.mem_append_left _ (List.mem_append_right _ h)))
theorem iw_X7_measureTours_X0 : ∀ w ∈ wsX00, w ∈ wsX7_measureTours := fun _ h => List.mem_cons_of_mem _ (List.mem_append_left _ (List.mem_append_right _ h))
theorem iw_X7_measureTours_X5 : ∀ w ∈ wsX50, w ∈ wsX7_measureTours := fun _ h => List.mem_cons_of_mem _ (List.mem_append_right _ h)
theorem iw_X7_measureTours_X7 : ∀ w ∈ wsX70, w ∈ wsX7_measureTours := fun _ h => List.mem_cons_of_mem _ (List.mem_append_left _ (List.mem_append_left _ (List.mem_append_right _ h)))
theorem iw_X7_layTour_X7 : ∀ w ∈ wsX70, w ∈ wsX7_layTour := fun _ h => List.mem_cons_of_mem _ (List.mem_append_left _ (List.mem_append_left _ (List.mem_append_right _ h)))
theorem iw_X2_asksBy_X0 : ∀ w ∈ wsX00, w ∈ wsX2_asksBy := fun _ h => List.mem_cons_of_mem _ (List.mem_append_right _ h)
theorem iw_X2_asksBy_X2 : ∀ w ∈ wsX20, w ∈ wsX2_asksBy := fun _ h => List.mem_cons_of_mem _ (List.mem_append_left _ (List.mem_append_right _ h))
theorem iw_X2_bestDoor_X0 : ∀ w ∈ wsX00, w ∈ wsX2_bestDoor := fun _ h => List.mem_cons_of_mem _ (List.mem_append_left _ (List.mem_append_right _ h))
theorem iw_X2_bestDoor_X2 : ∀ w ∈ wsX20, w ∈ wsX2_bestDoor := fun _ h => List.mem_cons_of_mem _ (List.mem_append_left _ (List.mem_append_left _ (List.mem_append_right _ h)))
theorem iw_X2_bestDoor_X5 : ∀ w ∈ wsX50, w ∈ wsX2_bestDoor := fun _ h => List.mem_cons_of_mem _ (List.mem_append_right _ h)
theorem iw_X2_fewestAsks_X2 : ∀ w ∈ wsX20, w ∈ wsX2_fewestAsks := fun _ h => List.mem_cons_of_mem _ (List.mem_append_left _ (List.mem_append_left _ (List.mem_append_right _ h)))
theorem iw_X3_thingsWith_X0 : ∀ w ∈ wsX00, w ∈ wsX3_thingsWith := fun _ h => List.mem_cons_of_mem _ (List.mem_append_left _ (List.mem_append_right _ h))
theorem iw_X3_thingsWith_X3 : ∀ w ∈ wsX30, w ∈ wsX3_thingsWith := fun _ h => List.mem_cons_of_mem _ (List.mem_append_left _ (List.mem_append_left _ (List.mem_append_right _ h)))
theorem iw_X3_thingsWith_X5 : ∀ w ∈ wsX50, w ∈ wsX3_thingsWith := fun _ h => List.mem_cons_of_mem _ (List.mem_append_right _ h)
theorem iw_X3_rightThings_X0 : ∀ w ∈ wsX00, w ∈ wsX3_rightThings := fun _ h => List.mem_cons_of_mem _ (List.mem_append_left _ (List.mem_append_right _ h))
theorem iw_X3_rightThings_X3 : ∀ w ∈ wsX30, w ∈ wsX3_rightThings := fun _ h => List.mem_cons_of_mem _ (List.mem_append_left _ (List.mem_append_left _ (List.mem_append_right _ h)))
theorem iw_X3_rightThings_X5 : ∀ w ∈ wsX50, w ∈ wsX3_rightThings := fun _ h => List.mem_cons_of_mem _ (List.mem_append_right _ h)
