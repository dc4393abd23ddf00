def wsX11_parts : List Cond := .code yX11_parts cX11_parts 1 (some .int) :: ([.fieldLink RX11 40 "SoldHouse" "floor" "LSoldHouse$Floor;", .fieldLink RX11 150 "SoldHouse$Floor" "parting" "I"] ++ wsX110 ++ wsX00)
def wsX11_hunt_r1 : List Cond := [Cond.fieldLink RX11 56 "SoldHouse" "hunter" "LSoldHouse$Hunter;", Cond.methodLink RX11 203 yX11_areRooms, Cond.instanceMethod yX11_areRooms, Cond.selects RX11 yX11_areRooms yX11_areRooms, Cond.initialized RX11, Cond.code yX11_areRooms cX11_areRooms 2 (some .boolean), Cond.fieldLink RX11 10 "SoldHouse" "plan" "LSoldHouse$Plan;", Cond.fieldLink RX11 101 "SoldHouse$Plan" "rooms" "I", Cond.methodLink RX11 206 yX2_fewestAsks, Cond.instanceMethod yX2_fewestAsks, Cond.selects RX2 yX2_fewestAsks yX2_fewestAsks, Cond.initialized RX2, Cond.code yX2_fewestAsks cX2_fewestAsks 5 (some .int), Cond.fieldLink RX2 9 "SoldHouse$Hunter" "asks" "[I", Cond.methodLink RX2 19 yX2_bestDoor, Cond.instanceMethod yX2_bestDoor, Cond.selects RX2 yX2_bestDoor yX2_bestDoor, Cond.code yX2_bestDoor cX2_bestDoor 5 (some .int), Cond.fieldLink RX2 15 "SoldHouse$Hunter" "floor" "LSoldHouse$Floor;", Cond.fieldLink RX2 35 "SoldHouse$Floor" "plan" "LSoldHouse$Plan;", Cond.fieldLink RX2 41 "SoldHouse$Plan" "doors" "I", Cond.methodLink RX2 28 yX2_asksBy, Cond.instanceMethod yX2_asksBy, Cond.selects RX2 yX2_asksBy yX2_asksBy]
def wsX11_hunt_r2 : List Cond := [Cond.code yX2_asksBy cX2_asksBy 6 (some .int), Cond.fieldLink RX2 47 "SoldHouse$Floor" "near" "[I", Cond.fieldLink RX2 50 "SoldHouse$Floor" "parting" "I", Cond.methodLink RX2 53 Lib.Math.max.name, Cond.static Lib.Math.max.name, Cond.initialized "java/lang/Math", Cond.code Lib.Math.max.name Lib.Math.max.code 2 (some .int), Cond.methodLink RX2 23 yJ6_bitCount_0f7a4, Cond.static yJ6_bitCount_0f7a4, Cond.initialized RJ6, Cond.code yJ6_bitCount_0f7a4 cJ6_bitCount_0f7a4 1 (some .int), Cond.constant RJ6 265 (1431655765), Cond.constant RJ6 266 (858993459), Cond.constant RJ6 267 (252645135)]
def wsX11_hunt : List Cond := .code yX11_hunt cX11_hunt 2 (some .int) :: ((wsX11_hunt_r1 ++ wsX11_hunt_r2) ++ wsX110 ++ wsX50 ++ wsX20 ++ wsX00)
def wsX11_first_r1 : List Cond := [Cond.fieldLink RX11 56 "SoldHouse" "hunter" "LSoldHouse$Hunter;", Cond.methodLink RX11 203 yX11_areRooms, Cond.instanceMethod yX11_areRooms, Cond.selects RX11 yX11_areRooms yX11_areRooms, Cond.initialized RX11, Cond.code yX11_areRooms cX11_areRooms 2 (some .boolean), Cond.fieldLink RX11 10 "SoldHouse" "plan" "LSoldHouse$Plan;", Cond.fieldLink RX11 101 "SoldHouse$Plan" "rooms" "I", Cond.methodLink RX11 210 yX2_firstDoor, Cond.instanceMethod yX2_firstDoor, Cond.selects RX2 yX2_firstDoor yX2_firstDoor, Cond.initialized RX2, Cond.code yX2_firstDoor cX2_firstDoor 2 (some .int), Cond.methodLink RX2 32 yX2_fewestAsks, Cond.instanceMethod yX2_fewestAsks, Cond.selects RX2 yX2_fewestAsks yX2_fewestAsks, Cond.code yX2_fewestAsks cX2_fewestAsks 5 (some .int), Cond.fieldLink RX2 9 "SoldHouse$Hunter" "asks" "[I", Cond.methodLink RX2 19 yX2_bestDoor, Cond.instanceMethod yX2_bestDoor, Cond.selects RX2 yX2_bestDoor yX2_bestDoor, Cond.code yX2_bestDoor cX2_bestDoor 5 (some .int), Cond.fieldLink RX2 15 "SoldHouse$Hunter" "floor" "LSoldHouse$Floor;", Cond.fieldLink RX2 35 "SoldHouse$Floor" "plan" "LSoldHouse$Plan;"]
def wsX11_first_r2 : List Cond := [Cond.fieldLink RX2 41 "SoldHouse$Plan" "doors" "I", Cond.methodLink RX2 28 yX2_asksBy, Cond.instanceMethod yX2_asksBy, Cond.selects RX2 yX2_asksBy yX2_asksBy, Cond.code yX2_asksBy cX2_asksBy 6 (some .int), Cond.fieldLink RX2 47 "SoldHouse$Floor" "near" "[I", Cond.fieldLink RX2 50 "SoldHouse$Floor" "parting" "I", Cond.methodLink RX2 53 Lib.Math.max.name, Cond.static Lib.Math.max.name, Cond.initialized "java/lang/Math", Cond.code Lib.Math.max.name Lib.Math.max.code 2 (some .int), Cond.methodLink RX2 23 yJ6_bitCount_0f7a4, Cond.static yJ6_bitCount_0f7a4, Cond.initialized RJ6, Cond.code yJ6_bitCount_0f7a4 cJ6_bitCount_0f7a4 1 (some .int), Cond.constant RJ6 265 (1431655765), Cond.constant RJ6 266 (858993459), Cond.constant RJ6 267 (252645135)]
def wsX11_first : List Cond := .code yX11_first cX11_first 2 (some .int) :: ((wsX11_first_r1 ++ wsX11_first_r2) ++ wsX110 ++ wsX50 ++ wsX20 ++ wsX00)
def wsX11_meet_r1 : List Cond := [Cond.fieldLink RX11 40 "SoldHouse" "floor" "LSoldHouse$Floor;", Cond.methodLink RX11 110 yX11_isRoom, Cond.instanceMethod yX11_isRoom, Cond.selects RX11 yX11_isRoom yX11_isRoom, Cond.initialized RX11, Cond.code yX11_isRoom cX11_isRoom 2 (some .boolean), Cond.fieldLink RX11 10 "SoldHouse" "plan" "LSoldHouse$Plan;", Cond.fieldLink RX11 101 "SoldHouse$Plan" "rooms" "I", Cond.methodLink RX11 213 yX0_meetingRoom, Cond.instanceMethod yX0_meetingRoom, Cond.selects RX0 yX0_meetingRoom yX0_meetingRoom, Cond.initialized RX0, Cond.code yX0_meetingRoom cX0_meetingRoom 6 (some .int), Cond.fieldLink RX0 21 "SoldHouse$Floor" "plan" "LSoldHouse$Plan;", Cond.fieldLink RX0 43 "SoldHouse$Plan" "rooms" "I", Cond.methodLink RX0 68 yX0_farOf, Cond.instanceMethod yX0_farOf, Cond.selects RX0 yX0_farOf yX0_farOf, Cond.code yX0_farOf cX0_farOf 3 (some .int), Cond.fieldLink RX0 15 "SoldHouse$Floor" "far" "[I", Cond.methodLink RX0 76 yX0_minutesTo, Cond.instanceMethod yX0_minutesTo, Cond.selects RX0 yX0_minutesTo yX0_minutesTo, Cond.code yX0_minutesTo cX0_minutesTo 4 (some .int)]
def wsX11_meet_r2 : List Cond := [Cond.methodLink RX0 71 Lib.Math.max.name, Cond.static Lib.Math.max.name, Cond.initialized "java/lang/Math", Cond.code Lib.Math.max.name Lib.Math.max.code 2 (some .int), Cond.methodLink RX11 216 yX0_minutesTo]
def wsX11_meet : List Cond := .code yX11_meet cX11_meet 5 (some .int) :: ((wsX11_meet_r1 ++ wsX11_meet_r2) ++ wsX110 ++ wsX50 ++ wsX00)
def wsX11_bar_r1 : List Cond := [Cond.fieldLink RX11 40 "SoldHouse" "floor" "LSoldHouse$Floor;", Cond.methodLink RX11 110 yX11_isRoom, Cond.instanceMethod yX11_isRoom, Cond.selects RX11 yX11_isRoom yX11_isRoom, Cond.initialized RX11, Cond.code yX11_isRoom cX11_isRoom 2 (some .boolean), Cond.fieldLink RX11 10 "SoldHouse" "plan" "LSoldHouse$Plan;", Cond.fieldLink RX11 101 "SoldHouse$Plan" "rooms" "I", Cond.methodLink RX11 220 yX0_barringRooms, Cond.instanceMethod yX0_barringRooms, Cond.selects RX0 yX0_barringRooms yX0_barringRooms, Cond.initialized RX0, Cond.code yX0_barringRooms cX0_barringRooms 7 (some .int), Cond.methodLink RX0 60 yX0_allRooms, Cond.instanceMethod yX0_allRooms, Cond.selects RX0 yX0_allRooms yX0_allRooms, Cond.code yX0_allRooms cX0_allRooms 1 (some .int), Cond.fieldLink RX0 21 "SoldHouse$Floor" "plan" "LSoldHouse$Plan;", Cond.fieldLink RX0 43 "SoldHouse$Plan" "rooms" "I", Cond.methodLink RX0 80 yJ6_bitCount_0f7a4, Cond.static yJ6_bitCount_0f7a4, Cond.initialized RJ6, Cond.code yJ6_bitCount_0f7a4 cJ6_bitCount_0f7a4 1 (some .int), Cond.constant RJ6 265 (1431655765)]
def wsX11_bar_r2 : List Cond := [Cond.constant RJ6 266 (858993459), Cond.constant RJ6 267 (252645135), Cond.methodLink RX0 64 yX0_reach, Cond.instanceMethod yX0_reach, Cond.selects RX0 yX0_reach yX0_reach, Cond.code yX0_reach cX0_reach 5 (some .int), Cond.methodLink RX0 57 yX0_behindDoors, Cond.instanceMethod yX0_behindDoors, Cond.selects RX0 yX0_behindDoors yX0_behindDoors, Cond.code yX0_behindDoors cX0_behindDoors 4 (some .int), Cond.fieldLink RX0 9 "SoldHouse$Floor" "next" "[I", Cond.methodLink RX11 223 yJ6_bitCount_0f7a4]
def wsX11_bar : List Cond := .code yX11_bar cX11_bar 5 (some .int) :: ((wsX11_bar_r1 ++ wsX11_bar_r2) ++ wsX110 ++ wsX50 ++ wsX00)
def wsX11_tour_r1 : List Cond := [Cond.fieldLink RX11 49 "SoldHouse" "routes" "LSoldHouse$Routes;", Cond.fieldLink RX11 187 "SoldHouse$Routes" "lying" "I", Cond.methodLink RX11 110 yX11_isRoom, Cond.instanceMethod yX11_isRoom, Cond.selects RX11 yX11_isRoom yX11_isRoom, Cond.initialized RX11, Cond.code yX11_isRoom cX11_isRoom 2 (some .boolean), Cond.fieldLink RX11 10 "SoldHouse" "plan" "LSoldHouse$Plan;", Cond.fieldLink RX11 101 "SoldHouse$Plan" "rooms" "I", Cond.methodLink RX11 203 yX11_areRooms, Cond.instanceMethod yX11_areRooms, Cond.selects RX11 yX11_areRooms yX11_areRooms, Cond.code yX11_areRooms cX11_areRooms 2 (some .boolean), Cond.methodLink RX11 228 yX7_layTour, Cond.instanceMethod yX7_layTour, Cond.selects RX7 yX7_layTour yX7_layTour, Cond.initialized RX7, Cond.code yX7_layTour cX7_layTour 6 (some .int), Cond.fieldLink RX7 21 "SoldHouse$Routes" "floor" "LSoldHouse$Floor;", Cond.fieldLink RX7 18 "SoldHouse$Routes" "rest" "[I", Cond.methodLink RX7 65 yX0_allRooms, Cond.instanceMethod yX0_allRooms, Cond.selects RX0 yX0_allRooms yX0_allRooms, Cond.initialized RX0]
def wsX11_tour_r2 : List Cond := [Cond.code yX0_allRooms cX0_allRooms 1 (some .int), Cond.fieldLink RX0 21 "SoldHouse$Floor" "plan" "LSoldHouse$Plan;", Cond.fieldLink RX0 43 "SoldHouse$Plan" "rooms" "I", Cond.methodLink RX7 69 yX0_reach, Cond.instanceMethod yX0_reach, Cond.selects RX0 yX0_reach yX0_reach, Cond.code yX0_reach cX0_reach 5 (some .int), Cond.methodLink RX0 57 yX0_behindDoors, Cond.instanceMethod yX0_behindDoors, Cond.selects RX0 yX0_behindDoors yX0_behindDoors, Cond.code yX0_behindDoors cX0_behindDoors 4 (some .int), Cond.fieldLink RX0 9 "SoldHouse$Floor" "next" "[I", Cond.methodLink RX7 72 yX7_measureTours, Cond.instanceMethod yX7_measureTours, Cond.selects RX7 yX7_measureTours yX7_measureTours, Cond.code yX7_measureTours cX7_measureTours 4 none, Cond.fieldLink RX7 52 "SoldHouse$Floor" "plan" "LSoldHouse$Plan;", Cond.fieldLink RX7 56 "SoldHouse$Plan" "rooms" "I", Cond.methodLink RX7 76 yX7_nextOnTour, Cond.instanceMethod yX7_nextOnTour, Cond.selects RX7 yX7_nextOnTour yX7_nextOnTour, Cond.code yX7_nextOnTour cX7_nextOnTour 6 (some .int), Cond.constant RX7 85 (1048576), Cond.methodLink RX7 97 yX7_tourBy]
def wsX11_tour_r3 : List Cond := [Cond.instanceMethod yX7_tourBy, Cond.selects RX7 yX7_tourBy yX7_tourBy, Cond.code yX7_tourBy cX7_tourBy 4 (some .int), Cond.methodLink RX7 25 yX0_farOf, Cond.instanceMethod yX0_farOf, Cond.selects RX0 yX0_farOf yX0_farOf, Cond.code yX0_farOf cX0_farOf 3 (some .int), Cond.fieldLink RX0 15 "SoldHouse$Floor" "far" "[I", Cond.methodLink RX7 31 yX7_lay, Cond.instanceMethod yX7_lay, Cond.selects RX7 yX7_lay yX7_lay, Cond.code yX7_lay cX7_lay 2 none, Cond.fieldLink RX7 79 "SoldHouse$Routes" "lying" "I", Cond.fieldLink RX7 9 "SoldHouse$Routes" "lie" "[I"]
def wsX11_tour : List Cond := .code yX11_tour cX11_tour 3 (some .int) :: ((wsX11_tour_r1 ++ (wsX11_tour_r2 ++ wsX11_tour_r3)) ++ wsX110 ++ wsX70 ++ wsX50 ++ wsX00)
def wsX11_centre : List Cond := .code yX11_centre cX11_centre 1 (some .int) :: ([.fieldLink RX11 40 "SoldHouse" "floor" "LSoldHouse$Floor;", .methodLink RX11 231 yX0_middleRoom, .instanceMethod yX0_middleRoom, .selects RX0 yX0_middleRoom yX0_middleRoom, .initialized RX0, .code yX0_middleRoom cX0_middleRoom 5 (some .int), .fieldLink RX0 21 "SoldHouse$Floor" "plan" "LSoldHouse$Plan;", .fieldLink RX0 43 "SoldHouse$Plan" "rooms" "I", .methodLink RX0 85 yX0_farthestFrom, .instanceMethod yX0_farthestFrom, .selects RX0 yX0_farthestFrom yX0_farthestFrom, .code yX0_farthestFrom cX0_farthestFrom 4 (some .int), .methodLink RX0 71 Lib.Math.max.name, .static Lib.Math.max.name, .initialized "java/lang/Math", .code Lib.Math.max.name Lib.Math.max.code 2 (some .int), .methodLink RX0 68 yX0_farOf, .instanceMethod yX0_farOf, .selects RX0 yX0_farOf yX0_farOf, .code yX0_farOf cX0_farOf 3 (some .int), .fieldLink RX0 15 "SoldHouse$Floor" "far" "[I"] ++ wsX110 ++ wsX00 ++ wsX50)
def wsX11_nooks : List Cond := .code yX11_nooks cX11_nooks 3 (some .int) :: ([.fieldLink RX11 10 "SoldHouse" "plan" "LSoldHouse$Plan;", .fieldLink RX11 101 "SoldHouse$Plan" "rooms" "I", .fieldLink RX11 40 "SoldHouse" "floor" "LSoldHouse$Floor;", .fieldLink RX11 118 "SoldHouse$Floor" "next" "[I", .methodLink RX11 223 yJ6_bitCount_0f7a4, .static yJ6_bitCount_0f7a4, .initialized RJ6, .code yJ6_bitCount_0f7a4 cJ6_bitCount_0f7a4 1 (some .int), .constant RJ6 265 (1431655765), .constant RJ6 266 (858993459), .constant RJ6 267 (252645135)] ++ wsX110 ++ wsX50 ++ wsX00)
def wsX11_echo : List Cond := .code yX11_echo cX11_echo 6 (some .int) :: ([.fieldLink RX11 10 "SoldHouse" "plan" "LSoldHouse$Plan;", .fieldLink RX11 101 "SoldHouse$Plan" "rooms" "I", .fieldLink RX11 40 "SoldHouse" "floor" "LSoldHouse$Floor;", .fieldLink RX11 114 "SoldHouse$Plan" "creaks" "[I", .methodLink RX11 110 yX11_isRoom, .instanceMethod yX11_isRoom, .selects RX11 yX11_isRoom yX11_isRoom, .initialized RX11, .code yX11_isRoom cX11_isRoom 2 (some .boolean), .methodLink RX11 156 yX0_farOf, .instanceMethod yX0_farOf, .selects RX0 yX0_farOf yX0_farOf, .initialized RX0, .code yX0_farOf cX0_farOf 3 (some .int), .fieldLink RX0 15 "SoldHouse$Floor" "far" "[I"] ++ wsX110 ++ wsX50 ++ wsX00)
def wsX11_mend : List Cond := .code yX11_mend cX11_mend 2 (some .int) :: ([.fieldLink RX11 63 "SoldHouse" "memory" "LSoldHouse$Memory;", .methodLink RX11 234 yX3_mostMended, .instanceMethod yX3_mostMended, .selects RX3 yX3_mostMended yX3_mostMended, .initialized RX3, .code yX3_mostMended cX3_mostMended 6 (some .int), .fieldLink RX3 30 "SoldHouse$Memory" "floor" "LSoldHouse$Floor;", .fieldLink RX3 34 "SoldHouse$Floor" "plan" "LSoldHouse$Plan;", .fieldLink RX3 40 "SoldHouse$Plan" "things" "I", .fieldLink RX3 11 "SoldHouse$Memory" "now" "[I", .methodLink RX3 85 yX3_farOff, .instanceMethod yX3_farOff, .selects RX3 yX3_farOff yX3_farOff, .code yX3_farOff cX3_farOff 4 (some .int), .methodLink RX3 65 yX0_farOf, .instanceMethod yX0_farOf, .selects RX0 yX0_farOf yX0_farOf, .initialized RX0, .code yX0_farOf cX0_farOf 3 (some .int), .fieldLink RX0 15 "SoldHouse$Floor" "far" "[I"] ++ wsX110 ++ wsX30 ++ wsX00 ++ wsX50)
def wsX11_regret : List Cond := .code yX11_regret cX11_regret 1 (some .int) :: ([.fieldLink RX11 72 "SoldHouse" "trader" "LSoldHouse$Trader;", .methodLink RX11 237 yX10_betterElsewhere, .instanceMethod yX10_betterElsewhere, .selects RX10 yX10_betterElsewhere yX10_betterElsewhere, .initialized RX10, .code yX10_betterElsewhere cX10_betterElsewhere 5 (some .int), .fieldLink RX10 9 "SoldHouse$Trader" "memory" "LSoldHouse$Memory;", .fieldLink RX10 15 "SoldHouse$Memory" "floor" "LSoldHouse$Floor;", .fieldLink RX10 21 "SoldHouse$Floor" "plan" "LSoldHouse$Plan;", .fieldLink RX10 27 "SoldHouse$Plan" "things" "I", .fieldLink RX10 33 "SoldHouse$Plan" "them" "[I", .fieldLink RX10 37 "SoldHouse$Plan" "us" "[I", .methodLink RX10 40 yX10_isOurs, .instanceMethod yX10_isOurs, .selects RX10 yX10_isOurs yX10_isOurs, .code yX10_isOurs cX10_isOurs 2 (some .boolean), .fieldLink RX10 44 "SoldHouse$Memory" "now" "[I"] ++ wsX110 ++ wsX100 ++ wsX30 ++ wsX00 ++ wsX50)
def wsX11_trade_r1 : List Cond := [Cond.fieldLink RX11 72 "SoldHouse" "trader" "LSoldHouse$Trader;", Cond.methodLink RX11 240 yX10_bestPair, Cond.instanceMethod yX10_bestPair, Cond.selects RX10 yX10_bestPair yX10_bestPair, Cond.initialized RX10, Cond.code yX10_bestPair cX10_bestPair 6 (some .int), Cond.methodLink RX10 47 yX10_isFair, Cond.instanceMethod yX10_isFair, Cond.selects RX10 yX10_isFair yX10_isFair, Cond.code yX10_isFair cX10_isFair 4 (some .boolean), Cond.fieldLink RX10 9 "SoldHouse$Trader" "memory" "LSoldHouse$Memory;", Cond.fieldLink RX10 15 "SoldHouse$Memory" "floor" "LSoldHouse$Floor;", Cond.fieldLink RX10 21 "SoldHouse$Floor" "plan" "LSoldHouse$Plan;", Cond.fieldLink RX10 27 "SoldHouse$Plan" "things" "I", Cond.methodLink RX10 40 yX10_isOurs, Cond.instanceMethod yX10_isOurs, Cond.selects RX10 yX10_isOurs yX10_isOurs, Cond.code yX10_isOurs cX10_isOurs 2 (some .boolean), Cond.fieldLink RX10 44 "SoldHouse$Memory" "now" "[I", Cond.methodLink RX10 55 yX10_ourGain, Cond.instanceMethod yX10_ourGain, Cond.selects RX10 yX10_ourGain yX10_ourGain, Cond.code yX10_ourGain cX10_ourGain 3 (some .int), Cond.fieldLink RX10 37 "SoldHouse$Plan" "us" "[I"]
def wsX11_trade_r2 : List Cond := [Cond.methodLink RX10 58 yX10_theirGain, Cond.instanceMethod yX10_theirGain, Cond.selects RX10 yX10_theirGain yX10_theirGain, Cond.code yX10_theirGain cX10_theirGain 3 (some .int), Cond.fieldLink RX10 33 "SoldHouse$Plan" "them" "[I", Cond.methodLink RX10 51 yX10_gainOf, Cond.instanceMethod yX10_gainOf, Cond.selects RX10 yX10_gainOf yX10_gainOf, Cond.code yX10_gainOf cX10_gainOf 3 (some .int), Cond.methodLink RX11 243 yX10_gainOf]
def wsX11_trade : List Cond := .code yX11_trade cX11_trade 5 (some .int) :: ((wsX11_trade_r1 ++ wsX11_trade_r2) ++ wsX110 ++ wsX100 ++ wsX30 ++ wsX00 ++ wsX50)
def wsX11_trades_r1 : List Cond := [Cond.fieldLink RX11 72 "SoldHouse" "trader" "LSoldHouse$Trader;", Cond.methodLink RX11 246 yX10_mostTrades, Cond.instanceMethod yX10_mostTrades, Cond.selects RX10 yX10_mostTrades yX10_mostTrades, Cond.initialized RX10, Cond.code yX10_mostTrades cX10_mostTrades 1 (some .int), Cond.methodLink RX10 61 yX10_mostPairs, Cond.instanceMethod yX10_mostPairs, Cond.selects RX10 yX10_mostPairs yX10_mostPairs, Cond.code yX10_mostPairs cX10_mostPairs 6 (some .int), Cond.fieldLink RX10 9 "SoldHouse$Trader" "memory" "LSoldHouse$Memory;", Cond.fieldLink RX10 15 "SoldHouse$Memory" "floor" "LSoldHouse$Floor;", Cond.fieldLink RX10 21 "SoldHouse$Floor" "plan" "LSoldHouse$Plan;", Cond.fieldLink RX10 27 "SoldHouse$Plan" "things" "I", Cond.methodLink RX10 64 Lib.Math.max.name, Cond.static Lib.Math.max.name, Cond.initialized "java/lang/Math", Cond.code Lib.Math.max.name Lib.Math.max.code 2 (some .int), Cond.methodLink RX10 47 yX10_isFair, Cond.instanceMethod yX10_isFair, Cond.selects RX10 yX10_isFair yX10_isFair, Cond.code yX10_isFair cX10_isFair 4 (some .boolean), Cond.methodLink RX10 40 yX10_isOurs, Cond.instanceMethod yX10_isOurs]
def wsX11_trades_r2 : List Cond := [Cond.selects RX10 yX10_isOurs yX10_isOurs, Cond.code yX10_isOurs cX10_isOurs 2 (some .boolean), Cond.fieldLink RX10 44 "SoldHouse$Memory" "now" "[I", Cond.methodLink RX10 55 yX10_ourGain, Cond.instanceMethod yX10_ourGain, Cond.selects RX10 yX10_ourGain yX10_ourGain, Cond.code yX10_ourGain cX10_ourGain 3 (some .int), Cond.fieldLink RX10 37 "SoldHouse$Plan" "us" "[I", Cond.methodLink RX10 58 yX10_theirGain, Cond.instanceMethod yX10_theirGain, Cond.selects RX10 yX10_theirGain yX10_theirGain, Cond.code yX10_theirGain cX10_theirGain 3 (some .int), Cond.fieldLink RX10 33 "SoldHouse$Plan" "them" "[I"]
def wsX11_trades : List Cond := .code yX11_trades cX11_trades 1 (some .int) :: ((wsX11_trades_r1 ++ wsX11_trades_r2) ++ wsX110 ++ wsX100 ++ wsX30 ++ wsX00 ++ wsX50)
def wsX11_wealth : List Cond := .code yX11_wealth cX11_wealth 2 (some .int) :: ([.fieldLink RX11 72 "SoldHouse" "trader" "LSoldHouse$Trader;", .fieldLink RX11 10 "SoldHouse" "plan" "LSoldHouse$Plan;", .fieldLink RX11 131 "SoldHouse$Plan" "us" "[I", .fieldLink RX11 134 "SoldHouse$Plan" "them" "[I", .methodLink RX11 249 yX10_worthOf, .instanceMethod yX10_worthOf, .selects RX10 yX10_worthOf yX10_worthOf, .initialized RX10, .code yX10_worthOf cX10_worthOf 5 (some .int), .fieldLink RX10 9 "SoldHouse$Trader" "memory" "LSoldHouse$Memory;", .fieldLink RX10 15 "SoldHouse$Memory" "floor" "LSoldHouse$Floor;", .fieldLink RX10 21 "SoldHouse$Floor" "plan" "LSoldHouse$Plan;", .fieldLink RX10 27 "SoldHouse$Plan" "things" "I", .fieldLink RX10 44 "SoldHouse$Memory" "now" "[I"] ++ wsX110 ++ wsX50 ++ wsX100 ++ wsX30 ++ wsX00)
def wsX11_off : List Cond := .code yX11_off cX11_off 3 (some .int) :: ([.fieldLink RX11 10 "SoldHouse" "plan" "LSoldHouse$Plan;", .fieldLink RX11 253 "SoldHouse$Plan" "things" "I", .fieldLink RX11 63 "SoldHouse" "memory" "LSoldHouse$Memory;", .fieldLink RX11 128 "SoldHouse$Memory" "now" "[I", .methodLink RX11 256 yX3_farOff, .instanceMethod yX3_farOff, .selects RX3 yX3_farOff yX3_farOff, .initialized RX3, .code yX3_farOff cX3_farOff 4 (some .int), .fieldLink RX3 30 "SoldHouse$Memory" "floor" "LSoldHouse$Floor;", .methodLink RX3 65 yX0_farOf, .instanceMethod yX0_farOf, .selects RX0 yX0_farOf yX0_farOf, .initialized RX0, .code yX0_farOf cX0_farOf 3 (some .int), .fieldLink RX0 15 "SoldHouse$Floor" "far" "[I"] ++ wsX110 ++ wsX50 ++ wsX30 ++ wsX00)
def wsX11_right : List Cond := .code yX11_right cX11_right 1 (some .int) :: ([.fieldLink RX11 63 "SoldHouse" "memory" "LSoldHouse$Memory;", .fieldLink RX11 128 "SoldHouse$Memory" "now" "[I", .methodLink RX11 260 yX3_rightThings, .instanceMethod yX3_rightThings, .selects RX3 yX3_rightThings yX3_rightThings, .initialized RX3, .code yX3_rightThings cX3_rightThings 4 (some .int), .fieldLink RX3 30 "SoldHouse$Memory" "floor" "LSoldHouse$Floor;", .fieldLink RX3 34 "SoldHouse$Floor" "plan" "LSoldHouse$Plan;", .fieldLink RX3 40 "SoldHouse$Plan" "things" "I", .methodLink RX3 61 yX3_isRight, .instanceMethod yX3_isRight, .selects RX3 yX3_isRight yX3_isRight, .code yX3_isRight cX3_isRight 3 (some .boolean)] ++ wsX110 ++ wsX30 ++ wsX00 ++ wsX50)
def wsX11_deep : List Cond := .code yX11_deep cX11_deep 4 (some .int) :: ([.fieldLink RX11 10 "SoldHouse" "plan" "LSoldHouse$Plan;", .fieldLink RX11 253 "SoldHouse$Plan" "things" "I", .fieldLink RX11 63 "SoldHouse" "memory" "LSoldHouse$Memory;", .fieldLink RX11 128 "SoldHouse$Memory" "now" "[I"] ++ wsX110 ++ wsX50 ++ wsX30)
def wsX11_stay_r1 : List Cond := [Cond.fieldLink RX11 63 "SoldHouse" "memory" "LSoldHouse$Memory;", Cond.methodLink RX11 125 yX11_isThing, Cond.instanceMethod yX11_isThing, Cond.selects RX11 yX11_isThing yX11_isThing, Cond.initialized RX11, Cond.code yX11_isThing cX11_isThing 2 (some .boolean), Cond.fieldLink RX11 10 "SoldHouse" "plan" "LSoldHouse$Plan;", Cond.fieldLink RX11 253 "SoldHouse$Plan" "things" "I", Cond.methodLink RX11 263 yX3_oddsToStay, Cond.instanceMethod yX3_oddsToStay, Cond.selects RX3 yX3_oddsToStay yX3_oddsToStay, Cond.initialized RX3, Cond.code yX3_oddsToStay cX3_oddsToStay 7 (some .int), Cond.fieldLink RX3 11 "SoldHouse$Memory" "now" "[I", Cond.methodLink RX3 102 Lib.Math.max.name, Cond.static Lib.Math.max.name, Cond.initialized "java/lang/Math", Cond.code Lib.Math.max.name Lib.Math.max.code 2 (some .int), Cond.methodLink RX3 108 yX3_sureOf, Cond.instanceMethod yX3_sureOf, Cond.selects RX3 yX3_sureOf yX3_sureOf, Cond.code yX3_sureOf cX3_sureOf 5 (some .int), Cond.fieldLink RX3 30 "SoldHouse$Memory" "floor" "LSoldHouse$Floor;", Cond.fieldLink RX3 34 "SoldHouse$Floor" "plan" "LSoldHouse$Plan;"]
def wsX11_stay_r2 : List Cond := [Cond.fieldLink RX3 69 "SoldHouse$Plan" "sure" "LSoldHouse$Formula;", Cond.fieldLink RX3 73 "SoldHouse$Formula" "told" "Z", Cond.fieldLink RX3 79 "SoldHouse$Plan" "us" "[I", Cond.fieldLink RX3 82 "SoldHouse$Plan" "them" "[I", Cond.methodLink RX3 97 Lib.Math.min.name, Cond.static Lib.Math.min.name, Cond.code Lib.Math.min.name Lib.Math.min.code 2 (some .int), Cond.methodLink RX3 85 yX3_farOff, Cond.instanceMethod yX3_farOff, Cond.selects RX3 yX3_farOff yX3_farOff, Cond.code yX3_farOff cX3_farOff 4 (some .int), Cond.methodLink RX3 65 yX0_farOf, Cond.instanceMethod yX0_farOf, Cond.selects RX0 yX0_farOf yX0_farOf, Cond.initialized RX0, Cond.code yX0_farOf cX0_farOf 3 (some .int), Cond.fieldLink RX0 15 "SoldHouse$Floor" "far" "[I", Cond.methodLink RX3 89 yX1_know, Cond.instanceMethod yX1_know, Cond.selects RX1 yX1_know yX1_know, Cond.initialized RX1, Cond.code yX1_know cX1_know 6 none, Cond.fieldLink RX1 16 "SoldHouse$Formula" "known" "[I", Cond.methodLink RX3 93 yX1_work]
def wsX11_stay_r3 : List Cond := [Cond.instanceMethod yX1_work, Cond.selects RX1 yX1_work yX1_work, Cond.code yX1_work cX1_work 4 (some .int), Cond.fieldLink RX1 19 "SoldHouse$Formula" "size" "I", Cond.fieldLink RX1 9 "SoldHouse$Formula" "steps" "[I", Cond.fieldLink RX1 13 "SoldHouse$Formula" "stack" "[I", Cond.methodLink RX1 30 yX1_join, Cond.static yX1_join, Cond.code yX1_join cX1_join 3 (some .int), Cond.methodLink RX3 112 yX3_commonOf, Cond.static yX3_commonOf, Cond.code yX3_commonOf cX3_commonOf 6 (some .int)]
def wsX11_stay : List Cond := .code yX11_stay cX11_stay 4 (some .int) :: ((wsX11_stay_r1 ++ (wsX11_stay_r2 ++ wsX11_stay_r3)) ++ wsX110 ++ wsX50 ++ wsX30 ++ wsX00 ++ wsX10)
def wsX11_will_r1 : List Cond := [Cond.fieldLink RX11 63 "SoldHouse" "memory" "LSoldHouse$Memory;", Cond.methodLink RX11 125 yX11_isThing, Cond.instanceMethod yX11_isThing, Cond.selects RX11 yX11_isThing yX11_isThing, Cond.initialized RX11, Cond.code yX11_isThing cX11_isThing 2 (some .boolean), Cond.fieldLink RX11 10 "SoldHouse" "plan" "LSoldHouse$Plan;", Cond.fieldLink RX11 253 "SoldHouse$Plan" "things" "I", Cond.methodLink RX11 266 yX3_thoughtBehind, Cond.instanceMethod yX3_thoughtBehind, Cond.selects RX3 yX3_thoughtBehind yX3_thoughtBehind, Cond.initialized RX3, Cond.code yX3_thoughtBehind cX3_thoughtBehind 4 (some .int), Cond.fieldLink RX3 11 "SoldHouse$Memory" "now" "[I", Cond.fieldLink RX3 15 "SoldHouse$Memory" "ahead" "[I", Cond.methodLink RX3 115 arraycopyName, Cond.native arraycopyName, Cond.static arraycopyName, Cond.initialized "java/lang/System", Cond.methodLink RX3 121 yX3_passDay, Cond.instanceMethod yX3_passDay, Cond.selects RX3 yX3_passDay yX3_passDay, Cond.code yX3_passDay cX3_passDay 5 (some .int), Cond.fieldLink RX3 30 "SoldHouse$Memory" "floor" "LSoldHouse$Floor;"]
def wsX11_will_r2 : List Cond := [Cond.fieldLink RX3 34 "SoldHouse$Floor" "plan" "LSoldHouse$Plan;", Cond.fieldLink RX3 105 "SoldHouse$Plan" "rooms" "I", Cond.methodLink RX3 102 Lib.Math.max.name, Cond.static Lib.Math.max.name, Cond.initialized "java/lang/Math", Cond.code Lib.Math.max.name Lib.Math.max.code 2 (some .int), Cond.fieldLink RX3 40 "SoldHouse$Plan" "things" "I", Cond.methodLink RX3 108 yX3_sureOf, Cond.instanceMethod yX3_sureOf, Cond.selects RX3 yX3_sureOf yX3_sureOf, Cond.code yX3_sureOf cX3_sureOf 5 (some .int), Cond.fieldLink RX3 69 "SoldHouse$Plan" "sure" "LSoldHouse$Formula;", Cond.fieldLink RX3 73 "SoldHouse$Formula" "told" "Z", Cond.fieldLink RX3 79 "SoldHouse$Plan" "us" "[I", Cond.fieldLink RX3 82 "SoldHouse$Plan" "them" "[I", Cond.methodLink RX3 97 Lib.Math.min.name, Cond.static Lib.Math.min.name, Cond.code Lib.Math.min.name Lib.Math.min.code 2 (some .int), Cond.methodLink RX3 85 yX3_farOff, Cond.instanceMethod yX3_farOff, Cond.selects RX3 yX3_farOff yX3_farOff, Cond.code yX3_farOff cX3_farOff 4 (some .int), Cond.methodLink RX3 65 yX0_farOf, Cond.instanceMethod yX0_farOf]
def wsX11_will_r3 : List Cond := [Cond.selects RX0 yX0_farOf yX0_farOf, Cond.initialized RX0, Cond.code yX0_farOf cX0_farOf 3 (some .int), Cond.fieldLink RX0 15 "SoldHouse$Floor" "far" "[I", Cond.methodLink RX3 89 yX1_know, Cond.instanceMethod yX1_know, Cond.selects RX1 yX1_know yX1_know, Cond.initialized RX1, Cond.code yX1_know cX1_know 6 none, Cond.fieldLink RX1 16 "SoldHouse$Formula" "known" "[I", Cond.methodLink RX3 93 yX1_work, Cond.instanceMethod yX1_work, Cond.selects RX1 yX1_work yX1_work, Cond.code yX1_work cX1_work 4 (some .int), Cond.fieldLink RX1 19 "SoldHouse$Formula" "size" "I", Cond.fieldLink RX1 9 "SoldHouse$Formula" "steps" "[I", Cond.fieldLink RX1 13 "SoldHouse$Formula" "stack" "[I", Cond.methodLink RX1 30 yX1_join, Cond.static yX1_join, Cond.code yX1_join cX1_join 3 (some .int)]
def wsX11_will : List Cond := .code yX11_will cX11_will 3 (some .int) :: ((wsX11_will_r1 ++ (wsX11_will_r2 ++ wsX11_will_r3)) ++ wsX110 ++ wsX50 ++ wsX30 ++ wsX00 ++ wsX10)
def wsX11_lost_r1 : List Cond := [Cond.fieldLink RX11 63 "SoldHouse" "memory" "LSoldHouse$Memory;", Cond.methodLink RX11 269 yX3_daysTillLost, Cond.instanceMethod yX3_daysTillLost, Cond.selects RX3 yX3_daysTillLost yX3_daysTillLost, Cond.initialized RX3, Cond.code yX3_daysTillLost cX3_daysTillLost 2 (some .int), Cond.fieldLink RX3 30 "SoldHouse$Memory" "floor" "LSoldHouse$Floor;", Cond.fieldLink RX3 34 "SoldHouse$Floor" "plan" "LSoldHouse$Plan;", Cond.fieldLink RX3 40 "SoldHouse$Plan" "things" "I", Cond.fieldLink RX3 11 "SoldHouse$Memory" "now" "[I", Cond.fieldLink RX3 15 "SoldHouse$Memory" "ahead" "[I", Cond.methodLink RX3 115 arraycopyName, Cond.native arraycopyName, Cond.static arraycopyName, Cond.initialized "java/lang/System", Cond.methodLink RX3 125 yX3_rightThings, Cond.instanceMethod yX3_rightThings, Cond.selects RX3 yX3_rightThings yX3_rightThings, Cond.code yX3_rightThings cX3_rightThings 4 (some .int), Cond.methodLink RX3 61 yX3_isRight, Cond.instanceMethod yX3_isRight, Cond.selects RX3 yX3_isRight yX3_isRight, Cond.code yX3_isRight cX3_isRight 3 (some .boolean), Cond.methodLink RX3 121 yX3_passDay]
def wsX11_lost_r2 : List Cond := [Cond.instanceMethod yX3_passDay, Cond.selects RX3 yX3_passDay yX3_passDay, Cond.code yX3_passDay cX3_passDay 5 (some .int), Cond.fieldLink RX3 105 "SoldHouse$Plan" "rooms" "I", Cond.methodLink RX3 102 Lib.Math.max.name, Cond.static Lib.Math.max.name, Cond.initialized "java/lang/Math", Cond.code Lib.Math.max.name Lib.Math.max.code 2 (some .int), Cond.methodLink RX3 108 yX3_sureOf, Cond.instanceMethod yX3_sureOf, Cond.selects RX3 yX3_sureOf yX3_sureOf, Cond.code yX3_sureOf cX3_sureOf 5 (some .int), Cond.fieldLink RX3 69 "SoldHouse$Plan" "sure" "LSoldHouse$Formula;", Cond.fieldLink RX3 73 "SoldHouse$Formula" "told" "Z", Cond.fieldLink RX3 79 "SoldHouse$Plan" "us" "[I", Cond.fieldLink RX3 82 "SoldHouse$Plan" "them" "[I", Cond.methodLink RX3 97 Lib.Math.min.name, Cond.static Lib.Math.min.name, Cond.code Lib.Math.min.name Lib.Math.min.code 2 (some .int), Cond.methodLink RX3 85 yX3_farOff, Cond.instanceMethod yX3_farOff, Cond.selects RX3 yX3_farOff yX3_farOff, Cond.code yX3_farOff cX3_farOff 4 (some .int), Cond.methodLink RX3 65 yX0_farOf]
def wsX11_lost_r3 : List Cond := [Cond.instanceMethod yX0_farOf, Cond.selects RX0 yX0_farOf yX0_farOf, Cond.initialized RX0, Cond.code yX0_farOf cX0_farOf 3 (some .int), Cond.fieldLink RX0 15 "SoldHouse$Floor" "far" "[I", Cond.methodLink RX3 89 yX1_know, Cond.instanceMethod yX1_know, Cond.selects RX1 yX1_know yX1_know, Cond.initialized RX1, Cond.code yX1_know cX1_know 6 none, Cond.fieldLink RX1 16 "SoldHouse$Formula" "known" "[I", Cond.methodLink RX3 93 yX1_work, Cond.instanceMethod yX1_work, Cond.selects RX1 yX1_work yX1_work, Cond.code yX1_work cX1_work 4 (some .int), Cond.fieldLink RX1 19 "SoldHouse$Formula" "size" "I", Cond.fieldLink RX1 9 "SoldHouse$Formula" "steps" "[I", Cond.fieldLink RX1 13 "SoldHouse$Formula" "stack" "[I", Cond.methodLink RX1 30 yX1_join, Cond.static yX1_join, Cond.code yX1_join cX1_join 3 (some .int)]
def wsX11_lost : List Cond := .code yX11_lost cX11_lost 1 (some .int) :: ((wsX11_lost_r1 ++ (wsX11_lost_r2 ++ wsX11_lost_r3)) ++ wsX110 ++ wsX30 ++ wsX00 ++ wsX50 ++ wsX10)
def wsX11_lies : List Cond := .code yX11_lies cX11_lies 2 (some .int) :: ([.fieldLink RX11 49 "SoldHouse" "routes" "LSoldHouse$Routes;", .fieldLink RX11 187 "SoldHouse$Routes" "lying" "I", .fieldLink RX11 272 "SoldHouse$Routes" "lie" "[I"] ++ wsX110 ++ wsX70)
def wsX11_heard_r1 : List Cond := [Cond.fieldLink RX11 79 "SoldHouse" "night" "LSoldHouse$Night;", Cond.fieldLink RX11 40 "SoldHouse" "floor" "LSoldHouse$Floor;", Cond.methodLink RX11 275 yX11_isMinute, Cond.static yX11_isMinute, Cond.initialized RX11, Cond.code yX11_isMinute cX11_isMinute 1 (some .boolean), Cond.methodLink RX11 278 yX0_creakingRooms, Cond.instanceMethod yX0_creakingRooms, Cond.selects RX0 yX0_creakingRooms yX0_creakingRooms, Cond.initialized RX0, Cond.code yX0_creakingRooms cX0_creakingRooms 4 (some .int), Cond.fieldLink RX0 21 "SoldHouse$Floor" "plan" "LSoldHouse$Plan;", Cond.fieldLink RX0 43 "SoldHouse$Plan" "rooms" "I", Cond.fieldLink RX0 88 "SoldHouse$Plan" "creaks" "[I", Cond.methodLink RX11 281 yX4_note, Cond.instanceMethod yX4_note, Cond.selects RX4 yX4_note yX4_note, Cond.initialized RX4, Cond.code yX4_note cX4_note 4 (some .int), Cond.fieldLink RX4 37 "SoldHouse$Night" "count" "I", Cond.fieldLink RX4 11 "SoldHouse$Night" "minute" "[I", Cond.fieldLink RX4 15 "SoldHouse$Night" "rooms" "[I", Cond.fieldLink RX4 18 "SoldHouse$Night" "toldAt" "[I", Cond.fieldLink RX4 41 "SoldHouse$Night" "time" "I"]
def wsX11_heard_r2 : List Cond := [Cond.fieldLink RX4 21 "SoldHouse$Night" "untoldAt" "[I"]
def wsX11_heard : List Cond := .code yX11_heard cX11_heard 4 (some .int) :: ((wsX11_heard_r1 ++ wsX11_heard_r2) ++ wsX110 ++ wsX00 ++ wsX50 ++ wsX40)
def wsX11_seen : List Cond := .code yX11_seen cX11_seen 4 (some .int) :: ([.fieldLink RX11 79 "SoldHouse" "night" "LSoldHouse$Night;", .methodLink RX11 110 yX11_isRoom, .instanceMethod yX11_isRoom, .selects RX11 yX11_isRoom yX11_isRoom, .initialized RX11, .code yX11_isRoom cX11_isRoom 2 (some .boolean), .fieldLink RX11 10 "SoldHouse" "plan" "LSoldHouse$Plan;", .fieldLink RX11 101 "SoldHouse$Plan" "rooms" "I", .methodLink RX11 275 yX11_isMinute, .static yX11_isMinute, .code yX11_isMinute cX11_isMinute 1 (some .boolean), .methodLink RX11 281 yX4_note, .instanceMethod yX4_note, .selects RX4 yX4_note yX4_note, .initialized RX4, .code yX4_note cX4_note 4 (some .int), .fieldLink RX4 37 "SoldHouse$Night" "count" "I", .fieldLink RX4 11 "SoldHouse$Night" "minute" "[I", .fieldLink RX4 15 "SoldHouse$Night" "rooms" "[I", .fieldLink RX4 18 "SoldHouse$Night" "toldAt" "[I", .fieldLink RX4 41 "SoldHouse$Night" "time" "I", .fieldLink RX4 21 "SoldHouse$Night" "untoldAt" "[I"] ++ wsX110 ++ wsX50 ++ wsX40)
def wsX11_untell : List Cond := .code yX11_untell cX11_untell 2 (some .boolean) :: ([.fieldLink RX11 79 "SoldHouse" "night" "LSoldHouse$Night;", .methodLink RX11 285 yX4_takeBack, .instanceMethod yX4_takeBack, .selects RX4 yX4_takeBack yX4_takeBack, .initialized RX4, .code yX4_takeBack cX4_takeBack 2 (some .boolean), .fieldLink RX4 37 "SoldHouse$Night" "count" "I", .fieldLink RX4 21 "SoldHouse$Night" "untoldAt" "[I", .fieldLink RX4 41 "SoldHouse$Night" "time" "I"] ++ wsX110 ++ wsX40)
theorem dX11_parts_0 : decode cX11_parts 0 = .ok (.aload_n 0, 1) := by decide +kernel
theorem dX11_parts_1 : decode cX11_parts 1 = .ok (.getfield 40, 3) := by decide +kernel
theorem dX11_parts_4 : decode cX11_parts 4 = .ok (.getfield 150, 3) := by decide +kernel
theorem dX11_parts_7 : decode cX11_parts 7 = .ok (.ireturn, 1) := by decide +kernel
theorem dX11_hunt_0 : decode cX11_hunt 0 = .ok (.iload_n 1, 1) := by decide +kernel
theorem dX11_hunt_1 : decode cX11_hunt 1 = .ok (.ifCond .eq 11, 3) := by decide +kernel
theorem dX11_hunt_4 : decode cX11_hunt 4 = .ok (.aload_n 0, 1) := by decide +kernel
theorem dX11_hunt_5 : decode cX11_hunt 5 = .ok (.iload_n 1, 1) := by decide +kernel
theorem dX11_hunt_6 : decode cX11_hunt 6 = .ok (.invokevirtual 203, 3) := by decide +kernel
theorem dX11_hunt_9 : decode cX11_hunt 9 = .ok (.ifCond .ne 5, 3) := by decide +kernel
theorem dX11_hunt_12 : decode cX11_hunt 12 = .ok (.iconst (-1), 1) := by decide +kernel
theorem dX11_hunt_13 : decode cX11_hunt 13 = .ok (.ireturn, 1) := by decide +kernel
theorem dX11_hunt_14 : decode cX11_hunt 14 = .ok (.aload_n 0, 1) := by decide +kernel
theorem dX11_hunt_15 : decode cX11_hunt 15 = .ok (.getfield 56, 3) := by decide +kernel
theorem dX11_hunt_18 : decode cX11_hunt 18 = .ok (.iload_n 1, 1) := by decide +kernel
theorem dX11_hunt_19 : decode cX11_hunt 19 = .ok (.invokevirtual 206, 3) := by decide +kernel
theorem dX11_hunt_22 : decode cX11_hunt 22 = .ok (.ireturn, 1) := by decide +kernel
theorem dX11_first_0 : decode cX11_first 0 = .ok (.iload_n 1, 1) := by decide +kernel
theorem dX11_first_1 : decode cX11_first 1 = .ok (.ifCond .eq 11, 3) := by decide +kernel
theorem dX11_first_4 : decode cX11_first 4 = .ok (.aload_n 0, 1) := by decide +kernel
theorem dX11_first_5 : decode cX11_first 5 = .ok (.iload_n 1, 1) := by decide +kernel
theorem dX11_first_6 : decode cX11_first 6 = .ok (.invokevirtual 203, 3) := by decide +kernel
theorem dX11_first_9 : decode cX11_first 9 = .ok (.ifCond .ne 5, 3) := by decide +kernel
theorem dX11_first_12 : decode cX11_first 12 = .ok (.iconst (-1), 1) := by decide +kernel
theorem dX11_first_13 : decode cX11_first 13 = .ok (.ireturn, 1) := by decide +kernel
theorem dX11_first_14 : decode cX11_first 14 = .ok (.aload_n 0, 1) := by decide +kernel
theorem dX11_first_15 : decode cX11_first 15 = .ok (.getfield 56, 3) := by decide +kernel
theorem dX11_first_18 : decode cX11_first 18 = .ok (.iload_n 1, 1) := by decide +kernel
theorem dX11_first_19 : decode cX11_first 19 = .ok (.invokevirtual 210, 3) := by decide +kernel
theorem dX11_first_22 : decode cX11_first 22 = .ok (.ireturn, 1) := by decide +kernel
theorem dX11_meet_0 : decode cX11_meet 0 = .ok (.aload_n 0, 1) := by decide +kernel
theorem dX11_meet_1 : decode cX11_meet 1 = .ok (.iload_n 1, 1) := by decide +kernel
theorem dX11_meet_2 : decode cX11_meet 2 = .ok (.invokevirtual 110, 3) := by decide +kernel
theorem dX11_meet_5 : decode cX11_meet 5 = .ok (.ifCond .eq 11, 3) := by decide +kernel
theorem dX11_meet_8 : decode cX11_meet 8 = .ok (.aload_n 0, 1) := by decide +kernel
theorem dX11_meet_9 : decode cX11_meet 9 = .ok (.iload_n 2, 1) := by decide +kernel
theorem dX11_meet_10 : decode cX11_meet 10 = .ok (.invokevirtual 110, 3) := by decide +kernel
theorem dX11_meet_13 : decode cX11_meet 13 = .ok (.ifCond .ne 5, 3) := by decide +kernel
theorem dX11_meet_16 : decode cX11_meet 16 = .ok (.iconst (-1), 1) := by decide +kernel
theorem dX11_meet_17 : decode cX11_meet 17 = .ok (.ireturn, 1) := by decide +kernel
theorem dX11_meet_18 : decode cX11_meet 18 = .ok (.aload_n 0, 1) := by decide +kernel
theorem dX11_meet_19 : decode cX11_meet 19 = .ok (.getfield 40, 3) := by decide +kernel
theorem dX11_meet_22 : decode cX11_meet 22 = .ok (.iload_n 1, 1) := by decide +kernel
theorem dX11_meet_23 : decode cX11_meet 23 = .ok (.iload_n 2, 1) := by decide +kernel
theorem dX11_meet_24 : decode cX11_meet 24 = .ok (.invokevirtual 213, 3) := by decide +kernel
theorem dX11_meet_27 : decode cX11_meet 27 = .ok (.istore 4, 2) := by decide +kernel
theorem dX11_meet_29 : decode cX11_meet 29 = .ok (.iload 4, 2) := by decide +kernel
theorem dX11_meet_31 : decode cX11_meet 31 = .ok (.iconst (-1), 1) := by decide +kernel
theorem dX11_meet_32 : decode cX11_meet 32 = .ok (.if_icmp .ne 5, 3) := by decide +kernel
theorem dX11_meet_35 : decode cX11_meet 35 = .ok (.iconst (-1), 1) := by decide +kernel
theorem dX11_meet_36 : decode cX11_meet 36 = .ok (.ireturn, 1) := by decide +kernel
theorem dX11_meet_37 : decode cX11_meet 37 = .ok (.iload_n 3, 1) := by decide +kernel
theorem dX11_meet_38 : decode cX11_meet 38 = .ok (.lookupswitch 41 #[(0, 26), (1, 38)], 26) := by decide +kernel
theorem dX11_meet_64 : decode cX11_meet 64 = .ok (.aload_n 0, 1) := by decide +kernel
theorem dX11_meet_65 : decode cX11_meet 65 = .ok (.getfield 40, 3) := by decide +kernel
theorem dX11_meet_68 : decode cX11_meet 68 = .ok (.iload 4, 2) := by decide +kernel
theorem dX11_meet_70 : decode cX11_meet 70 = .ok (.iload_n 1, 1) := by decide +kernel
theorem dX11_meet_71 : decode cX11_meet 71 = .ok (.iload_n 2, 1) := by decide +kernel
theorem dX11_meet_72 : decode cX11_meet 72 = .ok (.invokevirtual 216, 3) := by decide +kernel
theorem dX11_meet_75 : decode cX11_meet 75 = .ok (.ireturn, 1) := by decide +kernel
theorem dX11_meet_76 : decode cX11_meet 76 = .ok (.iload 4, 2) := by decide +kernel
theorem dX11_meet_78 : decode cX11_meet 78 = .ok (.ireturn, 1) := by decide +kernel
theorem dX11_meet_79 : decode cX11_meet 79 = .ok (.iconst (-1), 1) := by decide +kernel
theorem dX11_meet_80 : decode cX11_meet 80 = .ok (.ireturn, 1) := by decide +kernel
theorem dX11_bar_0 : decode cX11_bar 0 = .ok (.aload_n 0, 1) := by decide +kernel
theorem dX11_bar_1 : decode cX11_bar 1 = .ok (.iload_n 1, 1) := by decide +kernel
theorem dX11_bar_2 : decode cX11_bar 2 = .ok (.invokevirtual 110, 3) := by decide +kernel
theorem dX11_bar_5 : decode cX11_bar 5 = .ok (.ifCond .eq 11, 3) := by decide +kernel
theorem dX11_bar_8 : decode cX11_bar 8 = .ok (.aload_n 0, 1) := by decide +kernel
theorem dX11_bar_9 : decode cX11_bar 9 = .ok (.iload_n 2, 1) := by decide +kernel
theorem dX11_bar_10 : decode cX11_bar 10 = .ok (.invokevirtual 110, 3) := by decide +kernel
theorem dX11_bar_13 : decode cX11_bar 13 = .ok (.ifCond .ne 5, 3) := by decide +kernel
theorem dX11_bar_16 : decode cX11_bar 16 = .ok (.iconst (-1), 1) := by decide +kernel
theorem dX11_bar_17 : decode cX11_bar 17 = .ok (.ireturn, 1) := by decide +kernel
theorem dX11_bar_18 : decode cX11_bar 18 = .ok (.aload_n 0, 1) := by decide +kernel
theorem dX11_bar_19 : decode cX11_bar 19 = .ok (.getfield 40, 3) := by decide +kernel
theorem dX11_bar_22 : decode cX11_bar 22 = .ok (.iload_n 1, 1) := by decide +kernel
theorem dX11_bar_23 : decode cX11_bar 23 = .ok (.iload_n 2, 1) := by decide +kernel
theorem dX11_bar_24 : decode cX11_bar 24 = .ok (.invokevirtual 220, 3) := by decide +kernel
theorem dX11_bar_27 : decode cX11_bar 27 = .ok (.istore 4, 2) := by decide +kernel
theorem dX11_bar_29 : decode cX11_bar 29 = .ok (.iload 4, 2) := by decide +kernel
theorem dX11_bar_31 : decode cX11_bar 31 = .ok (.iconst (-1), 1) := by decide +kernel
theorem dX11_bar_32 : decode cX11_bar 32 = .ok (.if_icmp .ne 5, 3) := by decide +kernel
theorem dX11_bar_35 : decode cX11_bar 35 = .ok (.iconst (-1), 1) := by decide +kernel
theorem dX11_bar_36 : decode cX11_bar 36 = .ok (.ireturn, 1) := by decide +kernel
theorem dX11_bar_37 : decode cX11_bar 37 = .ok (.iload_n 3, 1) := by decide +kernel
theorem dX11_bar_38 : decode cX11_bar 38 = .ok (.lookupswitch 35 #[(0, 26), (1, 32)], 26) := by decide +kernel
theorem dX11_bar_64 : decode cX11_bar 64 = .ok (.iload 4, 2) := by decide +kernel
theorem dX11_bar_66 : decode cX11_bar 66 = .ok (.invokestatic 223, 3) := by decide +kernel
theorem dX11_bar_69 : decode cX11_bar 69 = .ok (.ireturn, 1) := by decide +kernel
theorem dX11_bar_70 : decode cX11_bar 70 = .ok (.iload 4, 2) := by decide +kernel
theorem dX11_bar_72 : decode cX11_bar 72 = .ok (.ireturn, 1) := by decide +kernel
theorem dX11_bar_73 : decode cX11_bar 73 = .ok (.iconst (-1), 1) := by decide +kernel
theorem dX11_bar_74 : decode cX11_bar 74 = .ok (.ireturn, 1) := by decide +kernel
theorem dX11_tour_0 : decode cX11_tour 0 = .ok (.aload_n 0, 1) := by decide +kernel
theorem dX11_tour_1 : decode cX11_tour 1 = .ok (.getfield 49, 3) := by decide +kernel
theorem dX11_tour_4 : decode cX11_tour 4 = .ok (.iconst 0, 1) := by decide +kernel
theorem dX11_tour_5 : decode cX11_tour 5 = .ok (.putfield 187, 3) := by decide +kernel
theorem dX11_tour_8 : decode cX11_tour 8 = .ok (.aload_n 0, 1) := by decide +kernel
theorem dX11_tour_9 : decode cX11_tour 9 = .ok (.iload_n 1, 1) := by decide +kernel
theorem dX11_tour_10 : decode cX11_tour 10 = .ok (.invokevirtual 110, 3) := by decide +kernel
theorem dX11_tour_13 : decode cX11_tour 13 = .ok (.ifCond .eq 11, 3) := by decide +kernel
theorem dX11_tour_16 : decode cX11_tour 16 = .ok (.aload_n 0, 1) := by decide +kernel
theorem dX11_tour_17 : decode cX11_tour 17 = .ok (.iload_n 2, 1) := by decide +kernel
theorem dX11_tour_18 : decode cX11_tour 18 = .ok (.invokevirtual 203, 3) := by decide +kernel
theorem dX11_tour_21 : decode cX11_tour 21 = .ok (.ifCond .ne 5, 3) := by decide +kernel
theorem dX11_tour_24 : decode cX11_tour 24 = .ok (.iconst (-1), 1) := by decide +kernel
theorem dX11_tour_25 : decode cX11_tour 25 = .ok (.ireturn, 1) := by decide +kernel
theorem dX11_tour_26 : decode cX11_tour 26 = .ok (.aload_n 0, 1) := by decide +kernel
theorem dX11_tour_27 : decode cX11_tour 27 = .ok (.getfield 49, 3) := by decide +kernel
theorem dX11_tour_30 : decode cX11_tour 30 = .ok (.iload_n 1, 1) := by decide +kernel
theorem dX11_tour_31 : decode cX11_tour 31 = .ok (.iload_n 2, 1) := by decide +kernel
theorem dX11_tour_32 : decode cX11_tour 32 = .ok (.invokevirtual 228, 3) := by decide +kernel
theorem dX11_tour_35 : decode cX11_tour 35 = .ok (.ireturn, 1) := by decide +kernel
theorem dX11_centre_0 : decode cX11_centre 0 = .ok (.aload_n 0, 1) := by decide +kernel
theorem dX11_centre_1 : decode cX11_centre 1 = .ok (.getfield 40, 3) := by decide +kernel
theorem dX11_centre_4 : decode cX11_centre 4 = .ok (.invokevirtual 231, 3) := by decide +kernel
theorem dX11_centre_7 : decode cX11_centre 7 = .ok (.ireturn, 1) := by decide +kernel
theorem dX11_nooks_0 : decode cX11_nooks 0 = .ok (.iconst 0, 1) := by decide +kernel
theorem dX11_nooks_1 : decode cX11_nooks 1 = .ok (.istore_n 1, 1) := by decide +kernel
theorem dX11_nooks_2 : decode cX11_nooks 2 = .ok (.iconst 0, 1) := by decide +kernel
theorem dX11_nooks_3 : decode cX11_nooks 3 = .ok (.istore_n 2, 1) := by decide +kernel
theorem dX11_nooks_4 : decode cX11_nooks 4 = .ok (.iload_n 2, 1) := by decide +kernel
theorem dX11_nooks_5 : decode cX11_nooks 5 = .ok (.aload_n 0, 1) := by decide +kernel
theorem dX11_nooks_6 : decode cX11_nooks 6 = .ok (.getfield 10, 3) := by decide +kernel
theorem dX11_nooks_9 : decode cX11_nooks 9 = .ok (.getfield 101, 3) := by decide +kernel
theorem dX11_nooks_12 : decode cX11_nooks 12 = .ok (.if_icmp .ge 31, 3) := by decide +kernel
theorem dX11_nooks_15 : decode cX11_nooks 15 = .ok (.aload_n 0, 1) := by decide +kernel
theorem dX11_nooks_16 : decode cX11_nooks 16 = .ok (.getfield 40, 3) := by decide +kernel
theorem dX11_nooks_19 : decode cX11_nooks 19 = .ok (.getfield 118, 3) := by decide +kernel
theorem dX11_nooks_22 : decode cX11_nooks 22 = .ok (.iload_n 2, 1) := by decide +kernel
theorem dX11_nooks_23 : decode cX11_nooks 23 = .ok (.iaload, 1) := by decide +kernel
theorem dX11_nooks_24 : decode cX11_nooks 24 = .ok (.invokestatic 223, 3) := by decide +kernel
theorem dX11_nooks_27 : decode cX11_nooks 27 = .ok (.iconst 1, 1) := by decide +kernel
theorem dX11_nooks_28 : decode cX11_nooks 28 = .ok (.if_icmp .gt 9, 3) := by decide +kernel
theorem dX11_nooks_31 : decode cX11_nooks 31 = .ok (.iload_n 1, 1) := by decide +kernel
theorem dX11_nooks_32 : decode cX11_nooks 32 = .ok (.iconst 1, 1) := by decide +kernel
theorem dX11_nooks_33 : decode cX11_nooks 33 = .ok (.iload_n 2, 1) := by decide +kernel
theorem dX11_nooks_34 : decode cX11_nooks 34 = .ok (.ishl, 1) := by decide +kernel
theorem dX11_nooks_35 : decode cX11_nooks 35 = .ok (.ior, 1) := by decide +kernel
theorem dX11_nooks_36 : decode cX11_nooks 36 = .ok (.istore_n 1, 1) := by decide +kernel
theorem dX11_nooks_37 : decode cX11_nooks 37 = .ok (.iinc 2 1, 3) := by decide +kernel
theorem dX11_nooks_40 : decode cX11_nooks 40 = .ok (.goto (-36), 3) := by decide +kernel
theorem dX11_nooks_43 : decode cX11_nooks 43 = .ok (.iload_n 1, 1) := by decide +kernel
theorem dX11_nooks_44 : decode cX11_nooks 44 = .ok (.ireturn, 1) := by decide +kernel
theorem dX11_echo_0 : decode cX11_echo 0 = .ok (.aload_n 0, 1) := by decide +kernel
theorem dX11_echo_1 : decode cX11_echo 1 = .ok (.iload_n 1, 1) := by decide +kernel
theorem dX11_echo_2 : decode cX11_echo 2 = .ok (.invokevirtual 110, 3) := by decide +kernel
theorem dX11_echo_5 : decode cX11_echo 5 = .ok (.ifCond .eq 13, 3) := by decide +kernel
theorem dX11_echo_8 : decode cX11_echo 8 = .ok (.iload_n 2, 1) := by decide +kernel
theorem dX11_echo_9 : decode cX11_echo 9 = .ok (.ifCond .lt 9, 3) := by decide +kernel
theorem dX11_echo_12 : decode cX11_echo 12 = .ok (.iload_n 2, 1) := by decide +kernel
theorem dX11_echo_13 : decode cX11_echo 13 = .ok (.bipush 8, 2) := by decide +kernel
theorem dX11_echo_15 : decode cX11_echo 15 = .ok (.if_icmp .le 5, 3) := by decide +kernel
theorem dX11_echo_18 : decode cX11_echo 18 = .ok (.iconst (-1), 1) := by decide +kernel
theorem dX11_echo_19 : decode cX11_echo 19 = .ok (.ireturn, 1) := by decide +kernel
theorem dX11_echo_20 : decode cX11_echo 20 = .ok (.iconst 0, 1) := by decide +kernel
theorem dX11_echo_21 : decode cX11_echo 21 = .ok (.istore_n 3, 1) := by decide +kernel
theorem dX11_echo_22 : decode cX11_echo 22 = .ok (.iconst 0, 1) := by decide +kernel
theorem dX11_echo_23 : decode cX11_echo 23 = .ok (.istore 4, 2) := by decide +kernel
theorem dX11_echo_25 : decode cX11_echo 25 = .ok (.iload 4, 2) := by decide +kernel
theorem dX11_echo_27 : decode cX11_echo 27 = .ok (.aload_n 0, 1) := by decide +kernel
theorem dX11_echo_28 : decode cX11_echo 28 = .ok (.getfield 10, 3) := by decide +kernel
theorem dX11_echo_31 : decode cX11_echo 31 = .ok (.getfield 101, 3) := by decide +kernel
theorem dX11_echo_34 : decode cX11_echo 34 = .ok (.if_icmp .ge 46, 3) := by decide +kernel
theorem dX11_echo_37 : decode cX11_echo 37 = .ok (.aload_n 0, 1) := by decide +kernel
theorem dX11_echo_38 : decode cX11_echo 38 = .ok (.getfield 40, 3) := by decide +kernel
theorem dX11_echo_41 : decode cX11_echo 41 = .ok (.iload_n 1, 1) := by decide +kernel
theorem dX11_echo_42 : decode cX11_echo 42 = .ok (.iload 4, 2) := by decide +kernel
theorem dX11_echo_44 : decode cX11_echo 44 = .ok (.invokevirtual 156, 3) := by decide +kernel
theorem dX11_echo_47 : decode cX11_echo 47 = .ok (.istore 5, 2) := by decide +kernel
theorem dX11_echo_49 : decode cX11_echo 49 = .ok (.iload 5, 2) := by decide +kernel
theorem dX11_echo_51 : decode cX11_echo 51 = .ok (.iconst (-1), 1) := by decide +kernel
theorem dX11_echo_52 : decode cX11_echo 52 = .ok (.if_icmp .eq 22, 3) := by decide +kernel
theorem dX11_echo_55 : decode cX11_echo 55 = .ok (.iload 5, 2) := by decide +kernel
theorem dX11_echo_57 : decode cX11_echo 57 = .ok (.iload_n 2, 1) := by decide +kernel
theorem dX11_echo_58 : decode cX11_echo 58 = .ok (.if_icmp .gt 16, 3) := by decide +kernel
theorem dX11_echo_61 : decode cX11_echo 61 = .ok (.iload_n 3, 1) := by decide +kernel
theorem dX11_echo_62 : decode cX11_echo 62 = .ok (.aload_n 0, 1) := by decide +kernel
theorem dX11_echo_63 : decode cX11_echo 63 = .ok (.getfield 10, 3) := by decide +kernel
theorem dX11_echo_66 : decode cX11_echo 66 = .ok (.getfield 114, 3) := by decide +kernel
theorem dX11_echo_69 : decode cX11_echo 69 = .ok (.iload 4, 2) := by decide +kernel
theorem dX11_echo_71 : decode cX11_echo 71 = .ok (.iaload, 1) := by decide +kernel
theorem dX11_echo_72 : decode cX11_echo 72 = .ok (.iadd, 1) := by decide +kernel
theorem dX11_echo_73 : decode cX11_echo 73 = .ok (.istore_n 3, 1) := by decide +kernel
theorem dX11_echo_74 : decode cX11_echo 74 = .ok (.iinc 4 1, 3) := by decide +kernel
theorem dX11_echo_77 : decode cX11_echo 77 = .ok (.goto (-52), 3) := by decide +kernel
theorem dX11_echo_80 : decode cX11_echo 80 = .ok (.iload_n 3, 1) := by decide +kernel
theorem dX11_echo_81 : decode cX11_echo 81 = .ok (.ireturn, 1) := by decide +kernel
theorem dX11_mend_0 : decode cX11_mend 0 = .ok (.iload_n 1, 1) := by decide +kernel
theorem dX11_mend_1 : decode cX11_mend 1 = .ok (.ifCond .lt 9, 3) := by decide +kernel
theorem dX11_mend_4 : decode cX11_mend 4 = .ok (.iload_n 1, 1) := by decide +kernel
theorem dX11_mend_5 : decode cX11_mend 5 = .ok (.bipush 99, 2) := by decide +kernel
theorem dX11_mend_7 : decode cX11_mend 7 = .ok (.if_icmp .le 5, 3) := by decide +kernel
theorem dX11_mend_10 : decode cX11_mend 10 = .ok (.iconst (-1), 1) := by decide +kernel
theorem dX11_mend_11 : decode cX11_mend 11 = .ok (.ireturn, 1) := by decide +kernel
theorem dX11_mend_12 : decode cX11_mend 12 = .ok (.aload_n 0, 1) := by decide +kernel
theorem dX11_mend_13 : decode cX11_mend 13 = .ok (.getfield 63, 3) := by decide +kernel
theorem dX11_mend_16 : decode cX11_mend 16 = .ok (.iload_n 1, 1) := by decide +kernel
theorem dX11_mend_17 : decode cX11_mend 17 = .ok (.invokevirtual 234, 3) := by decide +kernel
theorem dX11_mend_20 : decode cX11_mend 20 = .ok (.ireturn, 1) := by decide +kernel
theorem dX11_regret_0 : decode cX11_regret 0 = .ok (.aload_n 0, 1) := by decide +kernel
theorem dX11_regret_1 : decode cX11_regret 1 = .ok (.getfield 72, 3) := by decide +kernel
theorem dX11_regret_4 : decode cX11_regret 4 = .ok (.invokevirtual 237, 3) := by decide +kernel
theorem dX11_regret_7 : decode cX11_regret 7 = .ok (.ireturn, 1) := by decide +kernel
theorem dX11_trade_0 : decode cX11_trade 0 = .ok (.aload_n 0, 1) := by decide +kernel
theorem dX11_trade_1 : decode cX11_trade 1 = .ok (.getfield 72, 3) := by decide +kernel
theorem dX11_trade_4 : decode cX11_trade 4 = .ok (.invokevirtual 240, 3) := by decide +kernel
theorem dX11_trade_7 : decode cX11_trade 7 = .ok (.istore_n 2, 1) := by decide +kernel
theorem dX11_trade_8 : decode cX11_trade 8 = .ok (.iload_n 2, 1) := by decide +kernel
theorem dX11_trade_9 : decode cX11_trade 9 = .ok (.iconst (-1), 1) := by decide +kernel
theorem dX11_trade_10 : decode cX11_trade 10 = .ok (.if_icmp .ne 5, 3) := by decide +kernel
theorem dX11_trade_13 : decode cX11_trade 13 = .ok (.iconst (-1), 1) := by decide +kernel
theorem dX11_trade_14 : decode cX11_trade 14 = .ok (.ireturn, 1) := by decide +kernel
theorem dX11_trade_15 : decode cX11_trade 15 = .ok (.iload_n 2, 1) := by decide +kernel
theorem dX11_trade_16 : decode cX11_trade 16 = .ok (.bipush 6, 2) := by decide +kernel
theorem dX11_trade_18 : decode cX11_trade 18 = .ok (.idiv, 1) := by decide +kernel
theorem dX11_trade_19 : decode cX11_trade 19 = .ok (.istore_n 3, 1) := by decide +kernel
theorem dX11_trade_20 : decode cX11_trade 20 = .ok (.iload_n 2, 1) := by decide +kernel
theorem dX11_trade_21 : decode cX11_trade 21 = .ok (.bipush 6, 2) := by decide +kernel
theorem dX11_trade_23 : decode cX11_trade 23 = .ok (.irem, 1) := by decide +kernel
theorem dX11_trade_24 : decode cX11_trade 24 = .ok (.istore 4, 2) := by decide +kernel
theorem dX11_trade_26 : decode cX11_trade 26 = .ok (.iload_n 1, 1) := by decide +kernel
theorem dX11_trade_27 : decode cX11_trade 27 = .ok (.tableswitch 41 0 2 #[25, 36, 38], 25) := by decide +kernel
theorem dX11_trade_52 : decode cX11_trade 52 = .ok (.aload_n 0, 1) := by decide +kernel
theorem dX11_trade_53 : decode cX11_trade 53 = .ok (.getfield 72, 3) := by decide +kernel
theorem dX11_trade_56 : decode cX11_trade 56 = .ok (.iload_n 3, 1) := by decide +kernel
theorem dX11_trade_57 : decode cX11_trade 57 = .ok (.iload 4, 2) := by decide +kernel
theorem dX11_trade_59 : decode cX11_trade 59 = .ok (.invokevirtual 243, 3) := by decide +kernel
theorem dX11_trade_62 : decode cX11_trade 62 = .ok (.ireturn, 1) := by decide +kernel
theorem dX11_trade_63 : decode cX11_trade 63 = .ok (.iload_n 3, 1) := by decide +kernel
theorem dX11_trade_64 : decode cX11_trade 64 = .ok (.ireturn, 1) := by decide +kernel
theorem dX11_trade_65 : decode cX11_trade 65 = .ok (.iload 4, 2) := by decide +kernel
theorem dX11_trade_67 : decode cX11_trade 67 = .ok (.ireturn, 1) := by decide +kernel
theorem dX11_trade_68 : decode cX11_trade 68 = .ok (.iconst (-1), 1) := by decide +kernel
theorem dX11_trade_69 : decode cX11_trade 69 = .ok (.ireturn, 1) := by decide +kernel
theorem dX11_trades_0 : decode cX11_trades 0 = .ok (.aload_n 0, 1) := by decide +kernel
theorem dX11_trades_1 : decode cX11_trades 1 = .ok (.getfield 72, 3) := by decide +kernel
theorem dX11_trades_4 : decode cX11_trades 4 = .ok (.invokevirtual 246, 3) := by decide +kernel
theorem dX11_trades_7 : decode cX11_trades 7 = .ok (.ireturn, 1) := by decide +kernel
theorem dX11_wealth_0 : decode cX11_wealth 0 = .ok (.iload_n 1, 1) := by decide +kernel
theorem dX11_wealth_1 : decode cX11_wealth 1 = .ok (.lookupswitch 59 #[(0, 27), (1, 43)], 27) := by decide +kernel
theorem dX11_wealth_28 : decode cX11_wealth 28 = .ok (.aload_n 0, 1) := by decide +kernel
theorem dX11_wealth_29 : decode cX11_wealth 29 = .ok (.getfield 72, 3) := by decide +kernel
theorem dX11_wealth_32 : decode cX11_wealth 32 = .ok (.iconst 1, 1) := by decide +kernel
theorem dX11_wealth_33 : decode cX11_wealth 33 = .ok (.aload_n 0, 1) := by decide +kernel
theorem dX11_wealth_34 : decode cX11_wealth 34 = .ok (.getfield 10, 3) := by decide +kernel
theorem dX11_wealth_37 : decode cX11_wealth 37 = .ok (.getfield 131, 3) := by decide +kernel
theorem dX11_wealth_40 : decode cX11_wealth 40 = .ok (.invokevirtual 249, 3) := by decide +kernel
theorem dX11_wealth_43 : decode cX11_wealth 43 = .ok (.ireturn, 1) := by decide +kernel
theorem dX11_wealth_44 : decode cX11_wealth 44 = .ok (.aload_n 0, 1) := by decide +kernel
theorem dX11_wealth_45 : decode cX11_wealth 45 = .ok (.getfield 72, 3) := by decide +kernel
theorem dX11_wealth_48 : decode cX11_wealth 48 = .ok (.iconst 0, 1) := by decide +kernel
theorem dX11_wealth_49 : decode cX11_wealth 49 = .ok (.aload_n 0, 1) := by decide +kernel
theorem dX11_wealth_50 : decode cX11_wealth 50 = .ok (.getfield 10, 3) := by decide +kernel
theorem dX11_wealth_53 : decode cX11_wealth 53 = .ok (.getfield 134, 3) := by decide +kernel
theorem dX11_wealth_56 : decode cX11_wealth 56 = .ok (.invokevirtual 249, 3) := by decide +kernel
theorem dX11_wealth_59 : decode cX11_wealth 59 = .ok (.ireturn, 1) := by decide +kernel
theorem dX11_wealth_60 : decode cX11_wealth 60 = .ok (.iconst (-1), 1) := by decide +kernel
theorem dX11_wealth_61 : decode cX11_wealth 61 = .ok (.ireturn, 1) := by decide +kernel
theorem dX11_off_0 : decode cX11_off 0 = .ok (.iconst 0, 1) := by decide +kernel
theorem dX11_off_1 : decode cX11_off 1 = .ok (.istore_n 1, 1) := by decide +kernel
theorem dX11_off_2 : decode cX11_off 2 = .ok (.iconst 0, 1) := by decide +kernel
theorem dX11_off_3 : decode cX11_off 3 = .ok (.istore_n 2, 1) := by decide +kernel
theorem dX11_off_4 : decode cX11_off 4 = .ok (.iload_n 2, 1) := by decide +kernel
theorem dX11_off_5 : decode cX11_off 5 = .ok (.aload_n 0, 1) := by decide +kernel
theorem dX11_off_6 : decode cX11_off 6 = .ok (.getfield 10, 3) := by decide +kernel
theorem dX11_off_9 : decode cX11_off 9 = .ok (.getfield 253, 3) := by decide +kernel
theorem dX11_off_12 : decode cX11_off 12 = .ok (.if_icmp .ge 27, 3) := by decide +kernel
theorem dX11_off_15 : decode cX11_off 15 = .ok (.iload_n 1, 1) := by decide +kernel
theorem dX11_off_16 : decode cX11_off 16 = .ok (.aload_n 0, 1) := by decide +kernel
theorem dX11_off_17 : decode cX11_off 17 = .ok (.getfield 63, 3) := by decide +kernel
theorem dX11_off_20 : decode cX11_off 20 = .ok (.aload_n 0, 1) := by decide +kernel
theorem dX11_off_21 : decode cX11_off 21 = .ok (.getfield 63, 3) := by decide +kernel
theorem dX11_off_24 : decode cX11_off 24 = .ok (.getfield 128, 3) := by decide +kernel
theorem dX11_off_27 : decode cX11_off 27 = .ok (.iload_n 2, 1) := by decide +kernel
theorem dX11_off_28 : decode cX11_off 28 = .ok (.invokevirtual 256, 3) := by decide +kernel
theorem dX11_off_31 : decode cX11_off 31 = .ok (.iadd, 1) := by decide +kernel
theorem dX11_off_32 : decode cX11_off 32 = .ok (.istore_n 1, 1) := by decide +kernel
theorem dX11_off_33 : decode cX11_off 33 = .ok (.iinc 2 1, 3) := by decide +kernel
theorem dX11_off_36 : decode cX11_off 36 = .ok (.goto (-32), 3) := by decide +kernel
theorem dX11_off_39 : decode cX11_off 39 = .ok (.iload_n 1, 1) := by decide +kernel
theorem dX11_off_40 : decode cX11_off 40 = .ok (.ireturn, 1) := by decide +kernel
theorem dX11_right_0 : decode cX11_right 0 = .ok (.aload_n 0, 1) := by decide +kernel
theorem dX11_right_1 : decode cX11_right 1 = .ok (.getfield 63, 3) := by decide +kernel
theorem dX11_right_4 : decode cX11_right 4 = .ok (.aload_n 0, 1) := by decide +kernel
theorem dX11_right_5 : decode cX11_right 5 = .ok (.getfield 63, 3) := by decide +kernel
theorem dX11_right_8 : decode cX11_right 8 = .ok (.getfield 128, 3) := by decide +kernel
theorem dX11_right_11 : decode cX11_right 11 = .ok (.invokevirtual 260, 3) := by decide +kernel
theorem dX11_right_14 : decode cX11_right 14 = .ok (.ireturn, 1) := by decide +kernel
theorem dX11_deep_0 : decode cX11_deep 0 = .ok (.iload_n 1, 1) := by decide +kernel
theorem dX11_deep_1 : decode cX11_deep 1 = .ok (.ifCond .lt 9, 3) := by decide +kernel
theorem dX11_deep_4 : decode cX11_deep 4 = .ok (.iload_n 1, 1) := by decide +kernel
theorem dX11_deep_5 : decode cX11_deep 5 = .ok (.bipush 99, 2) := by decide +kernel
theorem dX11_deep_7 : decode cX11_deep 7 = .ok (.if_icmp .le 5, 3) := by decide +kernel
theorem dX11_deep_10 : decode cX11_deep 10 = .ok (.iconst (-1), 1) := by decide +kernel
theorem dX11_deep_11 : decode cX11_deep 11 = .ok (.ireturn, 1) := by decide +kernel
theorem dX11_deep_12 : decode cX11_deep 12 = .ok (.iconst 0, 1) := by decide +kernel
theorem dX11_deep_13 : decode cX11_deep 13 = .ok (.istore_n 2, 1) := by decide +kernel
theorem dX11_deep_14 : decode cX11_deep 14 = .ok (.iconst 0, 1) := by decide +kernel
theorem dX11_deep_15 : decode cX11_deep 15 = .ok (.istore_n 3, 1) := by decide +kernel
theorem dX11_deep_16 : decode cX11_deep 16 = .ok (.iload_n 3, 1) := by decide +kernel
theorem dX11_deep_17 : decode cX11_deep 17 = .ok (.aload_n 0, 1) := by decide +kernel
theorem dX11_deep_18 : decode cX11_deep 18 = .ok (.getfield 10, 3) := by decide +kernel
theorem dX11_deep_21 : decode cX11_deep 21 = .ok (.getfield 253, 3) := by decide +kernel
theorem dX11_deep_24 : decode cX11_deep 24 = .ok (.if_icmp .ge 31, 3) := by decide +kernel
theorem dX11_deep_27 : decode cX11_deep 27 = .ok (.aload_n 0, 1) := by decide +kernel
theorem dX11_deep_28 : decode cX11_deep 28 = .ok (.getfield 63, 3) := by decide +kernel
theorem dX11_deep_31 : decode cX11_deep 31 = .ok (.getfield 128, 3) := by decide +kernel
theorem dX11_deep_34 : decode cX11_deep 34 = .ok (.bipush 18, 2) := by decide +kernel
theorem dX11_deep_36 : decode cX11_deep 36 = .ok (.iload_n 3, 1) := by decide +kernel
theorem dX11_deep_37 : decode cX11_deep 37 = .ok (.iadd, 1) := by decide +kernel
theorem dX11_deep_38 : decode cX11_deep 38 = .ok (.iaload, 1) := by decide +kernel
theorem dX11_deep_39 : decode cX11_deep 39 = .ok (.iload_n 1, 1) := by decide +kernel
theorem dX11_deep_40 : decode cX11_deep 40 = .ok (.if_icmp .lt 9, 3) := by decide +kernel
theorem dX11_deep_43 : decode cX11_deep 43 = .ok (.iload_n 2, 1) := by decide +kernel
theorem dX11_deep_44 : decode cX11_deep 44 = .ok (.iconst 1, 1) := by decide +kernel
theorem dX11_deep_45 : decode cX11_deep 45 = .ok (.iload_n 3, 1) := by decide +kernel
theorem dX11_deep_46 : decode cX11_deep 46 = .ok (.ishl, 1) := by decide +kernel
theorem dX11_deep_47 : decode cX11_deep 47 = .ok (.ior, 1) := by decide +kernel
theorem dX11_deep_48 : decode cX11_deep 48 = .ok (.istore_n 2, 1) := by decide +kernel
theorem dX11_deep_49 : decode cX11_deep 49 = .ok (.iinc 3 1, 3) := by decide +kernel
theorem dX11_deep_52 : decode cX11_deep 52 = .ok (.goto (-36), 3) := by decide +kernel
theorem dX11_deep_55 : decode cX11_deep 55 = .ok (.iload_n 2, 1) := by decide +kernel
theorem dX11_deep_56 : decode cX11_deep 56 = .ok (.ireturn, 1) := by decide +kernel
theorem dX11_stay_0 : decode cX11_stay 0 = .ok (.aload_n 0, 1) := by decide +kernel
theorem dX11_stay_1 : decode cX11_stay 1 = .ok (.iload_n 1, 1) := by decide +kernel
theorem dX11_stay_2 : decode cX11_stay 2 = .ok (.invokevirtual 125, 3) := by decide +kernel
theorem dX11_stay_5 : decode cX11_stay 5 = .ok (.ifCond .eq 21, 3) := by decide +kernel
theorem dX11_stay_8 : decode cX11_stay 8 = .ok (.iload_n 2, 1) := by decide +kernel
theorem dX11_stay_9 : decode cX11_stay 9 = .ok (.ifCond .lt 17, 3) := by decide +kernel
theorem dX11_stay_12 : decode cX11_stay 12 = .ok (.iload_n 2, 1) := by decide +kernel
theorem dX11_stay_13 : decode cX11_stay 13 = .ok (.iconst 4, 1) := by decide +kernel
theorem dX11_stay_14 : decode cX11_stay 14 = .ok (.if_icmp .gt 12, 3) := by decide +kernel
theorem dX11_stay_17 : decode cX11_stay 17 = .ok (.iload_n 3, 1) := by decide +kernel
theorem dX11_stay_18 : decode cX11_stay 18 = .ok (.ifCond .lt 8, 3) := by decide +kernel
theorem dX11_stay_21 : decode cX11_stay 21 = .ok (.iload_n 3, 1) := by decide +kernel
theorem dX11_stay_22 : decode cX11_stay 22 = .ok (.iconst 1, 1) := by decide +kernel
theorem dX11_stay_23 : decode cX11_stay 23 = .ok (.if_icmp .le 5, 3) := by decide +kernel
theorem dX11_stay_26 : decode cX11_stay 26 = .ok (.iconst (-1), 1) := by decide +kernel
theorem dX11_stay_27 : decode cX11_stay 27 = .ok (.ireturn, 1) := by decide +kernel
theorem dX11_stay_28 : decode cX11_stay 28 = .ok (.aload_n 0, 1) := by decide +kernel
theorem dX11_stay_29 : decode cX11_stay 29 = .ok (.getfield 63, 3) := by decide +kernel
theorem dX11_stay_32 : decode cX11_stay 32 = .ok (.iload_n 1, 1) := by decide +kernel
theorem dX11_stay_33 : decode cX11_stay 33 = .ok (.iload_n 2, 1) := by decide +kernel
theorem dX11_stay_34 : decode cX11_stay 34 = .ok (.iload_n 3, 1) := by decide +kernel
theorem dX11_stay_35 : decode cX11_stay 35 = .ok (.invokevirtual 263, 3) := by decide +kernel
theorem dX11_stay_38 : decode cX11_stay 38 = .ok (.ireturn, 1) := by decide +kernel
theorem dX11_will_0 : decode cX11_will 0 = .ok (.aload_n 0, 1) := by decide +kernel
theorem dX11_will_1 : decode cX11_will 1 = .ok (.iload_n 1, 1) := by decide +kernel
theorem dX11_will_2 : decode cX11_will 2 = .ok (.invokevirtual 125, 3) := by decide +kernel
theorem dX11_will_5 : decode cX11_will 5 = .ok (.ifCond .eq 13, 3) := by decide +kernel
theorem dX11_will_8 : decode cX11_will 8 = .ok (.iload_n 2, 1) := by decide +kernel
theorem dX11_will_9 : decode cX11_will 9 = .ok (.ifCond .lt 9, 3) := by decide +kernel
theorem dX11_will_12 : decode cX11_will 12 = .ok (.iload_n 2, 1) := by decide +kernel
theorem dX11_will_13 : decode cX11_will 13 = .ok (.bipush 60, 2) := by decide +kernel
theorem dX11_will_15 : decode cX11_will 15 = .ok (.if_icmp .le 5, 3) := by decide +kernel
theorem dX11_will_18 : decode cX11_will 18 = .ok (.iconst (-1), 1) := by decide +kernel
theorem dX11_will_19 : decode cX11_will 19 = .ok (.ireturn, 1) := by decide +kernel
theorem dX11_will_20 : decode cX11_will 20 = .ok (.aload_n 0, 1) := by decide +kernel
theorem dX11_will_21 : decode cX11_will 21 = .ok (.getfield 63, 3) := by decide +kernel
theorem dX11_will_24 : decode cX11_will 24 = .ok (.iload_n 1, 1) := by decide +kernel
theorem dX11_will_25 : decode cX11_will 25 = .ok (.iload_n 2, 1) := by decide +kernel
theorem dX11_will_26 : decode cX11_will 26 = .ok (.invokevirtual 266, 3) := by decide +kernel
theorem dX11_will_29 : decode cX11_will 29 = .ok (.ireturn, 1) := by decide +kernel
theorem dX11_lost_0 : decode cX11_lost 0 = .ok (.aload_n 0, 1) := by decide +kernel
theorem dX11_lost_1 : decode cX11_lost 1 = .ok (.getfield 63, 3) := by decide +kernel
theorem dX11_lost_4 : decode cX11_lost 4 = .ok (.invokevirtual 269, 3) := by decide +kernel
theorem dX11_lost_7 : decode cX11_lost 7 = .ok (.ireturn, 1) := by decide +kernel
theorem dX11_lies_0 : decode cX11_lies 0 = .ok (.iload_n 1, 1) := by decide +kernel
theorem dX11_lies_1 : decode cX11_lies 1 = .ok (.ifCond .lt 14, 3) := by decide +kernel
theorem dX11_lies_4 : decode cX11_lies 4 = .ok (.iload_n 1, 1) := by decide +kernel
theorem dX11_lies_5 : decode cX11_lies 5 = .ok (.aload_n 0, 1) := by decide +kernel
theorem dX11_lies_6 : decode cX11_lies 6 = .ok (.getfield 49, 3) := by decide +kernel
theorem dX11_lies_9 : decode cX11_lies 9 = .ok (.getfield 187, 3) := by decide +kernel
theorem dX11_lies_12 : decode cX11_lies 12 = .ok (.if_icmp .lt 7, 3) := by decide +kernel
theorem dX11_lies_15 : decode cX11_lies 15 = .ok (.iconst (-1), 1) := by decide +kernel
theorem dX11_lies_16 : decode cX11_lies 16 = .ok (.goto 12, 3) := by decide +kernel
theorem dX11_lies_19 : decode cX11_lies 19 = .ok (.aload_n 0, 1) := by decide +kernel
theorem dX11_lies_20 : decode cX11_lies 20 = .ok (.getfield 49, 3) := by decide +kernel
theorem dX11_lies_23 : decode cX11_lies 23 = .ok (.getfield 272, 3) := by decide +kernel
theorem dX11_lies_26 : decode cX11_lies 26 = .ok (.iload_n 1, 1) := by decide +kernel
theorem dX11_lies_27 : decode cX11_lies 27 = .ok (.iaload, 1) := by decide +kernel
theorem dX11_lies_28 : decode cX11_lies 28 = .ok (.ireturn, 1) := by decide +kernel
theorem dX11_heard_0 : decode cX11_heard 0 = .ok (.iload_n 2, 1) := by decide +kernel
theorem dX11_heard_1 : decode cX11_heard 1 = .ok (.ifCond .lt 16, 3) := by decide +kernel
theorem dX11_heard_4 : decode cX11_heard 4 = .ok (.iload_n 2, 1) := by decide +kernel
theorem dX11_heard_5 : decode cX11_heard 5 = .ok (.bipush 9, 2) := by decide +kernel
theorem dX11_heard_7 : decode cX11_heard 7 = .ok (.if_icmp .gt 10, 3) := by decide +kernel
theorem dX11_heard_10 : decode cX11_heard 10 = .ok (.iload_n 1, 1) := by decide +kernel
theorem dX11_heard_11 : decode cX11_heard 11 = .ok (.invokestatic 275, 3) := by decide +kernel
theorem dX11_heard_14 : decode cX11_heard 14 = .ok (.ifCond .ne 5, 3) := by decide +kernel
theorem dX11_heard_17 : decode cX11_heard 17 = .ok (.iconst (-1), 1) := by decide +kernel
theorem dX11_heard_18 : decode cX11_heard 18 = .ok (.ireturn, 1) := by decide +kernel
theorem dX11_heard_19 : decode cX11_heard 19 = .ok (.aload_n 0, 1) := by decide +kernel
theorem dX11_heard_20 : decode cX11_heard 20 = .ok (.getfield 79, 3) := by decide +kernel
theorem dX11_heard_23 : decode cX11_heard 23 = .ok (.iload_n 1, 1) := by decide +kernel
theorem dX11_heard_24 : decode cX11_heard 24 = .ok (.aload_n 0, 1) := by decide +kernel
theorem dX11_heard_25 : decode cX11_heard 25 = .ok (.getfield 40, 3) := by decide +kernel
theorem dX11_heard_28 : decode cX11_heard 28 = .ok (.iload_n 2, 1) := by decide +kernel
theorem dX11_heard_29 : decode cX11_heard 29 = .ok (.invokevirtual 278, 3) := by decide +kernel
theorem dX11_heard_32 : decode cX11_heard 32 = .ok (.iload_n 3, 1) := by decide +kernel
theorem dX11_heard_33 : decode cX11_heard 33 = .ok (.invokevirtual 281, 3) := by decide +kernel
theorem dX11_heard_36 : decode cX11_heard 36 = .ok (.ireturn, 1) := by decide +kernel
theorem dX11_seen_0 : decode cX11_seen 0 = .ok (.aload_n 0, 1) := by decide +kernel
theorem dX11_seen_1 : decode cX11_seen 1 = .ok (.iload_n 2, 1) := by decide +kernel
theorem dX11_seen_2 : decode cX11_seen 2 = .ok (.invokevirtual 110, 3) := by decide +kernel
theorem dX11_seen_5 : decode cX11_seen 5 = .ok (.ifCond .eq 10, 3) := by decide +kernel
theorem dX11_seen_8 : decode cX11_seen 8 = .ok (.iload_n 1, 1) := by decide +kernel
theorem dX11_seen_9 : decode cX11_seen 9 = .ok (.invokestatic 275, 3) := by decide +kernel
theorem dX11_seen_12 : decode cX11_seen 12 = .ok (.ifCond .ne 5, 3) := by decide +kernel
theorem dX11_seen_15 : decode cX11_seen 15 = .ok (.iconst (-1), 1) := by decide +kernel
theorem dX11_seen_16 : decode cX11_seen 16 = .ok (.ireturn, 1) := by decide +kernel
theorem dX11_seen_17 : decode cX11_seen 17 = .ok (.aload_n 0, 1) := by decide +kernel
theorem dX11_seen_18 : decode cX11_seen 18 = .ok (.getfield 79, 3) := by decide +kernel
theorem dX11_seen_21 : decode cX11_seen 21 = .ok (.iload_n 1, 1) := by decide +kernel
theorem dX11_seen_22 : decode cX11_seen 22 = .ok (.iconst 1, 1) := by decide +kernel
theorem dX11_seen_23 : decode cX11_seen 23 = .ok (.iload_n 2, 1) := by decide +kernel
theorem dX11_seen_24 : decode cX11_seen 24 = .ok (.ishl, 1) := by decide +kernel
theorem dX11_seen_25 : decode cX11_seen 25 = .ok (.iload_n 3, 1) := by decide +kernel
theorem dX11_seen_26 : decode cX11_seen 26 = .ok (.invokevirtual 281, 3) := by decide +kernel
theorem dX11_seen_29 : decode cX11_seen 29 = .ok (.ireturn, 1) := by decide +kernel
theorem dX11_untell_0 : decode cX11_untell 0 = .ok (.aload_n 0, 1) := by decide +kernel
theorem dX11_untell_1 : decode cX11_untell 1 = .ok (.getfield 79, 3) := by decide +kernel
theorem dX11_untell_4 : decode cX11_untell 4 = .ok (.iload_n 1, 1) := by decide +kernel
theorem dX11_untell_5 : decode cX11_untell 5 = .ok (.invokevirtual 285, 3) := by decide +kernel
theorem dX11_untell_8 : decode cX11_untell 8 = .ok (.ireturn, 1) := by decide +kernel
set_option maxRecDepth 20000 in
theorem ggX11_hunt_X11_areRooms : GoodIn wsX11_hunt wsX11_areRooms := goodIn_r _ [6, 7, 8, 39, 40, 41, 42, 43, 44, 45, 46, 47, 48, 49, 50, 51, 52, 53, 54, 55, 56, 57, 58, 59, 60, 61, 62, 63, 64] (by decide +kernel) (by decide +kernel)
set_option maxRecDepth 20000 in
theorem gX11_hunt_X11_areRooms : GoodIn wsX11_hunt (wsV RX11 203 RX11 yX11_areRooms wsX11_areRooms) := goodIn_app (goodIn_of _ (by decide +kernel)) ggX11_hunt_X11_areRooms
set_option maxRecDepth 20000 in
theorem ggX11_hunt_X2_fewestAsks : GoodIn wsX11_hunt wsX2_fewestAsks := goodIn_r _ [13, 14, 15, 16, 17, 12, 18, 19, 20, 21, 22, 23, 24, 25, 26, 27, 28, 29, 30, 31, 32, 33, 34, 35, 36, 37, 38, 65, 66, 67, 68, 69, 70, 71, 49, 50, 51, 52, 53, 54, 55, 56, 57, 58, 59, 60, 61, 62, 63, 64] (by decide +kernel) (by decide +kernel)
set_option maxRecDepth 20000 in
theorem gX11_hunt_X2_fewestAsks : GoodIn wsX11_hunt (wsV RX11 206 RX2 yX2_fewestAsks wsX2_fewestAsks) := goodIn_app (goodIn_of _ (by decide +kernel)) ggX11_hunt_X2_fewestAsks
set_option maxRecDepth 20000 in
theorem ggX11_first_X11_areRooms : GoodIn wsX11_first wsX11_areRooms := goodIn_r _ [6, 7, 8, 43, 44, 45, 46, 47, 48, 49, 50, 51, 52, 53, 54, 55, 56, 57, 58, 59, 60, 61, 62, 63, 64, 65, 66, 67, 68] (by decide +kernel) (by decide +kernel)
set_option maxRecDepth 20000 in
theorem gX11_first_X11_areRooms : GoodIn wsX11_first (wsV RX11 203 RX11 yX11_areRooms wsX11_areRooms) := goodIn_app (goodIn_of _ (by decide +kernel)) ggX11_first_X11_areRooms
set_option maxRecDepth 20000 in
theorem ggX11_first_X2_firstDoor : GoodIn wsX11_first wsX2_firstDoor := goodIn_r _ [13, 14, 15, 16, 12, 17, 18, 19, 20, 21, 22, 23, 24, 25, 26, 27, 28, 29, 30, 31, 32, 33, 34, 35, 36, 37, 38, 39, 40, 41, 42, 69, 70, 71, 72, 73, 74, 75, 53, 54, 55, 56, 57, 58, 59, 60, 61, 62, 63, 64, 65, 66, 67, 68] (by decide +kernel) (by decide +kernel)
set_option maxRecDepth 20000 in
theorem gX11_first_X2_firstDoor : GoodIn wsX11_first (wsV RX11 210 RX2 yX2_firstDoor wsX2_firstDoor) := goodIn_app (goodIn_of _ (by decide +kernel)) ggX11_first_X2_firstDoor
set_option maxRecDepth 20000 in
theorem ggX11_meet_X0_meetingRoom : GoodIn wsX11_meet wsX0_meetingRoom := goodIn_r _ [13, 14, 15, 16, 17, 18, 12, 19, 20, 21, 22, 23, 24, 25, 26, 27, 28, 56, 57, 58, 59, 60, 40, 41, 42, 43, 44, 45, 46, 47, 48, 49, 50, 51, 52, 53, 54, 55] (by decide +kernel) (by decide +kernel)
set_option maxRecDepth 20000 in
theorem gX11_meet_X0_meetingRoom : GoodIn wsX11_meet (wsV RX11 213 RX0 yX0_meetingRoom wsX0_meetingRoom) := goodIn_app (goodIn_of _ (by decide +kernel)) ggX11_meet_X0_meetingRoom
set_option maxRecDepth 20000 in
theorem ggX11_meet_X0_minutesTo : GoodIn wsX11_meet wsX0_minutesTo := goodIn_r _ [24, 25, 26, 27, 28, 16, 17, 18, 12, 19, 20, 56, 57, 58, 59, 60] (by decide +kernel) (by decide +kernel)
set_option maxRecDepth 20000 in
theorem gX11_meet_X0_minutesTo : GoodIn wsX11_meet (wsV RX11 216 RX0 yX0_minutesTo wsX0_minutesTo) := goodIn_app (goodIn_of _ (by decide +kernel)) ggX11_meet_X0_minutesTo
set_option maxRecDepth 20000 in
theorem ggX11_meet_X11_isRoom : GoodIn wsX11_meet wsX11_isRoom := goodIn_r _ [6, 7, 8, 30, 31, 32, 33, 34, 35, 36, 37, 38, 39, 40, 41, 42, 43, 44, 45, 46, 47, 48, 49, 50, 51, 52, 53, 54, 55] (by decide +kernel) (by decide +kernel)
set_option maxRecDepth 20000 in
theorem gX11_meet_X11_isRoom : GoodIn wsX11_meet (wsV RX11 110 RX11 yX11_isRoom wsX11_isRoom) := goodIn_app (goodIn_of _ (by decide +kernel)) ggX11_meet_X11_isRoom
set_option maxRecDepth 20000 in
theorem ggX11_bar_J6_bitCount_0f7a4 : GoodIn wsX11_bar wsJ6_bitCount_0f7a4 := goodIn_r _ [23, 24, 25, 26] (by decide +kernel) (by decide +kernel)
set_option maxRecDepth 20000 in
theorem gX11_bar_J6_bitCount_0f7a4 : GoodIn wsX11_bar (va_wsS RX11 223 yJ6_bitCount_0f7a4 wsJ6_bitCount_0f7a4) := goodIn_app (goodIn_of _ (by decide +kernel)) ggX11_bar_J6_bitCount_0f7a4
set_option maxRecDepth 20000 in
theorem ggX11_bar_X0_barringRooms : GoodIn wsX11_bar wsX0_barringRooms := goodIn_r _ [13, 14, 15, 16, 12, 17, 18, 19, 20, 21, 22, 23, 24, 25, 26, 27, 28, 29, 30, 31, 32, 33, 34, 35, 63, 64, 65, 66, 67, 47, 48, 49, 50, 51, 52, 53, 54, 55, 56, 57, 58, 59, 60, 61, 62] (by decide +kernel) (by decide +kernel)
set_option maxRecDepth 20000 in
theorem gX11_bar_X0_barringRooms : GoodIn wsX11_bar (wsV RX11 220 RX0 yX0_barringRooms wsX0_barringRooms) := goodIn_app (goodIn_of _ (by decide +kernel)) ggX11_bar_X0_barringRooms
set_option maxRecDepth 20000 in
theorem ggX11_bar_X11_isRoom : GoodIn wsX11_bar wsX11_isRoom := goodIn_r _ [6, 7, 8, 37, 38, 39, 40, 41, 42, 43, 44, 45, 46, 47, 48, 49, 50, 51, 52, 53, 54, 55, 56, 57, 58, 59, 60, 61, 62] (by decide +kernel) (by decide +kernel)
set_option maxRecDepth 20000 in
theorem gX11_bar_X11_isRoom : GoodIn wsX11_bar (wsV RX11 110 RX11 yX11_isRoom wsX11_isRoom) := goodIn_app (goodIn_of _ (by decide +kernel)) ggX11_bar_X11_isRoom
set_option maxRecDepth 20000 in
theorem ggX11_tour_X11_areRooms : GoodIn wsX11_tour wsX11_areRooms := goodIn_r _ [13, 8, 9, 63, 64, 65, 66, 67, 68, 69, 70, 71, 72, 78, 79, 80, 81, 82, 83, 84, 85, 86, 87, 88, 89, 90, 91, 92, 93] (by decide +kernel) (by decide +kernel)
set_option maxRecDepth 20000 in
theorem gX11_tour_X11_areRooms : GoodIn wsX11_tour (wsV RX11 203 RX11 yX11_areRooms wsX11_areRooms) := goodIn_app (goodIn_of _ (by decide +kernel)) ggX11_tour_X11_areRooms
set_option maxRecDepth 20000 in
theorem ggX11_tour_X11_isRoom : GoodIn wsX11_tour wsX11_isRoom := goodIn_r _ [7, 8, 9, 63, 64, 65, 66, 67, 68, 69, 70, 71, 72, 78, 79, 80, 81, 82, 83, 84, 85, 86, 87, 88, 89, 90, 91, 92, 93] (by decide +kernel) (by decide +kernel)
set_option maxRecDepth 20000 in
theorem gX11_tour_X11_isRoom : GoodIn wsX11_tour (wsV RX11 110 RX11 yX11_isRoom wsX11_isRoom) := goodIn_app (goodIn_of _ (by decide +kernel)) ggX11_tour_X11_isRoom
set_option maxRecDepth 20000 in
theorem ggX11_tour_X7_layTour : GoodIn wsX11_tour wsX7_layTour := goodIn_r _ [18, 19, 20, 21, 22, 23, 24, 25, 26, 27, 28, 29, 30, 31, 32, 33, 34, 35, 36, 37, 38, 39, 17, 40, 41, 42, 43, 44, 45, 46, 47, 48, 49, 50, 51, 52, 53, 54, 55, 56, 57, 58, 59, 60, 61, 62, 73, 74, 75, 76, 77, 94, 95, 96, 97, 98, 78, 79, 80, 81, 82, 83, 84, 85, 86, 87, 88, 89, 90, 91, 92, 93] (by decide +kernel) (by decide +kernel)
set_option maxRecDepth 20000 in
theorem gX11_tour_X7_layTour : GoodIn wsX11_tour (wsV RX11 228 RX7 yX7_layTour wsX7_layTour) := goodIn_app (goodIn_of _ (by decide +kernel)) ggX11_tour_X7_layTour
set_option maxRecDepth 20000 in
theorem ggX11_centre_X0_middleRoom : GoodIn wsX11_centre wsX0_middleRoom := goodIn_r _ [6, 7, 8, 9, 10, 11, 5, 12, 13, 14, 15, 16, 17, 18, 19, 20, 21, 32, 33, 34, 35, 36, 37, 38, 39, 40, 41, 42, 43, 44, 45, 46, 47, 48, 49, 50, 51, 52] (by decide +kernel) (by decide +kernel)
set_option maxRecDepth 20000 in
theorem gX11_centre_X0_middleRoom : GoodIn wsX11_centre (wsV RX11 231 RX0 yX0_middleRoom wsX0_middleRoom) := goodIn_app (goodIn_of _ (by decide +kernel)) ggX11_centre_X0_middleRoom
set_option maxRecDepth 20000 in
theorem ggX11_nooks_J6_bitCount_0f7a4 : GoodIn wsX11_nooks wsJ6_bitCount_0f7a4 := goodIn_r _ [8, 9, 10, 11] (by decide +kernel) (by decide +kernel)
set_option maxRecDepth 20000 in
theorem gX11_nooks_J6_bitCount_0f7a4 : GoodIn wsX11_nooks (va_wsS RX11 223 yJ6_bitCount_0f7a4 wsJ6_bitCount_0f7a4) := goodIn_app (goodIn_of _ (by decide +kernel)) ggX11_nooks_J6_bitCount_0f7a4
set_option maxRecDepth 20000 in
theorem ggX11_echo_X0_farOf : GoodIn wsX11_echo wsX0_farOf := goodIn_r _ [14, 15, 42, 43, 44, 45, 46] (by decide +kernel) (by decide +kernel)
set_option maxRecDepth 20000 in
theorem gX11_echo_X0_farOf : GoodIn wsX11_echo (wsV RX11 156 RX0 yX0_farOf wsX0_farOf) := goodIn_app (goodIn_of _ (by decide +kernel)) ggX11_echo_X0_farOf
set_option maxRecDepth 20000 in
theorem ggX11_echo_X11_isRoom : GoodIn wsX11_echo wsX11_isRoom := goodIn_r _ [9, 1, 2, 16, 17, 18, 19, 20, 21, 22, 23, 24, 25, 26, 27, 28, 29, 30, 31, 32, 33, 34, 35, 36, 37, 38, 39, 40, 41] (by decide +kernel) (by decide +kernel)
set_option maxRecDepth 20000 in
theorem gX11_echo_X11_isRoom : GoodIn wsX11_echo (wsV RX11 110 RX11 yX11_isRoom wsX11_isRoom) := goodIn_app (goodIn_of _ (by decide +kernel)) ggX11_echo_X11_isRoom
set_option maxRecDepth 20000 in
theorem ggX11_mend_X3_mostMended : GoodIn wsX11_mend wsX3_mostMended := goodIn_r _ [6, 7, 8, 9, 10, 11, 12, 13, 5, 14, 15, 16, 17, 18, 19, 20, 31, 32, 33, 34, 35, 36, 37, 38, 39, 40, 41, 42, 43, 44, 45, 46, 47, 48, 49, 50, 51, 52, 53, 54, 55, 56, 57, 58, 59, 60] (by decide +kernel) (by decide +kernel)
set_option maxRecDepth 20000 in
theorem gX11_mend_X3_mostMended : GoodIn wsX11_mend (wsV RX11 234 RX3 yX3_mostMended wsX3_mostMended) := goodIn_app (goodIn_of _ (by decide +kernel)) ggX11_mend_X3_mostMended
set_option maxRecDepth 20000 in
theorem ggX11_regret_X10_betterElsewhere : GoodIn wsX11_regret wsX10_betterElsewhere := goodIn_r _ [6, 7, 8, 9, 10, 11, 12, 13, 14, 15, 5, 16, 17, 28, 29, 30, 31, 32, 33, 34, 35, 36, 37, 38, 39, 40, 41, 42, 43, 44, 45, 46, 47, 48, 49, 50, 51, 52, 53, 54, 55, 56, 57, 58] (by decide +kernel) (by decide +kernel)
set_option maxRecDepth 20000 in
theorem gX11_regret_X10_betterElsewhere : GoodIn wsX11_regret (wsV RX11 237 RX10 yX10_betterElsewhere wsX10_betterElsewhere) := goodIn_app (goodIn_of _ (by decide +kernel)) ggX11_regret_X10_betterElsewhere
set_option maxRecDepth 20000 in
theorem ggX11_trade_X10_bestPair : GoodIn wsX11_trade wsX10_bestPair := goodIn_r _ [6, 7, 8, 9, 5, 10, 11, 12, 13, 14, 15, 16, 17, 18, 19, 20, 21, 22, 23, 24, 25, 26, 27, 28, 29, 30, 31, 32, 33, 45, 46, 47, 48, 49, 50, 51, 52, 53, 54, 55, 56, 57, 58, 59, 60, 61, 62, 63, 64, 65, 66, 67, 68, 69, 70, 71, 72, 73, 74, 75] (by decide +kernel) (by decide +kernel)
set_option maxRecDepth 20000 in
theorem gX11_trade_X10_bestPair : GoodIn wsX11_trade (wsV RX11 240 RX10 yX10_bestPair wsX10_bestPair) := goodIn_app (goodIn_of _ (by decide +kernel)) ggX11_trade_X10_bestPair
set_option maxRecDepth 20000 in
theorem ggX11_trade_X10_gainOf : GoodIn wsX11_trade wsX10_gainOf := goodIn_r _ [33, 20, 21, 22, 5, 23, 11, 12, 13, 24, 25, 26, 27, 28, 29, 45, 46, 47, 48, 49, 50, 51, 52, 53, 54, 55, 56, 57, 58, 59, 60, 61, 62, 63, 64, 65, 66, 67, 68, 69, 70, 71, 72, 73, 74, 75] (by decide +kernel) (by decide +kernel)
set_option maxRecDepth 20000 in
theorem gX11_trade_X10_gainOf : GoodIn wsX11_trade (wsV RX11 243 RX10 yX10_gainOf wsX10_gainOf) := goodIn_app (goodIn_of _ (by decide +kernel)) ggX11_trade_X10_gainOf
set_option maxRecDepth 20000 in
theorem ggX11_trades_X10_mostTrades : GoodIn wsX11_trades wsX10_mostTrades := goodIn_r _ [6, 7, 8, 9, 5, 10, 11, 12, 13, 14, 15, 16, 17, 18, 19, 20, 21, 22, 23, 24, 25, 26, 27, 28, 29, 30, 31, 32, 33, 34, 35, 36, 37, 48, 49, 50, 51, 52, 53, 54, 55, 56, 57, 58, 59, 60, 61, 62, 63, 64, 65, 66, 67, 68, 69, 70, 71, 72, 73, 74, 75, 76, 77, 78] (by decide +kernel) (by decide +kernel)
set_option maxRecDepth 20000 in
theorem gX11_trades_X10_mostTrades : GoodIn wsX11_trades (wsV RX11 246 RX10 yX10_mostTrades wsX10_mostTrades) := goodIn_app (goodIn_of _ (by decide +kernel)) ggX11_trades_X10_mostTrades
set_option maxRecDepth 20000 in
theorem ggX11_wealth_X10_worthOf : GoodIn wsX11_wealth wsX10_worthOf := goodIn_r _ [9, 10, 11, 12, 13, 14, 41, 42, 43, 44, 45, 46, 47, 48, 49, 50, 51, 52, 53, 54, 55, 25, 26, 27, 28, 29, 30, 31, 32, 33, 34, 35, 36, 37, 38, 39, 40] (by decide +kernel) (by decide +kernel)
set_option maxRecDepth 20000 in
theorem gX11_wealth_X10_worthOf : GoodIn wsX11_wealth (wsV RX11 249 RX10 yX10_worthOf wsX10_worthOf) := goodIn_app (goodIn_of _ (by decide +kernel)) ggX11_wealth_X10_worthOf
set_option maxRecDepth 20000 in
theorem ggX11_off_X3_farOff : GoodIn wsX11_off wsX3_farOff := goodIn_r _ [9, 10, 11, 12, 13, 14, 15, 16, 43, 44, 45, 46, 47, 48, 49, 50, 51, 52, 53, 54, 55, 56] (by decide +kernel) (by decide +kernel)
set_option maxRecDepth 20000 in
theorem gX11_off_X3_farOff : GoodIn wsX11_off (wsV RX11 256 RX3 yX3_farOff wsX3_farOff) := goodIn_app (goodIn_of _ (by decide +kernel)) ggX11_off_X3_farOff
set_option maxRecDepth 20000 in
theorem ggX11_right_X3_rightThings : GoodIn wsX11_right wsX3_rightThings := goodIn_r _ [7, 8, 9, 10, 11, 12, 13, 6, 14, 25, 26, 27, 28, 29, 30, 31, 32, 33, 34, 35, 36, 37, 38, 39, 40, 41, 42, 43, 44, 45, 46, 47, 48, 49, 50, 51, 52, 53, 54] (by decide +kernel) (by decide +kernel)
set_option maxRecDepth 20000 in
theorem gX11_right_X3_rightThings : GoodIn wsX11_right (wsV RX11 260 RX3 yX3_rightThings wsX3_rightThings) := goodIn_app (goodIn_of _ (by decide +kernel)) ggX11_right_X3_rightThings
set_option maxRecDepth 20000 in
theorem ggX11_stay_X11_isThing : GoodIn wsX11_stay wsX11_isThing := goodIn_r _ [6, 7, 8, 61, 62, 63, 64, 65, 66, 67, 68, 69, 70, 71, 72, 73, 74, 75, 76, 77, 78, 79, 80, 81, 82, 83, 84, 85, 86] (by decide +kernel) (by decide +kernel)
set_option maxRecDepth 20000 in
theorem gX11_stay_X11_isThing : GoodIn wsX11_stay (wsV RX11 125 RX11 yX11_isThing wsX11_isThing) := goodIn_app (goodIn_of _ (by decide +kernel)) ggX11_stay_X11_isThing
set_option maxRecDepth 20000 in
theorem ggX11_stay_X3_oddsToStay : GoodIn wsX11_stay wsX3_oddsToStay := goodIn_r _ [13, 14, 15, 16, 17, 18, 19, 20, 21, 12, 22, 23, 24, 25, 26, 27, 28, 29, 30, 31, 32, 33, 34, 35, 36, 37, 38, 39, 40, 41, 42, 43, 44, 45, 46, 47, 48, 49, 50, 51, 52, 53, 54, 55, 56, 57, 58, 59, 60, 87, 88, 89, 90, 91, 92, 93, 94, 95, 96, 97, 98, 99, 100, 71, 72, 73, 74, 75, 76, 77, 78, 79, 80, 81, 82, 83, 84, 85, 86, 101, 102, 103, 104, 105, 106] (by decide +kernel) (by decide +kernel)
set_option maxRecDepth 20000 in
theorem gX11_stay_X3_oddsToStay : GoodIn wsX11_stay (wsV RX11 263 RX3 yX3_oddsToStay wsX3_oddsToStay) := goodIn_app (goodIn_of _ (by decide +kernel)) ggX11_stay_X3_oddsToStay
set_option maxRecDepth 20000 in
theorem ggX11_will_X11_isThing : GoodIn wsX11_will wsX11_isThing := goodIn_r _ [6, 7, 8, 69, 70, 71, 72, 73, 74, 75, 76, 77, 78, 79, 80, 81, 82, 83, 84, 85, 86, 87, 88, 89, 90, 91, 92, 93, 94] (by decide +kernel) (by decide +kernel)
set_option maxRecDepth 20000 in
theorem gX11_will_X11_isThing : GoodIn wsX11_will (wsV RX11 125 RX11 yX11_isThing wsX11_isThing) := goodIn_app (goodIn_of _ (by decide +kernel)) ggX11_will_X11_isThing
set_option maxRecDepth 20000 in
theorem ggX11_will_X3_thoughtBehind : GoodIn wsX11_will wsX3_thoughtBehind := goodIn_r _ [13, 14, 15, 16, 17, 18, 19, 20, 21, 22, 12, 23, 24, 25, 26, 27, 28, 29, 30, 31, 32, 33, 34, 35, 36, 37, 38, 39, 40, 41, 42, 43, 44, 45, 46, 47, 48, 49, 50, 51, 52, 53, 54, 55, 56, 57, 58, 59, 60, 61, 62, 63, 64, 65, 66, 67, 68, 95, 96, 97, 98, 99, 100, 101, 102, 103, 104, 105, 106, 107, 108, 79, 80, 81, 82, 83, 84, 85, 86, 87, 88, 89, 90, 91, 92, 93, 94, 109, 110, 111, 112, 113, 114] (by decide +kernel) (by decide +kernel)
set_option maxRecDepth 20000 in
theorem gX11_will_X3_thoughtBehind : GoodIn wsX11_will (wsV RX11 266 RX3 yX3_thoughtBehind wsX3_thoughtBehind) := goodIn_app (goodIn_of _ (by decide +kernel)) ggX11_will_X3_thoughtBehind
set_option maxRecDepth 20000 in
theorem ggX11_lost_X3_daysTillLost : GoodIn wsX11_lost wsX3_daysTillLost := goodIn_r _ [6, 7, 8, 9, 10, 11, 12, 13, 14, 15, 16, 17, 18, 5, 19, 20, 21, 22, 23, 24, 25, 26, 27, 28, 29, 30, 31, 32, 33, 34, 35, 36, 37, 38, 39, 40, 41, 42, 43, 44, 45, 46, 47, 48, 49, 50, 51, 52, 53, 54, 55, 56, 57, 58, 59, 60, 61, 62, 63, 64, 65, 66, 67, 68, 69, 80, 81, 82, 83, 84, 85, 86, 87, 88, 89, 90, 91, 92, 93, 94, 95, 96, 97, 98, 99, 100, 101, 102, 103, 104, 105, 106, 107, 108, 109, 110, 111, 112, 113, 114, 115] (by decide +kernel) (by decide +kernel)
set_option maxRecDepth 20000 in
theorem gX11_lost_X3_daysTillLost : GoodIn wsX11_lost (wsV RX11 269 RX3 yX3_daysTillLost wsX3_daysTillLost) := goodIn_app (goodIn_of _ (by decide +kernel)) ggX11_lost_X3_daysTillLost
set_option maxRecDepth 20000 in
theorem ggX11_heard_X0_creakingRooms : GoodIn wsX11_heard wsX0_creakingRooms := goodIn_r _ [11, 12, 13, 14, 36, 37, 38, 39, 40, 41, 42, 43, 44, 45, 46, 47, 48, 49, 50, 51, 52, 53, 54, 55, 56] (by decide +kernel) (by decide +kernel)
set_option maxRecDepth 20000 in
theorem gX11_heard_X0_creakingRooms : GoodIn wsX11_heard (wsV RX11 278 RX0 yX0_creakingRooms wsX0_creakingRooms) := goodIn_app (goodIn_of _ (by decide +kernel)) ggX11_heard_X0_creakingRooms
set_option maxRecDepth 20000 in
theorem ggX11_heard_X11_isMinute : GoodIn wsX11_heard wsX11_isMinute := goodIn_r _ [6] (by decide +kernel) (by decide +kernel)
set_option maxRecDepth 20000 in
theorem gX11_heard_X11_isMinute : GoodIn wsX11_heard (va_wsS RX11 275 yX11_isMinute wsX11_isMinute) := goodIn_app (goodIn_of _ (by decide +kernel)) ggX11_heard_X11_isMinute
set_option maxRecDepth 20000 in
theorem ggX11_heard_X4_note : GoodIn wsX11_heard wsX4_note := goodIn_r _ [19, 20, 21, 22, 23, 24, 25, 57, 58, 59, 60, 61, 62, 63, 64, 65, 66] (by decide +kernel) (by decide +kernel)
set_option maxRecDepth 20000 in
theorem gX11_heard_X4_note : GoodIn wsX11_heard (wsV RX11 281 RX4 yX4_note wsX4_note) := goodIn_app (goodIn_of _ (by decide +kernel)) ggX11_heard_X4_note
set_option maxRecDepth 20000 in
theorem ggX11_seen_X11_isMinute : GoodIn wsX11_seen wsX11_isMinute := goodIn_r _ [11] (by decide +kernel) (by decide +kernel)
set_option maxRecDepth 20000 in
theorem gX11_seen_X11_isMinute : GoodIn wsX11_seen (va_wsS RX11 275 yX11_isMinute wsX11_isMinute) := goodIn_app (goodIn_of _ (by decide +kernel)) ggX11_seen_X11_isMinute
set_option maxRecDepth 20000 in
theorem ggX11_seen_X11_isRoom : GoodIn wsX11_seen wsX11_isRoom := goodIn_r _ [6, 7, 8, 23, 24, 25, 26, 27, 28, 29, 30, 31, 32, 33, 34, 35, 36, 37, 38, 39, 40, 41, 42, 43, 44, 45, 46, 47, 48] (by decide +kernel) (by decide +kernel)
set_option maxRecDepth 20000 in
theorem gX11_seen_X11_isRoom : GoodIn wsX11_seen (wsV RX11 110 RX11 yX11_isRoom wsX11_isRoom) := goodIn_app (goodIn_of _ (by decide +kernel)) ggX11_seen_X11_isRoom
set_option maxRecDepth 20000 in
theorem ggX11_seen_X4_note : GoodIn wsX11_seen wsX4_note := goodIn_r _ [16, 17, 18, 19, 20, 21, 22, 49, 50, 51, 52, 53, 54, 55, 56, 57, 58] (by decide +kernel) (by decide +kernel)
set_option maxRecDepth 20000 in
theorem gX11_seen_X4_note : GoodIn wsX11_seen (wsV RX11 281 RX4 yX4_note wsX4_note) := goodIn_app (goodIn_of _ (by decide +kernel)) ggX11_seen_X4_note
set_option maxRecDepth 20000 in
theorem ggX11_untell_X4_takeBack : GoodIn wsX11_untell wsX4_takeBack := goodIn_r _ [6, 7, 8, 9, 20, 21, 22, 23, 24, 25, 26, 27, 28, 29] (by decide +kernel) (by decide +kernel)
set_option maxRecDepth 20000 in
theorem gX11_untell_X4_takeBack : GoodIn wsX11_untell (wsV RX11 285 RX4 yX4_takeBack wsX4_takeBack) := goodIn_app (goodIn_of _ (by decide +kernel)) ggX11_untell_X4_takeBack
theorem iw_X11_parts_X0 : ∀ w ∈ wsX00, w ∈ wsX11_parts := fun _ h => List.mem_cons_of_mem _ (List.mem_append_right _ h)
theorem iw_X11_parts_X11 : ∀ w ∈ wsX110, w ∈ wsX11_parts := fun _ h => List.mem_cons_of_mem _ (List.mem_append_left _ (List.mem_append_right _ h))
theorem iw_X11_hunt_X11 : ∀ w ∈ wsX110, w ∈ wsX11_hunt := fun _ h => List.mem_cons_of_mem _ (List.mem_append_left _ (List.mem_append_left _ (List.mem_append_left _ (List.mem_append_right _ h))))
theorem iw_X11_first_X11 : ∀ w ∈ wsX110, w ∈ wsX11_first := fun _ h => List.mem_cons_of_mem _ (List.mem_append_left _ (List.mem_append_left _ (List.mem_append_left _ (List.mem_append_right _ h))))
theorem iw_X11_meet_X11 : ∀ w ∈ wsX110, w ∈ wsX11_meet := fun _ h => List.mem_cons_of_mem _ (List.mem_append_left _ (List.mem_append_left _ (List.mem_append_right _ h)))
theorem iw_X11_bar_X11 : ∀ w ∈ wsX110, w ∈ wsX11_bar := fun _ h => List.mem_cons_of_mem _ (List.mem_append_left _ (List.mem_append_left _ (List.mem_append_right _ h)))
theorem iw_X11_tour_X11 : ∀ w ∈ wsX110, w ∈ wsX11_tour := fun _ h => List.mem_cons_of_mem _ (List.mem_append_left _ (List.mem_append_left _ (List.mem_append_left _ (List.mem_append_right _ h))))
theorem iw_X11_tour_X7 : ∀ w ∈ wsX70, w ∈ wsX11_tour := fun _ h => List.mem_cons_of_mem _ (List.mem_append_left _ (List.mem_append_left _ (List.mem_append_right _ h)))
theorem iw_X11_centre_X11 : ∀ w ∈ wsX110, w ∈ wsX11_centre := fun _ h => List.mem_cons_of_mem _ (List.mem_append_left _ (List.mem_append_left _ (List.mem_append_right _ h)))
theorem iw_X11_nooks_X0 : ∀ w ∈ wsX00, w ∈ wsX11_nooks := fun _ h => List.mem_cons_of_mem _ (List.mem_append_right _ h)
theorem iw_X11_nooks_X11 : ∀ w ∈ wsX110, w ∈ wsX11_nooks := fun _ h => List.mem_cons_of_mem _ (List.mem_append_left _ (List.mem_append_left _ (List.mem_append_right _ h)))
theorem iw_X11_nooks_X5 : ∀ w ∈ wsX50, w ∈ wsX11_nooks := fun _ h => List.mem_cons_of_mem _ (List.mem_append_left _ (List.mem_append_right _ h))
theorem iw_X11_echo_X11 : ∀ w ∈ wsX110, w ∈ wsX11_echo := fun _ h => List.mem_cons_of_mem _ (List.mem_append_left _ (List.mem_append_left _ (List.mem_append_right _ h)))
theorem iw_X11_echo_X5 : ∀ w ∈ wsX50, w ∈ wsX11_echo := fun _ h => List.mem_cons_of_mem _ (List.mem_append_left _ (List.mem_append_right _ h))
theorem iw_X11_mend_X11 : ∀ w ∈ wsX110, w ∈ wsX11_mend := fun _ h => List.mem_cons_of_mem _ (List.mem_append_left _ (List.mem_append_left _ (List.mem_append_left _ (List.mem_append_right _ h))))
theorem iw_X11_regret_X11 : ∀ w ∈ wsX110, w ∈ wsX11_regret := fun _ h => List.mem_cons_of_mem _ (List.mem_append_left _ (List.mem_append_left _ (List.mem_append_left _ (List.mem_append_left _ (List.mem_append_right _ h)))))
theorem iw_X11_trade_X11 : ∀ w ∈ wsX110, w ∈ wsX11_trade := fun _ h => List.mem_cons_of_mem _ (List.mem_append_left _ (List.mem_append_left _ (List.mem_append_left _ (List.mem_append_left _ (List.mem_append_right _ h)))))
theorem iw_X11_trades_X11 : ∀ w ∈ wsX110, w ∈ wsX11_trades := fun _ h => List.mem_cons_of_mem _ (List.mem_append_left _ (List.mem_append_left _ (List.mem_append_left _ (List.mem_append_left _ (List.mem_append_right _ h)))))
theorem iw_X11_wealth_X11 : ∀ w ∈ wsX110, w ∈ wsX11_wealth := fun _ h => List.mem_cons_of_mem _ (List.mem_append_left _ (List.mem_append_left _ (List.mem_append_left _ (List.mem_append_left _ (List.mem_append_right _ h)))))
theorem iw_X11_wealth_X5 : ∀ w ∈ wsX50, w ∈ wsX11_wealth := fun _ h => List.mem_cons_of_mem _ (List.mem_append_left _ (List.mem_append_left _ (List.mem_append_left _ (List.mem_append_right _ h))))
theorem iw_X11_off_X11 : ∀ w ∈ wsX110, w ∈ wsX11_off := fun _ h => List.mem_cons_of_mem _ (List.mem_append_left _ (List.mem_append_left _ (List.mem_append_left _ (List.mem_append_right _ h))))
theorem iw_X11_off_X3 : ∀ w ∈ wsX30, w ∈ wsX11_off := fun _ h => List.mem_cons_of_mem _ (List.mem_append_left _ (List.mem_append_right _ h))
theorem iw_X11_off_X5 : ∀ w ∈ wsX50, w ∈ wsX11_off := fun _ h => List.mem_cons_of_mem _ (List.mem_append_left _ (List.mem_append_left _ (List.mem_append_right _ h)))
theorem iw_X11_right_X11 : ∀ w ∈ wsX110, w ∈ wsX11_right := fun _ h => List.mem_cons_of_mem _ (List.mem_append_left _ (List.mem_append_left _ (List.mem_append_left _ (List.mem_append_right _ h))))
theorem iw_X11_right_X3 : ∀ w ∈ wsX30, w ∈ wsX11_right := fun _ h => List.mem_cons_of_mem _ (List.mem_append_left _ (List.mem_append_left _ (List.mem_append_right _ h)))
theorem iw_X11_deep_X11 : ∀ w ∈ wsX110, w ∈ wsX11_deep := fun _ h => List.mem_cons_of_mem _ (List.mem_append_left _ (List.mem_append_left _ (List.mem_append_right _ h)))
theorem iw_X11_deep_X3 : ∀ w ∈ wsX30, w ∈ wsX11_deep := fun _ h => List.mem_cons_of_mem _ (List.mem_append_right _ h)
theorem iw_X11_deep_X5 : ∀ w ∈ wsX50, w ∈ wsX11_deep := fun _ h => List.mem_cons_of_mem _ (List.mem_append_left _ (List.mem_append_right _ h))
theorem iw_X11_stay_X11 : ∀ w ∈ wsX110, w ∈ wsX11_stay := fun _ h => List.mem_cons_of_mem _ (List.mem_append_left _ (List.mem_append_left _ (List.mem_append_left _ (List.mem_append_left _ (List.mem_append_right _ h)))))
theorem iw_X11_will_X11 : ∀ w ∈ wsX110, w ∈ wsX11_will := fun _ h => List.mem_cons_of_mem _ (List.mem_append_left _ (List.mem_append_left _ (List.mem_append_left _ (List.mem_append_left _ (List.mem_append_right _ h)))))
theorem iw_X11_lost_X11 : ∀ w ∈ wsX110, w ∈ wsX11_lost := fun _ h => List.mem_cons_of_mem _ (List.mem_append_left _ (List.mem_append_left _ (List.mem_append_left _ (List.mem_append_left _ (List.mem_append_right _ h)))))
theorem iw_X11_lies_X11 : ∀ w ∈ wsX110, w ∈ wsX11_lies := fun _ h => List.mem_cons_of_mem _ (List.mem_append_left _ (List.mem_append_right _ h))
theorem iw_X11_lies_X7 : ∀ w ∈ wsX70, w ∈ wsX11_lies := fun _ h => List.mem_cons_of_mem _ (List.mem_append_right _ h)
theorem iw_X11_heard_X11 : ∀ w ∈ wsX110, w ∈ wsX11_heard := fun _ h => List.mem_cons_of_mem _ (List.mem_append_left _ (List.mem_append_left _ (List.mem_append_left _ (List.mem_append_right _ h))))
theorem iw_X11_seen_X11 : ∀ w ∈ wsX110, w ∈ wsX11_seen := fun _ h => List.mem_cons_of_mem _ (List.mem_append_left _ (List.mem_append_left _ (List.mem_append_right _ h)))
theorem iw_X11_untell_X11 : ∀ w ∈ wsX110, w ∈ wsX11_untell := fun _ h => List.mem_cons_of_mem _ (List.mem_append_left _ (List.mem_append_right _ h))
