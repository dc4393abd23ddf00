def wsX8_put : List Cond := .code yX8_put cX8_put 3 none :: ([.fieldLink RX8 15 "SoldHouse$Tape" "size" "I", .fieldLink RX8 9 "SoldHouse$Tape" "bytes" "[B"] ++ wsX80)
def wsX11_feed : List Cond := .code yX11_feed cX11_feed 6 (some .int) :: ([.fieldLink RX11 22 "SoldHouse" "tape" "LSoldHouse$Tape;", .fieldLink RX11 86 "SoldHouse$Tape" "size" "I", .methodLink RX11 90 yX8_put, .instanceMethod yX8_put, .selects RX8 yX8_put yX8_put, .initialized RX8, .code yX8_put cX8_put 3 none, .fieldLink RX8 15 "SoldHouse$Tape" "size" "I", .fieldLink RX8 9 "SoldHouse$Tape" "bytes" "[B"] ++ wsX110 ++ wsX80)
def wsX11_end : List Cond := .code yX11_end cX11_end 2 (some .int) :: ([.fieldLink RX11 22 "SoldHouse" "tape" "LSoldHouse$Tape;", .fieldLink RX11 86 "SoldHouse$Tape" "size" "I"] ++ wsX110 ++ wsX80)
def wsX11_way_r1 : List Cond := [Cond.fieldLink RX11 49 "SoldHouse" "routes" "LSoldHouse$Routes;", Cond.fieldLink RX11 187 "SoldHouse$Routes" "lying" "I", Cond.methodLink RX11 110 yX11_isRoom, Cond.instanceMethod yX11_isRoom, Cond.selects RX11 yX11_isRoom yX11_isRoom, Cond.initialized RX11, Cond.code yX11_isRoom cX11_isRoom 2 (some .boolean), Cond.fieldLink RX11 10 "SoldHouse" "plan" "LSoldHouse$Plan;", Cond.fieldLink RX11 101 "SoldHouse$Plan" "rooms" "I", Cond.methodLink RX11 190 yX7_layWay, Cond.instanceMethod yX7_layWay, Cond.selects RX7 yX7_layWay yX7_layWay, Cond.initialized RX7, Cond.code yX7_layWay cX7_layWay 6 (some .int), Cond.fieldLink RX7 21 "SoldHouse$Routes" "floor" "LSoldHouse$Floor;", Cond.methodLink RX7 25 yX0_farOf, Cond.instanceMethod yX0_farOf, Cond.selects RX0 yX0_farOf yX0_farOf, Cond.initialized RX0, Cond.code yX0_farOf cX0_farOf 3 (some .int), Cond.fieldLink RX0 15 "SoldHouse$Floor" "far" "[I", Cond.methodLink RX7 31 yX7_lay, Cond.instanceMethod yX7_lay, Cond.selects RX7 yX7_lay yX7_lay]
def wsX11_way_r2 : List Cond := [Cond.code yX7_lay cX7_lay 2 none, Cond.fieldLink RX7 79 "SoldHouse$Routes" "lying" "I", Cond.fieldLink RX7 9 "SoldHouse$Routes" "lie" "[I", Cond.methodLink RX7 35 yX7_nextOnWay, Cond.instanceMethod yX7_nextOnWay, Cond.selects RX7 yX7_nextOnWay yX7_nextOnWay, Cond.code yX7_nextOnWay cX7_nextOnWay 5 (some .int), Cond.fieldLink RX7 52 "SoldHouse$Floor" "plan" "LSoldHouse$Plan;", Cond.fieldLink RX7 56 "SoldHouse$Plan" "rooms" "I", Cond.fieldLink RX7 82 "SoldHouse$Floor" "next" "[I"]
def wsX11_way : List Cond := .code yX11_way cX11_way 3 (some .int) :: ((wsX11_way_r1 ++ wsX11_way_r2) ++ wsX110 ++ wsX70 ++ wsX50 ++ wsX00)
def wsX11_quiet_r1 : List Cond := [Cond.fieldLink RX11 49 "SoldHouse" "routes" "LSoldHouse$Routes;", Cond.fieldLink RX11 187 "SoldHouse$Routes" "lying" "I", Cond.methodLink RX11 110 yX11_isRoom, Cond.instanceMethod yX11_isRoom, Cond.selects RX11 yX11_isRoom yX11_isRoom, Cond.initialized RX11, Cond.code yX11_isRoom cX11_isRoom 2 (some .boolean), Cond.fieldLink RX11 10 "SoldHouse" "plan" "LSoldHouse$Plan;", Cond.fieldLink RX11 101 "SoldHouse$Plan" "rooms" "I", Cond.methodLink RX11 193 yX7_layQuiet, Cond.instanceMethod yX7_layQuiet, Cond.selects RX7 yX7_layQuiet yX7_layQuiet, Cond.initialized RX7, Cond.code yX7_layQuiet cX7_layQuiet 5 (some .int), Cond.fieldLink RX7 21 "SoldHouse$Routes" "floor" "LSoldHouse$Floor;", Cond.fieldLink RX7 15 "SoldHouse$Routes" "cost" "[I", Cond.methodLink RX7 25 yX0_farOf, Cond.instanceMethod yX0_farOf, Cond.selects RX0 yX0_farOf yX0_farOf, Cond.initialized RX0, Cond.code yX0_farOf cX0_farOf 3 (some .int), Cond.fieldLink RX0 15 "SoldHouse$Floor" "far" "[I", Cond.methodLink RX7 39 yX7_costTo, Cond.instanceMethod yX7_costTo]
def wsX11_quiet_r2 : List Cond := [Cond.selects RX7 yX7_costTo yX7_costTo, Cond.code yX7_costTo cX7_costTo 4 none, Cond.constant RX7 85 (1048576), Cond.fieldLink RX7 52 "SoldHouse$Floor" "plan" "LSoldHouse$Plan;", Cond.fieldLink RX7 56 "SoldHouse$Plan" "rooms" "I", Cond.methodLink RX7 89 Lib.Math.min.name, Cond.static Lib.Math.min.name, Cond.initialized "java/lang/Math", Cond.code Lib.Math.min.name Lib.Math.min.code 2 (some .int), Cond.methodLink RX7 46 yJ7_fill_53178, Cond.static yJ7_fill_53178, Cond.initialized RJ7, Cond.code yJ7_fill_53178 cJ7_fill_53178 4 none, Cond.methodLink RX7 42 yX7_nextOnQuiet, Cond.instanceMethod yX7_nextOnQuiet, Cond.selects RX7 yX7_nextOnQuiet yX7_nextOnQuiet, Cond.code yX7_nextOnQuiet cX7_nextOnQuiet 5 (some .int), Cond.fieldLink RX7 82 "SoldHouse$Floor" "next" "[I", Cond.methodLink RX7 86 yX7_costBy, Cond.instanceMethod yX7_costBy, Cond.selects RX7 yX7_costBy yX7_costBy, Cond.code yX7_costBy cX7_costBy 3 (some .int), Cond.fieldLink RX7 94 "SoldHouse$Plan" "creaks" "[I", Cond.methodLink RX7 31 yX7_lay]
def wsX11_quiet_r3 : List Cond := [Cond.instanceMethod yX7_lay, Cond.selects RX7 yX7_lay yX7_lay, Cond.code yX7_lay cX7_lay 2 none, Cond.fieldLink RX7 79 "SoldHouse$Routes" "lying" "I", Cond.fieldLink RX7 9 "SoldHouse$Routes" "lie" "[I"]
def wsX11_quiet : List Cond := .code yX11_quiet cX11_quiet 3 (some .int) :: ((wsX11_quiet_r1 ++ (wsX11_quiet_r2 ++ wsX11_quiet_r3)) ++ wsX110 ++ wsX70 ++ wsX50 ++ wsX00)
def wsX11_tour_r1 : List Cond := [Cond.fieldLink RX11 49 "SoldHouse" "routes" "LSoldHouse$Routes;", Cond.fieldLink RX11 187 "SoldHouse$Routes" "lying" "I", Cond.methodLink RX11 110 yX11_isRoom, Cond.instanceMethod yX11_isRoom, Cond.selects RX11 yX11_isRoom yX11_isRoom, Cond.initialized RX11, Cond.code yX11_isRoom cX11_isRoom 2 (some .boolean), Cond.fieldLink RX11 10 "SoldHouse" "plan" "LSoldHouse$Plan;", Cond.fieldLink RX11 101 "SoldHouse$Plan" "rooms" "I", Cond.methodLink RX11 203 yX11_areRooms, Cond.instanceMethod yX11_areRooms, Cond.selects RX11 yX11_areRooms yX11_areRooms, Cond.code yX11_areRooms cX11_areRooms 2 (some .boolean), Cond.methodLink RX11 228 yX7_layTour, Cond.instanceMethod yX7_layTour, Cond.selects RX7 yX7_layTour yX7_layTour, Cond.initialized RX7, Cond.code yX7_layTour cX7_layTour 6 (some .int), Cond.fieldLink RX7 21 "SoldHouse$Routes" "floor" "LSoldHouse$Floor;", Cond.fieldLink RX7 18 "SoldHouse$Routes" "rest" "[I", Cond.methodLink RX7 65 yX0_allRooms, Cond.instanceMethod yX0_allRooms, Cond.selects RX0 yX0_allRooms yX0_allRooms, Cond.initialized RX0]
def wsX11_tour_r2 : List Cond := [Cond.code yX0_allRooms cX0_allRooms 1 (some .int), Cond.fieldLink RX0 21 "SoldHouse$Floor" "plan" "LSoldHouse$Plan;", Cond.fieldLink RX0 43 "SoldHouse$Plan" "rooms" "I", Cond.methodLink RX7 69 yX0_reach, Cond.instanceMethod yX0_reach, Cond.selects RX0 yX0_reach yX0_reach, Cond.code yX0_reach cX0_reach 5 (some .int), Cond.methodLink RX0 57 yX0_behindDoors, Cond.instanceMethod yX0_behindDoors, Cond.selects RX0 yX0_behindDoors yX0_behindDoors, Cond.code yX0_behindDoors cX0_behindDoors 4 (some .int), Cond.fieldLink RX0 9 "SoldHouse$Floor" "next" "[I", Cond.methodLink RX7 72 yX7_measureTours, Cond.instanceMethod yX7_measureTours, Cond.selects RX7 yX7_measureTours yX7_measureTours, Cond.code yX7_measureTours cX7_measureTours 4 none, Cond.fieldLink RX7 52 "SoldHouse$Floor" "plan" "LSoldHouse$Plan;", Cond.fieldLink RX7 56 "SoldHouse$Plan" "rooms" "I", Cond.methodLink RX7 76 yX7_nextOnTour, Cond.instanceMethod yX7_nextOnTour, Cond.selects RX7 yX7_nextOnTour yX7_nextOnTour, Cond.code yX7_nextOnTour cX7_nextOnTour 6 (some .int), Cond.constant RX7 85 (1048576), Cond.methodLink RX7 97 yX7_tourBy]
def wsX11_tour_r3 : List Cond := [Cond.instanceMethod yX7_tourBy, Cond.selects RX7 yX7_tourBy yX7_tourBy, Cond.code yX7_tourBy cX7_tourBy 4 (some .int), Cond.methodLink RX7 25 yX0_farOf, Cond.instanceMethod yX0_farOf, Cond.selects RX0 yX0_farOf yX0_farOf, Cond.code yX0_farOf cX0_farOf 3 (some .int), Cond.fieldLink RX0 15 "SoldHouse$Floor" "far" "[I", Cond.methodLink RX7 31 yX7_lay, Cond.instanceMethod yX7_lay, Cond.selects RX7 yX7_lay yX7_lay, Cond.code yX7_lay cX7_lay 2 none, Cond.fieldLink RX7 79 "SoldHouse$Routes" "lying" "I", Cond.fieldLink RX7 9 "SoldHouse$Routes" "lie" "[I"]
def wsX11_tour : List Cond := .code yX11_tour cX11_tour 3 (some .int) :: ((wsX11_tour_r1 ++ (wsX11_tour_r2 ++ wsX11_tour_r3)) ++ wsX110 ++ wsX70 ++ wsX50 ++ wsX00)
def wsX4_moveOn : List Cond := .code yX4_moveOn cX4_moveOn 2 (some .int) :: ([.constant RX4 44 (100000), .fieldLink RX4 41 "SoldHouse$Night" "time" "I"] ++ wsX40)
def wsX11_later : List Cond := .code yX11_later cX11_later 2 (some .int) :: ([.fieldLink RX11 79 "SoldHouse" "night" "LSoldHouse$Night;", .methodLink RX11 288 yX4_moveOn, .instanceMethod yX4_moveOn, .selects RX4 yX4_moveOn yX4_moveOn, .initialized RX4, .code yX4_moveOn cX4_moveOn 2 (some .int), .constant RX4 44 (100000), .fieldLink RX4 41 "SoldHouse$Night" "time" "I"] ++ wsX110 ++ wsX40)
def wsX4_note : List Cond := .code yX4_note cX4_note 4 (some .int) :: ([.fieldLink RX4 37 "SoldHouse$Night" "count" "I", .fieldLink RX4 11 "SoldHouse$Night" "minute" "[I", .fieldLink RX4 15 "SoldHouse$Night" "rooms" "[I", .fieldLink RX4 18 "SoldHouse$Night" "toldAt" "[I", .fieldLink RX4 41 "SoldHouse$Night" "time" "I", .fieldLink RX4 21 "SoldHouse$Night" "untoldAt" "[I"] ++ wsX40)
def wsX11_heard_r1 : List Cond := [Cond.fieldLink RX11 79 "SoldHouse" "night" "LSoldHouse$Night;", Cond.fieldLink RX11 40 "SoldHouse" "floor" "LSoldHouse$Floor;", Cond.methodLink RX11 275 yX11_isMinute, Cond.static yX11_isMinute, Cond.initialized RX11, Cond.code yX11_isMinute cX11_isMinute 1 (some .boolean), Cond.methodLink RX11 278 yX0_creakingRooms, Cond.instanceMethod yX0_creakingRooms, Cond.selects RX0 yX0_creakingRooms yX0_creakingRooms, Cond.initialized RX0, Cond.code yX0_creakingRooms cX0_creakingRooms 4 (some .int), Cond.fieldLink RX0 21 "SoldHouse$Floor" "plan" "LSoldHouse$Plan;", Cond.fieldLink RX0 43 "SoldHouse$Plan" "rooms" "I", Cond.fieldLink RX0 88 "SoldHouse$Plan" "creaks" "[I", Cond.methodLink RX11 281 yX4_note, Cond.instanceMethod yX4_note, Cond.selects RX4 yX4_note yX4_note, Cond.initialized RX4, Cond.code yX4_note cX4_note 4 (some .int), Cond.fieldLink RX4 37 "SoldHouse$Night" "count" "I", Cond.fieldLink RX4 11 "SoldHouse$Night" "minute" "[I", Cond.fieldLink RX4 15 "SoldHouse$Night" "rooms" "[I", Cond.fieldLink RX4 18 "SoldHouse$Night" "toldAt" "[I", Cond.fieldLink RX4 41 "SoldHouse$Night" "time" "I"]
def wsX11_heard_r2 : List Cond := [Cond.fieldLink RX4 21 "SoldHouse$Night" "untoldAt" "[I"]
def wsX11_heard : List Cond := .code yX11_heard cX11_heard 4 (some .int) :: ((wsX11_heard_r1 ++ wsX11_heard_r2) ++ wsX110 ++ wsX00 ++ wsX50 ++ wsX40)
def wsJ7_fill_53178 : List Cond := .code yJ7_fill_53178 cJ7_fill_53178 4 none :: ([])
def wsX4_openRooms : List Cond := .code yX4_openRooms cX4_openRooms 4 none :: ([.fieldLink RX4 24 "SoldHouse$Night" "open" "[I", .fieldLink RX4 37 "SoldHouse$Night" "count" "I", .fieldLink RX4 21 "SoldHouse$Night" "untoldAt" "[I", .fieldLink RX4 18 "SoldHouse$Night" "toldAt" "[I", .fieldLink RX4 11 "SoldHouse$Night" "minute" "[I", .fieldLink RX4 15 "SoldHouse$Night" "rooms" "[I", .methodLink RX4 82 yJ7_fill_53178, .static yJ7_fill_53178, .initialized RJ7, .code yJ7_fill_53178 cJ7_fill_53178 4 none] ++ wsX40)
def wsX4_countWalks_r1 : List Cond := [Cond.fieldLink RX4 33 "SoldHouse$Night" "floor" "LSoldHouse$Floor;", Cond.fieldLink RX4 49 "SoldHouse$Floor" "plan" "LSoldHouse$Plan;", Cond.fieldLink RX4 55 "SoldHouse$Plan" "rooms" "I", Cond.fieldLink RX4 27 "SoldHouse$Night" "into" "[I", Cond.fieldLink RX4 30 "SoldHouse$Night" "onward" "[I", Cond.methodLink RX4 45 yX4_openRooms, Cond.instanceMethod yX4_openRooms, Cond.selects RX4 yX4_openRooms yX4_openRooms, Cond.initialized RX4, Cond.code yX4_openRooms cX4_openRooms 4 none, Cond.fieldLink RX4 24 "SoldHouse$Night" "open" "[I", Cond.fieldLink RX4 37 "SoldHouse$Night" "count" "I", Cond.fieldLink RX4 21 "SoldHouse$Night" "untoldAt" "[I", Cond.fieldLink RX4 18 "SoldHouse$Night" "toldAt" "[I", Cond.fieldLink RX4 11 "SoldHouse$Night" "minute" "[I", Cond.fieldLink RX4 15 "SoldHouse$Night" "rooms" "[I", Cond.methodLink RX4 82 yJ7_fill_53178, Cond.static yJ7_fill_53178, Cond.initialized RJ7, Cond.code yJ7_fill_53178 cJ7_fill_53178 4 none, Cond.methodLink RX4 59 yX4_isOpen, Cond.instanceMethod yX4_isOpen, Cond.selects RX4 yX4_isOpen yX4_isOpen, Cond.code yX4_isOpen cX4_isOpen 3 (some .boolean)]
def wsX4_countWalks_r2 : List Cond := [Cond.methodLink RX4 63 yX4_comingTo, Cond.instanceMethod yX4_comingTo, Cond.selects RX4 yX4_comingTo yX4_comingTo, Cond.code yX4_comingTo cX4_comingTo 3 (some .int), Cond.methodLink RX4 88 yX4_sumAround, Cond.instanceMethod yX4_sumAround, Cond.selects RX4 yX4_sumAround yX4_sumAround, Cond.code yX4_sumAround cX4_sumAround 7 (some .int), Cond.fieldLink RX4 92 "SoldHouse$Floor" "next" "[I", Cond.methodLink RX4 67 yX4_goingOn, Cond.instanceMethod yX4_goingOn, Cond.selects RX4 yX4_goingOn yX4_goingOn, Cond.code yX4_goingOn cX4_goingOn 3 (some .int)]
def wsX4_countWalks : List Cond := .code yX4_countWalks cX4_countWalks 4 (some .int) :: ((wsX4_countWalks_r1 ++ wsX4_countWalks_r2) ++ wsX40 ++ wsX00 ++ wsX50)
def wsX11_walks_r1 : List Cond := [Cond.fieldLink RX11 79 "SoldHouse" "night" "LSoldHouse$Night;", Cond.methodLink RX11 291 yX4_countWalks, Cond.instanceMethod yX4_countWalks, Cond.selects RX4 yX4_countWalks yX4_countWalks, Cond.initialized RX4, Cond.code yX4_countWalks cX4_countWalks 4 (some .int), Cond.fieldLink RX4 33 "SoldHouse$Night" "floor" "LSoldHouse$Floor;", Cond.fieldLink RX4 49 "SoldHouse$Floor" "plan" "LSoldHouse$Plan;", Cond.fieldLink RX4 55 "SoldHouse$Plan" "rooms" "I", Cond.fieldLink RX4 27 "SoldHouse$Night" "into" "[I", Cond.fieldLink RX4 30 "SoldHouse$Night" "onward" "[I", Cond.methodLink RX4 45 yX4_openRooms, Cond.instanceMethod yX4_openRooms, Cond.selects RX4 yX4_openRooms yX4_openRooms, Cond.code yX4_openRooms cX4_openRooms 4 none, Cond.fieldLink RX4 24 "SoldHouse$Night" "open" "[I", Cond.fieldLink RX4 37 "SoldHouse$Night" "count" "I", Cond.fieldLink RX4 21 "SoldHouse$Night" "untoldAt" "[I", Cond.fieldLink RX4 18 "SoldHouse$Night" "toldAt" "[I", Cond.fieldLink RX4 11 "SoldHouse$Night" "minute" "[I", Cond.fieldLink RX4 15 "SoldHouse$Night" "rooms" "[I", Cond.methodLink RX4 82 yJ7_fill_53178, Cond.static yJ7_fill_53178, Cond.initialized RJ7]
def wsX11_walks_r2 : List Cond := [Cond.code yJ7_fill_53178 cJ7_fill_53178 4 none, Cond.methodLink RX4 59 yX4_isOpen, Cond.instanceMethod yX4_isOpen, Cond.selects RX4 yX4_isOpen yX4_isOpen, Cond.code yX4_isOpen cX4_isOpen 3 (some .boolean), Cond.methodLink RX4 63 yX4_comingTo, Cond.instanceMethod yX4_comingTo, Cond.selects RX4 yX4_comingTo yX4_comingTo, Cond.code yX4_comingTo cX4_comingTo 3 (some .int), Cond.methodLink RX4 88 yX4_sumAround, Cond.instanceMethod yX4_sumAround, Cond.selects RX4 yX4_sumAround yX4_sumAround, Cond.code yX4_sumAround cX4_sumAround 7 (some .int), Cond.fieldLink RX4 92 "SoldHouse$Floor" "next" "[I", Cond.methodLink RX4 67 yX4_goingOn, Cond.instanceMethod yX4_goingOn, Cond.selects RX4 yX4_goingOn yX4_goingOn, Cond.code yX4_goingOn cX4_goingOn 3 (some .int)]
def wsX11_walks : List Cond := .code yX11_walks cX11_walks 2 (some .int) :: ((wsX11_walks_r1 ++ wsX11_walks_r2) ++ wsX110 ++ wsX40 ++ wsX00 ++ wsX50)
def wsX11_certain_r1 : List Cond := [Cond.fieldLink RX11 79 "SoldHouse" "night" "LSoldHouse$Night;", Cond.methodLink RX11 275 yX11_isMinute, Cond.static yX11_isMinute, Cond.initialized RX11, Cond.code yX11_isMinute cX11_isMinute 1 (some .boolean), Cond.methodLink RX11 291 yX4_countWalks, Cond.instanceMethod yX4_countWalks, Cond.selects RX4 yX4_countWalks yX4_countWalks, Cond.initialized RX4, Cond.code yX4_countWalks cX4_countWalks 4 (some .int), Cond.fieldLink RX4 33 "SoldHouse$Night" "floor" "LSoldHouse$Floor;", Cond.fieldLink RX4 49 "SoldHouse$Floor" "plan" "LSoldHouse$Plan;", Cond.fieldLink RX4 55 "SoldHouse$Plan" "rooms" "I", Cond.fieldLink RX4 27 "SoldHouse$Night" "into" "[I", Cond.fieldLink RX4 30 "SoldHouse$Night" "onward" "[I", Cond.methodLink RX4 45 yX4_openRooms, Cond.instanceMethod yX4_openRooms, Cond.selects RX4 yX4_openRooms yX4_openRooms, Cond.code yX4_openRooms cX4_openRooms 4 none, Cond.fieldLink RX4 24 "SoldHouse$Night" "open" "[I", Cond.fieldLink RX4 37 "SoldHouse$Night" "count" "I", Cond.fieldLink RX4 21 "SoldHouse$Night" "untoldAt" "[I", Cond.fieldLink RX4 18 "SoldHouse$Night" "toldAt" "[I", Cond.fieldLink RX4 11 "SoldHouse$Night" "minute" "[I"]
def wsX11_certain_r2 : List Cond := [Cond.fieldLink RX4 15 "SoldHouse$Night" "rooms" "[I", Cond.methodLink RX4 82 yJ7_fill_53178, Cond.static yJ7_fill_53178, Cond.initialized RJ7, Cond.code yJ7_fill_53178 cJ7_fill_53178 4 none, Cond.methodLink RX4 59 yX4_isOpen, Cond.instanceMethod yX4_isOpen, Cond.selects RX4 yX4_isOpen yX4_isOpen, Cond.code yX4_isOpen cX4_isOpen 3 (some .boolean), Cond.methodLink RX4 63 yX4_comingTo, Cond.instanceMethod yX4_comingTo, Cond.selects RX4 yX4_comingTo yX4_comingTo, Cond.code yX4_comingTo cX4_comingTo 3 (some .int), Cond.methodLink RX4 88 yX4_sumAround, Cond.instanceMethod yX4_sumAround, Cond.selects RX4 yX4_sumAround yX4_sumAround, Cond.code yX4_sumAround cX4_sumAround 7 (some .int), Cond.fieldLink RX4 92 "SoldHouse$Floor" "next" "[I", Cond.methodLink RX4 67 yX4_goingOn, Cond.instanceMethod yX4_goingOn, Cond.selects RX4 yX4_goingOn yX4_goingOn, Cond.code yX4_goingOn cX4_goingOn 3 (some .int), Cond.methodLink RX11 294 yX4_onlyRoom, Cond.instanceMethod yX4_onlyRoom]
def wsX11_certain_r3 : List Cond := [Cond.selects RX4 yX4_onlyRoom yX4_onlyRoom, Cond.code yX4_onlyRoom cX4_onlyRoom 4 (some .int), Cond.methodLink RX4 70 yX4_through, Cond.instanceMethod yX4_through, Cond.selects RX4 yX4_through yX4_through, Cond.code yX4_through cX4_through 3 (some .int)]
def wsX11_certain : List Cond := .code yX11_certain cX11_certain 3 (some .int) :: ((wsX11_certain_r1 ++ (wsX11_certain_r2 ++ wsX11_certain_r3)) ++ wsX110 ++ wsX40 ++ wsX00 ++ wsX50)
def wsX11_ask_r1 : List Cond := [Cond.fieldLink RX11 79 "SoldHouse" "night" "LSoldHouse$Night;", Cond.methodLink RX11 291 yX4_countWalks, Cond.instanceMethod yX4_countWalks, Cond.selects RX4 yX4_countWalks yX4_countWalks, Cond.initialized RX4, Cond.code yX4_countWalks cX4_countWalks 4 (some .int), Cond.fieldLink RX4 33 "SoldHouse$Night" "floor" "LSoldHouse$Floor;", Cond.fieldLink RX4 49 "SoldHouse$Floor" "plan" "LSoldHouse$Plan;", Cond.fieldLink RX4 55 "SoldHouse$Plan" "rooms" "I", Cond.fieldLink RX4 27 "SoldHouse$Night" "into" "[I", Cond.fieldLink RX4 30 "SoldHouse$Night" "onward" "[I", Cond.methodLink RX4 45 yX4_openRooms, Cond.instanceMethod yX4_openRooms, Cond.selects RX4 yX4_openRooms yX4_openRooms, Cond.code yX4_openRooms cX4_openRooms 4 none, Cond.fieldLink RX4 24 "SoldHouse$Night" "open" "[I", Cond.fieldLink RX4 37 "SoldHouse$Night" "count" "I", Cond.fieldLink RX4 21 "SoldHouse$Night" "untoldAt" "[I", Cond.fieldLink RX4 18 "SoldHouse$Night" "toldAt" "[I", Cond.fieldLink RX4 11 "SoldHouse$Night" "minute" "[I", Cond.fieldLink RX4 15 "SoldHouse$Night" "rooms" "[I", Cond.methodLink RX4 82 yJ7_fill_53178, Cond.static yJ7_fill_53178, Cond.initialized RJ7]
def wsX11_ask_r2 : List Cond := [Cond.code yJ7_fill_53178 cJ7_fill_53178 4 none, Cond.methodLink RX4 59 yX4_isOpen, Cond.instanceMethod yX4_isOpen, Cond.selects RX4 yX4_isOpen yX4_isOpen, Cond.code yX4_isOpen cX4_isOpen 3 (some .boolean), Cond.methodLink RX4 63 yX4_comingTo, Cond.instanceMethod yX4_comingTo, Cond.selects RX4 yX4_comingTo yX4_comingTo, Cond.code yX4_comingTo cX4_comingTo 3 (some .int), Cond.methodLink RX4 88 yX4_sumAround, Cond.instanceMethod yX4_sumAround, Cond.selects RX4 yX4_sumAround yX4_sumAround, Cond.code yX4_sumAround cX4_sumAround 7 (some .int), Cond.fieldLink RX4 92 "SoldHouse$Floor" "next" "[I", Cond.methodLink RX4 67 yX4_goingOn, Cond.instanceMethod yX4_goingOn, Cond.selects RX4 yX4_goingOn yX4_goingOn, Cond.code yX4_goingOn cX4_goingOn 3 (some .int), Cond.methodLink RX11 297 yX4_bestMinute, Cond.instanceMethod yX4_bestMinute, Cond.selects RX4 yX4_bestMinute yX4_bestMinute, Cond.code yX4_bestMinute cX4_bestMinute 3 (some .int), Cond.methodLink RX4 73 yX4_mostLeft, Cond.instanceMethod yX4_mostLeft]
def wsX11_ask_r3 : List Cond := [Cond.selects RX4 yX4_mostLeft yX4_mostLeft, Cond.code yX4_mostLeft cX4_mostLeft 4 (some .int), Cond.methodLink RX4 77 Lib.Math.max.name, Cond.static Lib.Math.max.name, Cond.initialized "java/lang/Math", Cond.code Lib.Math.max.name Lib.Math.max.code 2 (some .int), Cond.methodLink RX4 70 yX4_through, Cond.instanceMethod yX4_through, Cond.selects RX4 yX4_through yX4_through, Cond.code yX4_through cX4_through 3 (some .int), Cond.methodLink RX11 300 yX4_mostLeft]
def wsX11_ask : List Cond := .code yX11_ask cX11_ask 4 (some .int) :: ((wsX11_ask_r1 ++ (wsX11_ask_r2 ++ wsX11_ask_r3)) ++ wsX110 ++ wsX40 ++ wsX00 ++ wsX50)
def wsX3_passDay_r1 : List Cond := [Cond.fieldLink RX3 30 "SoldHouse$Memory" "floor" "LSoldHouse$Floor;", Cond.fieldLink RX3 34 "SoldHouse$Floor" "plan" "LSoldHouse$Plan;", Cond.fieldLink RX3 105 "SoldHouse$Plan" "rooms" "I", Cond.methodLink RX3 102 Lib.Math.max.name, Cond.static Lib.Math.max.name, Cond.initialized "java/lang/Math", Cond.code Lib.Math.max.name Lib.Math.max.code 2 (some .int), Cond.fieldLink RX3 40 "SoldHouse$Plan" "things" "I", Cond.methodLink RX3 108 yX3_sureOf, Cond.instanceMethod yX3_sureOf, Cond.selects RX3 yX3_sureOf yX3_sureOf, Cond.initialized RX3, Cond.code yX3_sureOf cX3_sureOf 5 (some .int), Cond.fieldLink RX3 69 "SoldHouse$Plan" "sure" "LSoldHouse$Formula;", Cond.fieldLink RX3 73 "SoldHouse$Formula" "told" "Z", Cond.fieldLink RX3 79 "SoldHouse$Plan" "us" "[I", Cond.fieldLink RX3 82 "SoldHouse$Plan" "them" "[I", Cond.methodLink RX3 97 Lib.Math.min.name, Cond.static Lib.Math.min.name, Cond.code Lib.Math.min.name Lib.Math.min.code 2 (some .int), Cond.methodLink RX3 85 yX3_farOff, Cond.instanceMethod yX3_farOff, Cond.selects RX3 yX3_farOff yX3_farOff, Cond.code yX3_farOff cX3_farOff 4 (some .int)]
def wsX3_passDay_r2 : List Cond := [Cond.methodLink RX3 65 yX0_farOf, Cond.instanceMethod yX0_farOf, Cond.selects RX0 yX0_farOf yX0_farOf, Cond.initialized RX0, Cond.code yX0_farOf cX0_farOf 3 (some .int), Cond.fieldLink RX0 15 "SoldHouse$Floor" "far" "[I", Cond.methodLink RX3 89 yX1_know, Cond.instanceMethod yX1_know, Cond.selects RX1 yX1_know yX1_know, Cond.initialized RX1, Cond.code yX1_know cX1_know 6 none, Cond.fieldLink RX1 16 "SoldHouse$Formula" "known" "[I", Cond.methodLink RX3 93 yX1_work, Cond.instanceMethod yX1_work, Cond.selects RX1 yX1_work yX1_work, Cond.code yX1_work cX1_work 4 (some .int), Cond.fieldLink RX1 19 "SoldHouse$Formula" "size" "I", Cond.fieldLink RX1 9 "SoldHouse$Formula" "steps" "[I", Cond.fieldLink RX1 13 "SoldHouse$Formula" "stack" "[I", Cond.methodLink RX1 30 yX1_join, Cond.static yX1_join, Cond.code yX1_join cX1_join 3 (some .int)]
def wsX3_passDay : List Cond := .code yX3_passDay cX3_passDay 5 (some .int) :: ((wsX3_passDay_r1 ++ wsX3_passDay_r2) ++ wsX30 ++ wsX00 ++ wsX50 ++ wsX10)
def wsX3_forgetActs : List Cond := .code yX3_forgetActs cX3_forgetActs 1 none :: ([.fieldLink RX3 134 "SoldHouse$Memory" "oldest" "I", .fieldLink RX3 131 "SoldHouse$Memory" "done" "I", .fieldLink RX3 128 "SoldHouse$Memory" "undone" "I", .fieldLink RX3 11 "SoldHouse$Memory" "now" "[I", .fieldLink RX3 20 "SoldHouse$Memory" "kept" "[[I", .methodLink RX3 115 arraycopyName, .native arraycopyName, .static arraycopyName, .initialized "java/lang/System"] ++ wsX30)
def wsX3_begin : List Cond := .code yX3_begin cX3_begin 3 none :: ([.fieldLink RX3 30 "SoldHouse$Memory" "floor" "LSoldHouse$Floor;", .fieldLink RX3 34 "SoldHouse$Floor" "plan" "LSoldHouse$Plan;", .fieldLink RX3 40 "SoldHouse$Plan" "things" "I", .fieldLink RX3 11 "SoldHouse$Memory" "now" "[I", .fieldLink RX3 46 "SoldHouse$Plan" "in" "[I", .fieldLink RX3 49 "SoldHouse$Plan" "was" "[I", .fieldLink RX3 52 "SoldHouse$Plan" "ours" "[I", .fieldLink RX3 55 "SoldHouse$Plan" "draw" "I", .fieldLink RX3 26 "SoldHouse$Memory" "full" "[Z", .methodLink RX3 58 yX3_forgetActs, .instanceMethod yX3_forgetActs, .selects RX3 yX3_forgetActs yX3_forgetActs, .initialized RX3, .code yX3_forgetActs cX3_forgetActs 1 none, .fieldLink RX3 134 "SoldHouse$Memory" "oldest" "I", .fieldLink RX3 131 "SoldHouse$Memory" "done" "I", .fieldLink RX3 128 "SoldHouse$Memory" "undone" "I", .fieldLink RX3 20 "SoldHouse$Memory" "kept" "[[I", .methodLink RX3 115 arraycopyName, .native arraycopyName, .static arraycopyName, .initialized "java/lang/System"] ++ wsX30 ++ wsX00 ++ wsX50)
def wsX0_build_r1 : List Cond := [Cond.fieldLink RX0 21 "SoldHouse$Floor" "plan" "LSoldHouse$Plan;", Cond.fieldLink RX0 9 "SoldHouse$Floor" "next" "[I", Cond.fieldLink RX0 31 "SoldHouse$Plan" "doors" "I", Cond.fieldLink RX0 37 "SoldHouse$Plan" "doorFrom" "[I", Cond.fieldLink RX0 40 "SoldHouse$Plan" "doorTo" "[I", Cond.fieldLink RX0 15 "SoldHouse$Floor" "far" "[I", Cond.fieldLink RX0 43 "SoldHouse$Plan" "rooms" "I", Cond.fieldLink RX0 50 "SoldHouse$Floor" "parting" "I", Cond.fieldLink RX0 18 "SoldHouse$Floor" "near" "[I", Cond.methodLink RX0 25 yJ7_fill_53178, Cond.static yJ7_fill_53178, Cond.initialized RJ7, Cond.code yJ7_fill_53178 cJ7_fill_53178 4 none, Cond.methodLink RX0 46 yX0_measureFrom, Cond.instanceMethod yX0_measureFrom, Cond.selects RX0 yX0_measureFrom yX0_measureFrom, Cond.initialized RX0, Cond.code yX0_measureFrom cX0_measureFrom 6 none, Cond.methodLink RX0 57 yX0_behindDoors, Cond.instanceMethod yX0_behindDoors, Cond.selects RX0 yX0_behindDoors yX0_behindDoors, Cond.code yX0_behindDoors cX0_behindDoors 4 (some .int), Cond.methodLink RX0 53 yX0_nearSide, Cond.instanceMethod yX0_nearSide]
def wsX0_build_r2 : List Cond := [Cond.selects RX0 yX0_nearSide yX0_nearSide, Cond.code yX0_nearSide cX0_nearSide 5 (some .int), Cond.methodLink RX0 60 yX0_allRooms, Cond.instanceMethod yX0_allRooms, Cond.selects RX0 yX0_allRooms yX0_allRooms, Cond.code yX0_allRooms cX0_allRooms 1 (some .int), Cond.methodLink RX0 64 yX0_reach, Cond.instanceMethod yX0_reach, Cond.selects RX0 yX0_reach yX0_reach, Cond.code yX0_reach cX0_reach 5 (some .int)]
def wsX0_build : List Cond := .code yX0_build cX0_build 3 none :: ((wsX0_build_r1 ++ wsX0_build_r2) ++ wsX00 ++ wsX50)
def wsX11_takeUp_r1 : List Cond := [Cond.fieldLink RX11 40 "SoldHouse" "floor" "LSoldHouse$Floor;", Cond.fieldLink RX11 10 "SoldHouse" "plan" "LSoldHouse$Plan;", Cond.fieldLink RX11 63 "SoldHouse" "memory" "LSoldHouse$Memory;", Cond.fieldLink RX11 79 "SoldHouse" "night" "LSoldHouse$Night;", Cond.fieldLink RX11 318 "SoldHouse$Night" "count" "I", Cond.fieldLink RX11 49 "SoldHouse" "routes" "LSoldHouse$Routes;", Cond.fieldLink RX11 187 "SoldHouse$Routes" "lying" "I", Cond.methodLink RX11 333 yX0_build, Cond.instanceMethod yX0_build, Cond.selects RX0 yX0_build yX0_build, Cond.initialized RX0, Cond.code yX0_build cX0_build 3 none, Cond.fieldLink RX0 21 "SoldHouse$Floor" "plan" "LSoldHouse$Plan;", Cond.fieldLink RX0 9 "SoldHouse$Floor" "next" "[I", Cond.fieldLink RX0 31 "SoldHouse$Plan" "doors" "I", Cond.fieldLink RX0 37 "SoldHouse$Plan" "doorFrom" "[I", Cond.fieldLink RX0 40 "SoldHouse$Plan" "doorTo" "[I", Cond.fieldLink RX0 15 "SoldHouse$Floor" "far" "[I", Cond.fieldLink RX0 43 "SoldHouse$Plan" "rooms" "I", Cond.fieldLink RX0 50 "SoldHouse$Floor" "parting" "I", Cond.fieldLink RX0 18 "SoldHouse$Floor" "near" "[I", Cond.methodLink RX0 25 yJ7_fill_53178, Cond.static yJ7_fill_53178, Cond.initialized RJ7]
def wsX11_takeUp_r2 : List Cond := [Cond.code yJ7_fill_53178 cJ7_fill_53178 4 none, Cond.methodLink RX0 46 yX0_measureFrom, Cond.instanceMethod yX0_measureFrom, Cond.selects RX0 yX0_measureFrom yX0_measureFrom, Cond.code yX0_measureFrom cX0_measureFrom 6 none, Cond.methodLink RX0 57 yX0_behindDoors, Cond.instanceMethod yX0_behindDoors, Cond.selects RX0 yX0_behindDoors yX0_behindDoors, Cond.code yX0_behindDoors cX0_behindDoors 4 (some .int), Cond.methodLink RX0 53 yX0_nearSide, Cond.instanceMethod yX0_nearSide, Cond.selects RX0 yX0_nearSide yX0_nearSide, Cond.code yX0_nearSide cX0_nearSide 5 (some .int), Cond.methodLink RX0 60 yX0_allRooms, Cond.instanceMethod yX0_allRooms, Cond.selects RX0 yX0_allRooms yX0_allRooms, Cond.code yX0_allRooms cX0_allRooms 1 (some .int), Cond.methodLink RX0 64 yX0_reach, Cond.instanceMethod yX0_reach, Cond.selects RX0 yX0_reach yX0_reach, Cond.code yX0_reach cX0_reach 5 (some .int), Cond.methodLink RX11 336 yX3_begin, Cond.instanceMethod yX3_begin, Cond.selects RX3 yX3_begin yX3_begin]
def wsX11_takeUp_r3 : List Cond := [Cond.initialized RX3, Cond.code yX3_begin cX3_begin 3 none, Cond.fieldLink RX3 30 "SoldHouse$Memory" "floor" "LSoldHouse$Floor;", Cond.fieldLink RX3 34 "SoldHouse$Floor" "plan" "LSoldHouse$Plan;", Cond.fieldLink RX3 40 "SoldHouse$Plan" "things" "I", Cond.fieldLink RX3 11 "SoldHouse$Memory" "now" "[I", Cond.fieldLink RX3 46 "SoldHouse$Plan" "in" "[I", Cond.fieldLink RX3 49 "SoldHouse$Plan" "was" "[I", Cond.fieldLink RX3 52 "SoldHouse$Plan" "ours" "[I", Cond.fieldLink RX3 55 "SoldHouse$Plan" "draw" "I", Cond.fieldLink RX3 26 "SoldHouse$Memory" "full" "[Z", Cond.methodLink RX3 58 yX3_forgetActs, Cond.instanceMethod yX3_forgetActs, Cond.selects RX3 yX3_forgetActs yX3_forgetActs, Cond.code yX3_forgetActs cX3_forgetActs 1 none, Cond.fieldLink RX3 134 "SoldHouse$Memory" "oldest" "I", Cond.fieldLink RX3 131 "SoldHouse$Memory" "done" "I", Cond.fieldLink RX3 128 "SoldHouse$Memory" "undone" "I", Cond.fieldLink RX3 20 "SoldHouse$Memory" "kept" "[[I", Cond.methodLink RX3 115 arraycopyName, Cond.native arraycopyName, Cond.static arraycopyName, Cond.initialized "java/lang/System"]
def wsX11_takeUp : List Cond := .code yX11_takeUp cX11_takeUp 1 none :: ((wsX11_takeUp_r1 ++ (wsX11_takeUp_r2 ++ wsX11_takeUp_r3)) ++ wsX110 ++ wsX40 ++ wsX70 ++ wsX00 ++ wsX50 ++ wsX30)
def wsX3_keepAct : List Cond := .code yX3_keepAct cX3_keepAct 1 none :: ([.fieldLink RX3 128 "SoldHouse$Memory" "undone" "I", .fieldLink RX3 131 "SoldHouse$Memory" "done" "I", .fieldLink RX3 134 "SoldHouse$Memory" "oldest" "I", .fieldLink RX3 11 "SoldHouse$Memory" "now" "[I", .fieldLink RX3 20 "SoldHouse$Memory" "kept" "[[I", .methodLink RX3 115 arraycopyName, .native arraycopyName, .static arraycopyName, .initialized "java/lang/System"] ++ wsX30)
def wsX11_day_r1 : List Cond := [Cond.fieldLink RX11 63 "SoldHouse" "memory" "LSoldHouse$Memory;", Cond.fieldLink RX11 128 "SoldHouse$Memory" "now" "[I", Cond.methodLink RX11 176 yX3_passDay, Cond.instanceMethod yX3_passDay, Cond.selects RX3 yX3_passDay yX3_passDay, Cond.initialized RX3, Cond.code yX3_passDay cX3_passDay 5 (some .int), Cond.fieldLink RX3 30 "SoldHouse$Memory" "floor" "LSoldHouse$Floor;", Cond.fieldLink RX3 34 "SoldHouse$Floor" "plan" "LSoldHouse$Plan;", Cond.fieldLink RX3 105 "SoldHouse$Plan" "rooms" "I", Cond.methodLink RX3 102 Lib.Math.max.name, Cond.static Lib.Math.max.name, Cond.initialized "java/lang/Math", Cond.code Lib.Math.max.name Lib.Math.max.code 2 (some .int), Cond.fieldLink RX3 40 "SoldHouse$Plan" "things" "I", Cond.methodLink RX3 108 yX3_sureOf, Cond.instanceMethod yX3_sureOf, Cond.selects RX3 yX3_sureOf yX3_sureOf, Cond.code yX3_sureOf cX3_sureOf 5 (some .int), Cond.fieldLink RX3 69 "SoldHouse$Plan" "sure" "LSoldHouse$Formula;", Cond.fieldLink RX3 73 "SoldHouse$Formula" "told" "Z", Cond.fieldLink RX3 79 "SoldHouse$Plan" "us" "[I", Cond.fieldLink RX3 82 "SoldHouse$Plan" "them" "[I", Cond.methodLink RX3 97 Lib.Math.min.name]
def wsX11_day_r2 : List Cond := [Cond.static Lib.Math.min.name, Cond.code Lib.Math.min.name Lib.Math.min.code 2 (some .int), Cond.methodLink RX3 85 yX3_farOff, Cond.instanceMethod yX3_farOff, Cond.selects RX3 yX3_farOff yX3_farOff, Cond.code yX3_farOff cX3_farOff 4 (some .int), Cond.methodLink RX3 65 yX0_farOf, Cond.instanceMethod yX0_farOf, Cond.selects RX0 yX0_farOf yX0_farOf, Cond.initialized RX0, Cond.code yX0_farOf cX0_farOf 3 (some .int), Cond.fieldLink RX0 15 "SoldHouse$Floor" "far" "[I", Cond.methodLink RX3 89 yX1_know, Cond.instanceMethod yX1_know, Cond.selects RX1 yX1_know yX1_know, Cond.initialized RX1, Cond.code yX1_know cX1_know 6 none, Cond.fieldLink RX1 16 "SoldHouse$Formula" "known" "[I", Cond.methodLink RX3 93 yX1_work, Cond.instanceMethod yX1_work, Cond.selects RX1 yX1_work yX1_work, Cond.code yX1_work cX1_work 4 (some .int), Cond.fieldLink RX1 19 "SoldHouse$Formula" "size" "I", Cond.fieldLink RX1 9 "SoldHouse$Formula" "steps" "[I"]
def wsX11_day_r3 : List Cond := [Cond.fieldLink RX1 13 "SoldHouse$Formula" "stack" "[I", Cond.methodLink RX1 30 yX1_join, Cond.static yX1_join, Cond.code yX1_join cX1_join 3 (some .int), Cond.methodLink RX11 163 yX3_keepAct, Cond.instanceMethod yX3_keepAct, Cond.selects RX3 yX3_keepAct yX3_keepAct, Cond.code yX3_keepAct cX3_keepAct 1 none, Cond.fieldLink RX3 128 "SoldHouse$Memory" "undone" "I", Cond.fieldLink RX3 131 "SoldHouse$Memory" "done" "I", Cond.fieldLink RX3 134 "SoldHouse$Memory" "oldest" "I", Cond.fieldLink RX3 11 "SoldHouse$Memory" "now" "[I", Cond.fieldLink RX3 20 "SoldHouse$Memory" "kept" "[[I", Cond.methodLink RX3 115 arraycopyName, Cond.native arraycopyName, Cond.static arraycopyName, Cond.initialized "java/lang/System"]
def wsX11_day : List Cond := .code yX11_day cX11_day 2 (some .int) :: ((wsX11_day_r1 ++ (wsX11_day_r2 ++ wsX11_day_r3)) ++ wsX110 ++ wsX30 ++ wsX00 ++ wsX50 ++ wsX10)
def wsX3_putInBox : List Cond := .code yX3_putInBox cX3_putInBox 2 (some .int) :: ([.fieldLink RX3 11 "SoldHouse$Memory" "now" "[I", .fieldLink RX3 23 "SoldHouse$Memory" "box" "[[I", .methodLink RX3 115 arraycopyName, .native arraycopyName, .static arraycopyName, .initialized "java/lang/System", .fieldLink RX3 26 "SoldHouse$Memory" "full" "[Z"] ++ wsX30)
def wsX11_image : List Cond := .code yX11_image cX11_image 2 (some .int) :: ([.fieldLink RX11 63 "SoldHouse" "memory" "LSoldHouse$Memory;", .methodLink RX11 303 yX3_putInBox, .instanceMethod yX3_putInBox, .selects RX3 yX3_putInBox yX3_putInBox, .initialized RX3, .code yX3_putInBox cX3_putInBox 2 (some .int), .fieldLink RX3 11 "SoldHouse$Memory" "now" "[I", .fieldLink RX3 23 "SoldHouse$Memory" "box" "[[I", .methodLink RX3 115 arraycopyName, .native arraycopyName, .static arraycopyName, .initialized "java/lang/System", .fieldLink RX3 26 "SoldHouse$Memory" "full" "[Z"] ++ wsX110 ++ wsX30)
def wsX1_clear : List Cond := .code yX1_clear cX1_clear 1 none :: ([.fieldLink RX1 19 "SoldHouse$Formula" "size" "I", .fieldLink RX1 23 "SoldHouse$Formula" "units" "I", .fieldLink RX1 26 "SoldHouse$Formula" "told" "Z"] ++ wsX10)
def wsX5_clear : List Cond := .code yX5_clear cX5_clear 1 none :: ([.fieldLink RX5 50 "SoldHouse$Plan" "rooms" "I", .fieldLink RX5 54 "SoldHouse$Plan" "doors" "I", .fieldLink RX5 57 "SoldHouse$Plan" "things" "I", .fieldLink RX5 46 "SoldHouse$Plan" "sure" "LSoldHouse$Formula;", .fieldLink RX5 63 "SoldHouse$Plan" "draw" "I", .fieldLink RX5 66 "SoldHouse$Plan" "drawTold" "Z", .methodLink RX5 60 yX1_clear, .instanceMethod yX1_clear, .selects RX1 yX1_clear yX1_clear, .initialized RX1, .code yX1_clear cX1_clear 1 none, .fieldLink RX1 19 "SoldHouse$Formula" "size" "I", .fieldLink RX1 23 "SoldHouse$Formula" "units" "I", .fieldLink RX1 26 "SoldHouse$Formula" "told" "Z"] ++ wsX50 ++ wsX10)
def wsX9_advance_r1 : List Cond := [Cond.fieldLink RX9 35 "SoldHouse$Tokens" "behind" "I", Cond.fieldLink RX9 15 "SoldHouse$Tokens" "tape" "LSoldHouse$Tape;", Cond.fieldLink RX9 42 "SoldHouse$Tape" "size" "I", Cond.fieldLink RX9 47 "SoldHouse$Tape" "bytes" "[B", Cond.fieldLink RX9 55 "SoldHouse$Tokens" "place" "I", Cond.fieldLink RX9 58 "SoldHouse$Tokens" "kind" "I", Cond.methodLink RX9 51 yX9_isBlank, Cond.static yX9_isBlank, Cond.initialized RX9, Cond.code yX9_isBlank cX9_isBlank 1 (some .boolean), Cond.methodLink RX9 61 yX9_isLetter, Cond.static yX9_isLetter, Cond.code yX9_isLetter cX9_isLetter 1 (some .boolean), Cond.methodLink RX9 64 yX9_readWord, Cond.instanceMethod yX9_readWord, Cond.selects RX9 yX9_readWord yX9_readWord, Cond.code yX9_readWord cX9_readWord 1 none, Cond.fieldLink RX9 79 "SoldHouse$Tokens" "word" "J", Cond.fieldLink RX9 76 "SoldHouse$Tokens" "value" "I", Cond.methodLink RX9 31 yX9_withLetter, Cond.static yX9_withLetter, Cond.code yX9_withLetter cX9_withLetter 3 (some .long), Cond.constantLong RX9 92 (32), Cond.methodLink RX9 83 yX9_numberOfOwn]
def wsX9_advance_r2 : List Cond := [Cond.instanceMethod yX9_numberOfOwn, Cond.selects RX9 yX9_numberOfOwn yX9_numberOfOwn, Cond.code yX9_numberOfOwn cX9_numberOfOwn 2 (some .int), Cond.fieldLink RX9 11 "SoldHouse$Tokens" "own" "[J", Cond.methodLink RX9 67 yX9_isDigit, Cond.static yX9_isDigit, Cond.code yX9_isDigit cX9_isDigit 1 (some .boolean), Cond.methodLink RX9 70 yX9_readNumber, Cond.instanceMethod yX9_readNumber, Cond.selects RX9 yX9_readNumber yX9_readNumber, Cond.code yX9_readNumber cX9_readNumber 2 none, Cond.methodLink RX9 73 yX9_readSign, Cond.instanceMethod yX9_readSign, Cond.selects RX9 yX9_readSign yX9_readSign, Cond.code yX9_readSign cX9_readSign 1 none, Cond.methodLink RX9 88 yJ0_indexOf_0f7a4, Cond.instanceMethod yJ0_indexOf_0f7a4, Cond.selects RJ0 yJ0_indexOf_0f7a4 yJ0_indexOf_0f7a4, Cond.initialized RJ0, Cond.code yJ0_indexOf_0f7a4 cJ0_indexOf_0f7a4 2 (some .int), Cond.methodLink RJ0 633 yJ0_indexOf_7cf53, Cond.instanceMethod yJ0_indexOf_7cf53, Cond.selects RJ0 yJ0_indexOf_7cf53 yJ0_indexOf_7cf53, Cond.code yJ0_indexOf_7cf53 cJ0_indexOf_7cf53 3 (some .int)]
def wsX9_advance_r3 : List Cond := [Cond.fieldLink RJ0 9 "java/lang/String" "value" "[B", Cond.methodLink RJ0 492 yJ0_isLatin1_aae02, Cond.instanceMethod yJ0_isLatin1_aae02, Cond.selects RJ0 yJ0_isLatin1_aae02 yJ0_isLatin1_aae02, Cond.code yJ0_isLatin1_aae02 cJ0_isLatin1_aae02 1 (some .boolean), Cond.fieldLink RJ0 38 "java/lang/String" "COMPACT_STRINGS" "Z", Cond.fieldLink RJ0 15 "java/lang/String" "coder" "B", Cond.methodLink RJ0 505 yJ0_length_8abf5, Cond.instanceMethod yJ0_length_8abf5, Cond.selects RJ0 yJ0_length_8abf5 yJ0_length_8abf5, Cond.code yJ0_length_8abf5 cJ0_length_8abf5 1 (some .int), Cond.methodLink RJ0 335 yJ0_coder_7d493, Cond.instanceMethod yJ0_coder_7d493, Cond.selects RJ0 yJ0_coder_7d493 yJ0_coder_7d493, Cond.code yJ0_coder_7d493 cJ0_coder_7d493 1 (some .byte), Cond.methodLink RJ0 637 yJ1_indexOf_4cfef, Cond.static yJ1_indexOf_4cfef, Cond.initialized RJ1, Cond.code yJ1_indexOf_4cfef cJ1_indexOf_4cfef 4 (some .int), Cond.methodLink RJ1 92 Lib.Math.max.name, Cond.static Lib.Math.max.name, Cond.initialized "java/lang/Math", Cond.code Lib.Math.max.name Lib.Math.max.code 2 (some .int), Cond.methodLink RJ1 38 Lib.Math.min.name]
def wsX9_advance_r4 : List Cond := [Cond.static Lib.Math.min.name, Cond.code Lib.Math.min.name Lib.Math.min.code 2 (some .int), Cond.methodLink RJ1 88 yJ1_canEncode_9a6ad, Cond.static yJ1_canEncode_9a6ad, Cond.code yJ1_canEncode_9a6ad cJ1_canEncode_9a6ad 1 (some .boolean), Cond.methodLink RJ1 95 yJ1_indexOfChar_4cfef, Cond.static yJ1_indexOfChar_4cfef, Cond.code yJ1_indexOfChar_4cfef cJ1_indexOfChar_4cfef 6 (some .int), Cond.methodLink RJ0 640 yJ2_indexOf_4cfef, Cond.static yJ2_indexOf_4cfef, Cond.initialized RJ2, Cond.code yJ2_indexOf_4cfef cJ2_indexOf_4cfef 4 (some .int), Cond.methodLink RJ2 224 Lib.Math.max.name, Cond.methodLink RJ2 183 Lib.Math.min.name, Cond.constant RJ2 227 (65536), Cond.methodLink RJ2 228 yJ2_indexOfChar_4cfef, Cond.static yJ2_indexOfChar_4cfef, Cond.code yJ2_indexOfChar_4cfef cJ2_indexOfChar_4cfef 4 (some .int), Cond.methodLink RJ2 96 yJ2_checkBoundsBeginEnd_d044e, Cond.static yJ2_checkBoundsBeginEnd_d044e, Cond.code yJ2_checkBoundsBeginEnd_d044e cJ2_checkBoundsBeginEnd_d044e 3 none, Cond.methodLink RJ2 48 yJ2_length_9d52b, Cond.static yJ2_length_9d52b, Cond.code yJ2_length_9d52b cJ2_length_9d52b 1 (some .int)]
def wsX9_advance_r5 : List Cond := [Cond.methodLink RJ2 241 yJ0_checkBoundsBeginEnd_23922, Cond.static yJ0_checkBoundsBeginEnd_23922, Cond.code yJ0_checkBoundsBeginEnd_23922 cJ0_checkBoundsBeginEnd_23922 3 none, Cond.fieldLink RJ0 1053 "jdk/internal/util/Preconditions" "SIOOBE_FORMATTER" "Ljava/util/function/BiFunction;", Cond.methodLink RJ0 1062 yJ3_checkFromToIndex_8c36e, Cond.static yJ3_checkFromToIndex_8c36e, Cond.initialized RJ3, Cond.code yJ3_checkFromToIndex_8c36e cJ3_checkFromToIndex_8c36e 4 (some .int), Cond.methodLink RJ2 244 yJ2_indexOfCharUnsafe_4cfef, Cond.static yJ2_indexOfCharUnsafe_4cfef, Cond.code yJ2_indexOfCharUnsafe_4cfef cJ2_indexOfCharUnsafe_4cfef 5 (some .int), Cond.methodLink RJ2 71 yJ2_getChar_3b067, Cond.static yJ2_getChar_3b067, Cond.code yJ2_getChar_3b067 cJ2_getChar_3b067 2 (some .char), Cond.fieldLink RJ2 44 "java/lang/StringUTF16" "$assertionsDisabled" "Z", Cond.fieldLink RJ2 59 "java/lang/StringUTF16" "HI_BYTE_SHIFT" "I", Cond.fieldLink RJ2 63 "java/lang/StringUTF16" "LO_BYTE_SHIFT" "I", Cond.methodLink RJ2 232 yJ2_indexOfSupplementary_4cfef, Cond.static yJ2_indexOfSupplementary_4cfef, Cond.code yJ2_indexOfSupplementary_4cfef cJ2_indexOfSupplementary_4cfef 7 (some .int), Cond.methodLink RJ2 164 yJ11_isValidCodePoint_9a6ad, Cond.static yJ11_isValidCodePoint_9a6ad, Cond.initialized RJ11, Cond.code yJ11_isValidCodePoint_9a6ad cJ11_isValidCodePoint_9a6ad 2 (some .boolean)]
def wsX9_advance_r6 : List Cond := [Cond.methodLink RJ2 157 yJ11_highSurrogate_5068e, Cond.static yJ11_highSurrogate_5068e, Cond.code yJ11_highSurrogate_5068e cJ11_highSurrogate_5068e 1 (some .char), Cond.constant RJ11 110 (55232), Cond.methodLink RJ2 161 yJ11_lowSurrogate_5068e, Cond.static yJ11_lowSurrogate_5068e, Cond.code yJ11_lowSurrogate_5068e cJ11_lowSurrogate_5068e 1 (some .char), Cond.constant RJ11 76 (56320)]
def wsX9_advance : List Cond := .code yX9_advance cX9_advance 1 none :: ((wsX9_advance_r1 ++ (wsX9_advance_r2 ++ (wsX9_advance_r3 ++ (wsX9_advance_r4 ++ (wsX9_advance_r5 ++ wsX9_advance_r6))))) ++ wsX90 ++ wsX80)
def wsX9_begin_r1 : List Cond := [Cond.fieldLink RX9 35 "SoldHouse$Tokens" "behind" "I", Cond.methodLink RX9 39 yX9_advance, Cond.instanceMethod yX9_advance, Cond.selects RX9 yX9_advance yX9_advance, Cond.initialized RX9, Cond.code yX9_advance cX9_advance 1 none, Cond.fieldLink RX9 15 "SoldHouse$Tokens" "tape" "LSoldHouse$Tape;", Cond.fieldLink RX9 42 "SoldHouse$Tape" "size" "I", Cond.fieldLink RX9 47 "SoldHouse$Tape" "bytes" "[B", Cond.fieldLink RX9 55 "SoldHouse$Tokens" "place" "I", Cond.fieldLink RX9 58 "SoldHouse$Tokens" "kind" "I", Cond.methodLink RX9 51 yX9_isBlank, Cond.static yX9_isBlank, Cond.code yX9_isBlank cX9_isBlank 1 (some .boolean), Cond.methodLink RX9 61 yX9_isLetter, Cond.static yX9_isLetter, Cond.code yX9_isLetter cX9_isLetter 1 (some .boolean), Cond.methodLink RX9 64 yX9_readWord, Cond.instanceMethod yX9_readWord, Cond.selects RX9 yX9_readWord yX9_readWord, Cond.code yX9_readWord cX9_readWord 1 none, Cond.fieldLink RX9 79 "SoldHouse$Tokens" "word" "J", Cond.fieldLink RX9 76 "SoldHouse$Tokens" "value" "I", Cond.methodLink RX9 31 yX9_withLetter]
def wsX9_begin_r2 : List Cond := [Cond.static yX9_withLetter, Cond.code yX9_withLetter cX9_withLetter 3 (some .long), Cond.constantLong RX9 92 (32), Cond.methodLink RX9 83 yX9_numberOfOwn, Cond.instanceMethod yX9_numberOfOwn, Cond.selects RX9 yX9_numberOfOwn yX9_numberOfOwn, Cond.code yX9_numberOfOwn cX9_numberOfOwn 2 (some .int), Cond.fieldLink RX9 11 "SoldHouse$Tokens" "own" "[J", Cond.methodLink RX9 67 yX9_isDigit, Cond.static yX9_isDigit, Cond.code yX9_isDigit cX9_isDigit 1 (some .boolean), Cond.methodLink RX9 70 yX9_readNumber, Cond.instanceMethod yX9_readNumber, Cond.selects RX9 yX9_readNumber yX9_readNumber, Cond.code yX9_readNumber cX9_readNumber 2 none, Cond.methodLink RX9 73 yX9_readSign, Cond.instanceMethod yX9_readSign, Cond.selects RX9 yX9_readSign yX9_readSign, Cond.code yX9_readSign cX9_readSign 1 none, Cond.methodLink RX9 88 yJ0_indexOf_0f7a4, Cond.instanceMethod yJ0_indexOf_0f7a4, Cond.selects RJ0 yJ0_indexOf_0f7a4 yJ0_indexOf_0f7a4, Cond.initialized RJ0, Cond.code yJ0_indexOf_0f7a4 cJ0_indexOf_0f7a4 2 (some .int)]
def wsX9_begin_r3 : List Cond := [Cond.methodLink RJ0 633 yJ0_indexOf_7cf53, Cond.instanceMethod yJ0_indexOf_7cf53, Cond.selects RJ0 yJ0_indexOf_7cf53 yJ0_indexOf_7cf53, Cond.code yJ0_indexOf_7cf53 cJ0_indexOf_7cf53 3 (some .int), Cond.fieldLink RJ0 9 "java/lang/String" "value" "[B", Cond.methodLink RJ0 492 yJ0_isLatin1_aae02, Cond.instanceMethod yJ0_isLatin1_aae02, Cond.selects RJ0 yJ0_isLatin1_aae02 yJ0_isLatin1_aae02, Cond.code yJ0_isLatin1_aae02 cJ0_isLatin1_aae02 1 (some .boolean), Cond.fieldLink RJ0 38 "java/lang/String" "COMPACT_STRINGS" "Z", Cond.fieldLink RJ0 15 "java/lang/String" "coder" "B", Cond.methodLink RJ0 505 yJ0_length_8abf5, Cond.instanceMethod yJ0_length_8abf5, Cond.selects RJ0 yJ0_length_8abf5 yJ0_length_8abf5, Cond.code yJ0_length_8abf5 cJ0_length_8abf5 1 (some .int), Cond.methodLink RJ0 335 yJ0_coder_7d493, Cond.instanceMethod yJ0_coder_7d493, Cond.selects RJ0 yJ0_coder_7d493 yJ0_coder_7d493, Cond.code yJ0_coder_7d493 cJ0_coder_7d493 1 (some .byte), Cond.methodLink RJ0 637 yJ1_indexOf_4cfef, Cond.static yJ1_indexOf_4cfef, Cond.initialized RJ1, Cond.code yJ1_indexOf_4cfef cJ1_indexOf_4cfef 4 (some .int), Cond.methodLink RJ1 92 Lib.Math.max.name]
def wsX9_begin_r4 : List Cond := [Cond.static Lib.Math.max.name, Cond.initialized "java/lang/Math", Cond.code Lib.Math.max.name Lib.Math.max.code 2 (some .int), Cond.methodLink RJ1 38 Lib.Math.min.name, Cond.static Lib.Math.min.name, Cond.code Lib.Math.min.name Lib.Math.min.code 2 (some .int), Cond.methodLink RJ1 88 yJ1_canEncode_9a6ad, Cond.static yJ1_canEncode_9a6ad, Cond.code yJ1_canEncode_9a6ad cJ1_canEncode_9a6ad 1 (some .boolean), Cond.methodLink RJ1 95 yJ1_indexOfChar_4cfef, Cond.static yJ1_indexOfChar_4cfef, Cond.code yJ1_indexOfChar_4cfef cJ1_indexOfChar_4cfef 6 (some .int), Cond.methodLink RJ0 640 yJ2_indexOf_4cfef, Cond.static yJ2_indexOf_4cfef, Cond.initialized RJ2, Cond.code yJ2_indexOf_4cfef cJ2_indexOf_4cfef 4 (some .int), Cond.methodLink RJ2 224 Lib.Math.max.name, Cond.methodLink RJ2 183 Lib.Math.min.name, Cond.constant RJ2 227 (65536), Cond.methodLink RJ2 228 yJ2_indexOfChar_4cfef, Cond.static yJ2_indexOfChar_4cfef, Cond.code yJ2_indexOfChar_4cfef cJ2_indexOfChar_4cfef 4 (some .int), Cond.methodLink RJ2 96 yJ2_checkBoundsBeginEnd_d044e, Cond.static yJ2_checkBoundsBeginEnd_d044e]
def wsX9_begin_r5 : List Cond := [Cond.code yJ2_checkBoundsBeginEnd_d044e cJ2_checkBoundsBeginEnd_d044e 3 none, Cond.methodLink RJ2 48 yJ2_length_9d52b, Cond.static yJ2_length_9d52b, Cond.code yJ2_length_9d52b cJ2_length_9d52b 1 (some .int), Cond.methodLink RJ2 241 yJ0_checkBoundsBeginEnd_23922, Cond.static yJ0_checkBoundsBeginEnd_23922, Cond.code yJ0_checkBoundsBeginEnd_23922 cJ0_checkBoundsBeginEnd_23922 3 none, Cond.fieldLink RJ0 1053 "jdk/internal/util/Preconditions" "SIOOBE_FORMATTER" "Ljava/util/function/BiFunction;", Cond.methodLink RJ0 1062 yJ3_checkFromToIndex_8c36e, Cond.static yJ3_checkFromToIndex_8c36e, Cond.initialized RJ3, Cond.code yJ3_checkFromToIndex_8c36e cJ3_checkFromToIndex_8c36e 4 (some .int), Cond.methodLink RJ2 244 yJ2_indexOfCharUnsafe_4cfef, Cond.static yJ2_indexOfCharUnsafe_4cfef, Cond.code yJ2_indexOfCharUnsafe_4cfef cJ2_indexOfCharUnsafe_4cfef 5 (some .int), Cond.methodLink RJ2 71 yJ2_getChar_3b067, Cond.static yJ2_getChar_3b067, Cond.code yJ2_getChar_3b067 cJ2_getChar_3b067 2 (some .char), Cond.fieldLink RJ2 44 "java/lang/StringUTF16" "$assertionsDisabled" "Z", Cond.fieldLink RJ2 59 "java/lang/StringUTF16" "HI_BYTE_SHIFT" "I", Cond.fieldLink RJ2 63 "java/lang/StringUTF16" "LO_BYTE_SHIFT" "I", Cond.methodLink RJ2 232 yJ2_indexOfSupplementary_4cfef, Cond.static yJ2_indexOfSupplementary_4cfef, Cond.code yJ2_indexOfSupplementary_4cfef cJ2_indexOfSupplementary_4cfef 7 (some .int)]
def wsX9_begin_r6 : List Cond := [Cond.methodLink RJ2 164 yJ11_isValidCodePoint_9a6ad, Cond.static yJ11_isValidCodePoint_9a6ad, Cond.initialized RJ11, Cond.code yJ11_isValidCodePoint_9a6ad cJ11_isValidCodePoint_9a6ad 2 (some .boolean), Cond.methodLink RJ2 157 yJ11_highSurrogate_5068e, Cond.static yJ11_highSurrogate_5068e, Cond.code yJ11_highSurrogate_5068e cJ11_highSurrogate_5068e 1 (some .char), Cond.constant RJ11 110 (55232), Cond.methodLink RJ2 161 yJ11_lowSurrogate_5068e, Cond.static yJ11_lowSurrogate_5068e, Cond.code yJ11_lowSurrogate_5068e cJ11_lowSurrogate_5068e 1 (some .char), Cond.constant RJ11 76 (56320)]
def wsX9_begin : List Cond := .code yX9_begin cX9_begin 1 none :: ((wsX9_begin_r1 ++ (wsX9_begin_r2 ++ (wsX9_begin_r3 ++ (wsX9_begin_r4 ++ (wsX9_begin_r5 ++ wsX9_begin_r6))))) ++ wsX90 ++ wsX80)
def wsX6_readInto_r1 : List Cond := [Cond.fieldLink RX6 24 "SoldHouse$Reader" "plan" "LSoldHouse$Plan;", Cond.fieldLink RX6 28 "SoldHouse$Reader" "fault" "I", Cond.fieldLink RX6 9 "SoldHouse$Reader" "faultPlace" "I", Cond.fieldLink RX6 20 "SoldHouse$Reader" "tokens" "LSoldHouse$Tokens;", Cond.fieldLink RX6 34 "SoldHouse$Tokens" "kind" "I", Cond.fieldLink RX6 37 "SoldHouse$Tokens" "value" "I", Cond.methodLink RX6 31 yX9_begin, Cond.instanceMethod yX9_begin, Cond.selects RX9 yX9_begin yX9_begin, Cond.initialized RX9, Cond.code yX9_begin cX9_begin 1 none, Cond.fieldLink RX9 35 "SoldHouse$Tokens" "behind" "I", Cond.methodLink RX9 39 yX9_advance, Cond.instanceMethod yX9_advance, Cond.selects RX9 yX9_advance yX9_advance, Cond.code yX9_advance cX9_advance 1 none, Cond.fieldLink RX9 15 "SoldHouse$Tokens" "tape" "LSoldHouse$Tape;", Cond.fieldLink RX9 42 "SoldHouse$Tape" "size" "I", Cond.fieldLink RX9 47 "SoldHouse$Tape" "bytes" "[B", Cond.fieldLink RX9 55 "SoldHouse$Tokens" "place" "I", Cond.fieldLink RX9 58 "SoldHouse$Tokens" "kind" "I", Cond.methodLink RX9 51 yX9_isBlank, Cond.static yX9_isBlank, Cond.code yX9_isBlank cX9_isBlank 1 (some .boolean)]
def wsX6_readInto_r2 : List Cond := [Cond.methodLink RX9 61 yX9_isLetter, Cond.static yX9_isLetter, Cond.code yX9_isLetter cX9_isLetter 1 (some .boolean), Cond.methodLink RX9 64 yX9_readWord, Cond.instanceMethod yX9_readWord, Cond.selects RX9 yX9_readWord yX9_readWord, Cond.code yX9_readWord cX9_readWord 1 none, Cond.fieldLink RX9 79 "SoldHouse$Tokens" "word" "J", Cond.fieldLink RX9 76 "SoldHouse$Tokens" "value" "I", Cond.methodLink RX9 31 yX9_withLetter, Cond.static yX9_withLetter, Cond.code yX9_withLetter cX9_withLetter 3 (some .long), Cond.constantLong RX9 92 (32), Cond.methodLink RX9 83 yX9_numberOfOwn, Cond.instanceMethod yX9_numberOfOwn, Cond.selects RX9 yX9_numberOfOwn yX9_numberOfOwn, Cond.code yX9_numberOfOwn cX9_numberOfOwn 2 (some .int), Cond.fieldLink RX9 11 "SoldHouse$Tokens" "own" "[J", Cond.methodLink RX9 67 yX9_isDigit, Cond.static yX9_isDigit, Cond.code yX9_isDigit cX9_isDigit 1 (some .boolean), Cond.methodLink RX9 70 yX9_readNumber, Cond.instanceMethod yX9_readNumber, Cond.selects RX9 yX9_readNumber yX9_readNumber]
def wsX6_readInto_r3 : List Cond := [Cond.code yX9_readNumber cX9_readNumber 2 none, Cond.methodLink RX9 73 yX9_readSign, Cond.instanceMethod yX9_readSign, Cond.selects RX9 yX9_readSign yX9_readSign, Cond.code yX9_readSign cX9_readSign 1 none, Cond.methodLink RX9 88 yJ0_indexOf_0f7a4, Cond.instanceMethod yJ0_indexOf_0f7a4, Cond.selects RJ0 yJ0_indexOf_0f7a4 yJ0_indexOf_0f7a4, Cond.initialized RJ0, Cond.code yJ0_indexOf_0f7a4 cJ0_indexOf_0f7a4 2 (some .int), Cond.methodLink RJ0 633 yJ0_indexOf_7cf53, Cond.instanceMethod yJ0_indexOf_7cf53, Cond.selects RJ0 yJ0_indexOf_7cf53 yJ0_indexOf_7cf53, Cond.code yJ0_indexOf_7cf53 cJ0_indexOf_7cf53 3 (some .int), Cond.fieldLink RJ0 9 "java/lang/String" "value" "[B", Cond.methodLink RJ0 492 yJ0_isLatin1_aae02, Cond.instanceMethod yJ0_isLatin1_aae02, Cond.selects RJ0 yJ0_isLatin1_aae02 yJ0_isLatin1_aae02, Cond.code yJ0_isLatin1_aae02 cJ0_isLatin1_aae02 1 (some .boolean), Cond.fieldLink RJ0 38 "java/lang/String" "COMPACT_STRINGS" "Z", Cond.fieldLink RJ0 15 "java/lang/String" "coder" "B", Cond.methodLink RJ0 505 yJ0_length_8abf5, Cond.instanceMethod yJ0_length_8abf5, Cond.selects RJ0 yJ0_length_8abf5 yJ0_length_8abf5]
def wsX6_readInto_r4 : List Cond := [Cond.code yJ0_length_8abf5 cJ0_length_8abf5 1 (some .int), Cond.methodLink RJ0 335 yJ0_coder_7d493, Cond.instanceMethod yJ0_coder_7d493, Cond.selects RJ0 yJ0_coder_7d493 yJ0_coder_7d493, Cond.code yJ0_coder_7d493 cJ0_coder_7d493 1 (some .byte), Cond.methodLink RJ0 637 yJ1_indexOf_4cfef, Cond.static yJ1_indexOf_4cfef, Cond.initialized RJ1, Cond.code yJ1_indexOf_4cfef cJ1_indexOf_4cfef 4 (some .int), Cond.methodLink RJ1 92 Lib.Math.max.name, Cond.static Lib.Math.max.name, Cond.initialized "java/lang/Math", Cond.code Lib.Math.max.name Lib.Math.max.code 2 (some .int), Cond.methodLink RJ1 38 Lib.Math.min.name, Cond.static Lib.Math.min.name, Cond.code Lib.Math.min.name Lib.Math.min.code 2 (some .int), Cond.methodLink RJ1 88 yJ1_canEncode_9a6ad, Cond.static yJ1_canEncode_9a6ad, Cond.code yJ1_canEncode_9a6ad cJ1_canEncode_9a6ad 1 (some .boolean), Cond.methodLink RJ1 95 yJ1_indexOfChar_4cfef, Cond.static yJ1_indexOfChar_4cfef, Cond.code yJ1_indexOfChar_4cfef cJ1_indexOfChar_4cfef 6 (some .int), Cond.methodLink RJ0 640 yJ2_indexOf_4cfef, Cond.static yJ2_indexOf_4cfef]
def wsX6_readInto_r5 : List Cond := [Cond.initialized RJ2, Cond.code yJ2_indexOf_4cfef cJ2_indexOf_4cfef 4 (some .int), Cond.methodLink RJ2 224 Lib.Math.max.name, Cond.methodLink RJ2 183 Lib.Math.min.name, Cond.constant RJ2 227 (65536), Cond.methodLink RJ2 228 yJ2_indexOfChar_4cfef, Cond.static yJ2_indexOfChar_4cfef, Cond.code yJ2_indexOfChar_4cfef cJ2_indexOfChar_4cfef 4 (some .int), Cond.methodLink RJ2 96 yJ2_checkBoundsBeginEnd_d044e, Cond.static yJ2_checkBoundsBeginEnd_d044e, Cond.code yJ2_checkBoundsBeginEnd_d044e cJ2_checkBoundsBeginEnd_d044e 3 none, Cond.methodLink RJ2 48 yJ2_length_9d52b, Cond.static yJ2_length_9d52b, Cond.code yJ2_length_9d52b cJ2_length_9d52b 1 (some .int), Cond.methodLink RJ2 241 yJ0_checkBoundsBeginEnd_23922, Cond.static yJ0_checkBoundsBeginEnd_23922, Cond.code yJ0_checkBoundsBeginEnd_23922 cJ0_checkBoundsBeginEnd_23922 3 none, Cond.fieldLink RJ0 1053 "jdk/internal/util/Preconditions" "SIOOBE_FORMATTER" "Ljava/util/function/BiFunction;", Cond.methodLink RJ0 1062 yJ3_checkFromToIndex_8c36e, Cond.static yJ3_checkFromToIndex_8c36e, Cond.initialized RJ3, Cond.code yJ3_checkFromToIndex_8c36e cJ3_checkFromToIndex_8c36e 4 (some .int), Cond.methodLink RJ2 244 yJ2_indexOfCharUnsafe_4cfef, Cond.static yJ2_indexOfCharUnsafe_4cfef]
def wsX6_readInto_r6 : List Cond := [Cond.code yJ2_indexOfCharUnsafe_4cfef cJ2_indexOfCharUnsafe_4cfef 5 (some .int), Cond.methodLink RJ2 71 yJ2_getChar_3b067, Cond.static yJ2_getChar_3b067, Cond.code yJ2_getChar_3b067 cJ2_getChar_3b067 2 (some .char), Cond.fieldLink RJ2 44 "java/lang/StringUTF16" "$assertionsDisabled" "Z", Cond.fieldLink RJ2 59 "java/lang/StringUTF16" "HI_BYTE_SHIFT" "I", Cond.fieldLink RJ2 63 "java/lang/StringUTF16" "LO_BYTE_SHIFT" "I", Cond.methodLink RJ2 232 yJ2_indexOfSupplementary_4cfef, Cond.static yJ2_indexOfSupplementary_4cfef, Cond.code yJ2_indexOfSupplementary_4cfef cJ2_indexOfSupplementary_4cfef 7 (some .int), Cond.methodLink RJ2 164 yJ11_isValidCodePoint_9a6ad, Cond.static yJ11_isValidCodePoint_9a6ad, Cond.initialized RJ11, Cond.code yJ11_isValidCodePoint_9a6ad cJ11_isValidCodePoint_9a6ad 2 (some .boolean), Cond.methodLink RJ2 157 yJ11_highSurrogate_5068e, Cond.static yJ11_highSurrogate_5068e, Cond.code yJ11_highSurrogate_5068e cJ11_highSurrogate_5068e 1 (some .char), Cond.constant RJ11 110 (55232), Cond.methodLink RJ2 161 yJ11_lowSurrogate_5068e, Cond.static yJ11_lowSurrogate_5068e, Cond.code yJ11_lowSurrogate_5068e cJ11_lowSurrogate_5068e 1 (some .char), Cond.constant RJ11 76 (56320), Cond.methodLink RX6 40 yX6_readRoom, Cond.instanceMethod yX6_readRoom]
def wsX6_readInto_r7 : List Cond := [Cond.selects RX6 yX6_readRoom yX6_readRoom, Cond.initialized RX6, Cond.code yX6_readRoom cX6_readRoom 2 (some .boolean), Cond.fieldLink RX6 64 "SoldHouse$Plan" "rooms" "I", Cond.fieldLink RX6 75 "SoldHouse$Tokens" "word" "J", Cond.fieldLink RX6 83 "SoldHouse$Plan" "roomName" "[J", Cond.fieldLink RX6 91 "SoldHouse$Plan" "creaks" "[I", Cond.methodLink RX6 56 yX6_refuse, Cond.instanceMethod yX6_refuse, Cond.selects RX6 yX6_refuse yX6_refuse, Cond.code yX6_refuse cX6_refuse 2 (some .boolean), Cond.fieldLink RX6 205 "SoldHouse$Tokens" "place" "I", Cond.methodLink RX6 69 yX9_advance, Cond.methodLink RX6 72 yX9_isName, Cond.instanceMethod yX9_isName, Cond.selects RX9 yX9_isName yX9_isName, Cond.code yX9_isName cX9_isName 1 (some .boolean), Cond.methodLink RX6 79 yX5_roomNamed, Cond.instanceMethod yX5_roomNamed, Cond.selects RX5 yX5_roomNamed yX5_roomNamed, Cond.initialized RX5, Cond.code yX5_roomNamed cX5_roomNamed 4 (some .int), Cond.fieldLink RX5 50 "SoldHouse$Plan" "rooms" "I", Cond.fieldLink RX5 9 "SoldHouse$Plan" "roomName" "[J"]
def wsX6_readInto_r8 : List Cond := [Cond.methodLink RX6 87 yX6_readNumberBehind, Cond.instanceMethod yX6_readNumberBehind, Cond.selects RX6 yX6_readNumberBehind yX6_readNumberBehind, Cond.code yX6_readNumberBehind cX6_readNumberBehind 4 (some .int), Cond.methodLink RX6 128 yX9_isOwn, Cond.instanceMethod yX9_isOwn, Cond.selects RX9 yX9_isOwn yX9_isOwn, Cond.code yX9_isOwn cX9_isOwn 2 (some .boolean), Cond.methodLink RX6 44 yX6_readDoor, Cond.instanceMethod yX6_readDoor, Cond.selects RX6 yX6_readDoor yX6_readDoor, Cond.code yX6_readDoor cX6_readDoor 3 (some .boolean), Cond.fieldLink RX6 95 "SoldHouse$Plan" "doors" "I", Cond.fieldLink RX6 106 "SoldHouse$Plan" "doorFrom" "[I", Cond.fieldLink RX6 109 "SoldHouse$Plan" "doorTo" "[I", Cond.methodLink RX6 98 yX6_knownRoom, Cond.instanceMethod yX6_knownRoom, Cond.selects RX6 yX6_knownRoom yX6_knownRoom, Cond.code yX6_knownRoom cX6_knownRoom 2 (some .int), Cond.methodLink RX6 102 yX5_hasDoorOf, Cond.instanceMethod yX5_hasDoorOf, Cond.selects RX5 yX5_hasDoorOf yX5_hasDoorOf, Cond.code yX5_hasDoorOf cX5_hasDoorOf 4 (some .boolean), Cond.fieldLink RX5 54 "SoldHouse$Plan" "doors" "I"]
def wsX6_readInto_r9 : List Cond := [Cond.methodLink RX5 70 yX5_behind, Cond.instanceMethod yX5_behind, Cond.selects RX5 yX5_behind yX5_behind, Cond.code yX5_behind cX5_behind 3 (some .int), Cond.fieldLink RX5 19 "SoldHouse$Plan" "doorFrom" "[I", Cond.fieldLink RX5 22 "SoldHouse$Plan" "doorTo" "[I", Cond.methodLink RX6 47 yX6_readThing, Cond.instanceMethod yX6_readThing, Cond.selects RX6 yX6_readThing yX6_readThing, Cond.code yX6_readThing cX6_readThing 1 (some .boolean), Cond.fieldLink RX6 112 "SoldHouse$Plan" "things" "I", Cond.fieldLink RX6 119 "SoldHouse$Plan" "thingName" "[J", Cond.methodLink RX6 115 yX5_hasThingNamed, Cond.instanceMethod yX5_hasThingNamed, Cond.selects RX5 yX5_hasThingNamed yX5_hasThingNamed, Cond.code yX5_hasThingNamed cX5_hasThingNamed 4 (some .boolean), Cond.fieldLink RX5 57 "SoldHouse$Plan" "things" "I", Cond.fieldLink RX5 25 "SoldHouse$Plan" "thingName" "[J", Cond.methodLink RX6 122 yX6_readPlaces, Cond.instanceMethod yX6_readPlaces, Cond.selects RX6 yX6_readPlaces yX6_readPlaces, Cond.code yX6_readPlaces cX6_readPlaces 4 (some .boolean), Cond.fieldLink RX6 131 "SoldHouse$Plan" "in" "[I", Cond.fieldLink RX6 134 "SoldHouse$Plan" "was" "[I"]
def wsX6_readInto_r10 : List Cond := [Cond.methodLink RX6 125 yX6_readWorths, Cond.instanceMethod yX6_readWorths, Cond.selects RX6 yX6_readWorths yX6_readWorths, Cond.code yX6_readWorths cX6_readWorths 4 (some .boolean), Cond.fieldLink RX6 137 "SoldHouse$Plan" "ours" "[I", Cond.fieldLink RX6 140 "SoldHouse$Plan" "us" "[I", Cond.fieldLink RX6 143 "SoldHouse$Plan" "them" "[I", Cond.methodLink RX6 50 yX6_readSure, Cond.instanceMethod yX6_readSure, Cond.selects RX6 yX6_readSure yX6_readSure, Cond.code yX6_readSure cX6_readSure 1 (some .boolean), Cond.fieldLink RX6 146 "SoldHouse$Plan" "sure" "LSoldHouse$Formula;", Cond.fieldLink RX6 150 "SoldHouse$Formula" "told" "Z", Cond.methodLink RX6 156 yX6_readEither, Cond.instanceMethod yX6_readEither, Cond.selects RX6 yX6_readEither yX6_readEither, Cond.code yX6_readEither cX6_readEither 3 (some .boolean), Cond.methodLink RX6 165 yX6_readBoth, Cond.instanceMethod yX6_readBoth, Cond.selects RX6 yX6_readBoth yX6_readBoth, Cond.methodLink RX6 168 yX1_put, Cond.instanceMethod yX1_put, Cond.selects RX1 yX1_put yX1_put, Cond.initialized RX1]
def wsX6_readInto_r11 : List Cond := [Cond.code yX1_put cX1_put 2 none, Cond.fieldLink RX1 19 "SoldHouse$Formula" "size" "I", Cond.fieldLink RX1 9 "SoldHouse$Formula" "steps" "[I", Cond.code yX6_readBoth cX6_readBoth 3 (some .boolean), Cond.methodLink RX6 172 yX6_readOne, Cond.instanceMethod yX6_readOne, Cond.selects RX6 yX6_readOne yX6_readOne, Cond.code yX6_readInner cX6_readInner 2 (some .boolean), Cond.fieldLink RX6 196 "SoldHouse$Formula" "units" "I", Cond.methodLink RX6 60 yX6_readSign, Cond.instanceMethod yX6_readSign, Cond.selects RX6 yX6_readSign yX6_readSign, Cond.code yX6_readSign cX6_readSign 2 (some .boolean), Cond.methodLink RX6 187 yX9_isSign, Cond.instanceMethod yX9_isSign, Cond.selects RX9 yX9_isSign yX9_isSign, Cond.code yX9_isSign cX9_isSign 2 (some .boolean), Cond.code yX6_readOne cX6_readOne 2 (some .boolean), Cond.methodLink RX6 175 yX6_readRelation, Cond.instanceMethod yX6_readRelation, Cond.selects RX6 yX6_readRelation yX6_readRelation, Cond.code yX6_readRelation cX6_readRelation 3 (some .boolean), Cond.methodLink RX6 178 yX6_readSum, Cond.instanceMethod yX6_readSum]
def wsX6_readInto_r12 : List Cond := [Cond.selects RX6 yX6_readSum yX6_readSum, Cond.methodLink RX6 181 yX6_relation, Cond.instanceMethod yX6_relation, Cond.selects RX6 yX6_relation yX6_relation, Cond.code yX6_relation cX6_relation 1 (some .int), Cond.code yX6_readSum cX6_readSum 4 (some .boolean), Cond.methodLink RX6 184 yX6_readTerm, Cond.instanceMethod yX6_readTerm, Cond.selects RX6 yX6_readTerm yX6_readTerm, Cond.code yX6_readTerm cX6_readTerm 4 (some .boolean), Cond.methodLink RX6 190 yX6_readUnit, Cond.instanceMethod yX6_readUnit, Cond.selects RX6 yX6_readUnit yX6_readUnit, Cond.methodLink RX6 193 yX6_product, Cond.instanceMethod yX6_product, Cond.selects RX6 yX6_product yX6_product, Cond.code yX6_product cX6_product 1 (some .int), Cond.code yX6_readUnit cX6_readUnit 3 (some .boolean), Cond.methodLink RX6 199 yX6_readInner, Cond.instanceMethod yX6_readInner, Cond.selects RX6 yX6_readInner yX6_readInner, Cond.methodLink RX6 202 yX6_knownValue, Cond.instanceMethod yX6_knownValue, Cond.selects RX6 yX6_knownValue yX6_knownValue]
def wsX6_readInto_r13 : List Cond := [Cond.code yX6_knownValue cX6_knownValue 1 (some .int), Cond.methodLink RX6 53 yX6_readDraw, Cond.instanceMethod yX6_readDraw, Cond.selects RX6 yX6_readDraw yX6_readDraw, Cond.code yX6_readDraw cX6_readDraw 1 (some .boolean), Cond.fieldLink RX6 159 "SoldHouse$Plan" "drawTold" "Z", Cond.fieldLink RX6 162 "SoldHouse$Plan" "draw" "I"]
def wsX6_readInto : List Cond := .code yX6_readInto cX6_readInto 4 (some .boolean) :: ((wsX6_readInto_r1 ++ (wsX6_readInto_r2 ++ (wsX6_readInto_r3 ++ (wsX6_readInto_r4 ++ (wsX6_readInto_r5 ++ (wsX6_readInto_r6 ++ (wsX6_readInto_r7 ++ (wsX6_readInto_r8 ++ (wsX6_readInto_r9 ++ (wsX6_readInto_r10 ++ (wsX6_readInto_r11 ++ (wsX6_readInto_r12 ++ wsX6_readInto_r13)))))))))))) ++ wsX60 ++ wsX90 ++ wsX80 ++ wsX50 ++ wsX10)
def wsX11_house_r1 : List Cond := [Cond.fieldLink RX11 16 "SoldHouse" "draft" "LSoldHouse$Plan;", Cond.fieldLink RX11 31 "SoldHouse" "reader" "LSoldHouse$Reader;", Cond.fieldLink RX11 10 "SoldHouse" "plan" "LSoldHouse$Plan;", Cond.fieldLink RX11 22 "SoldHouse" "tape" "LSoldHouse$Tape;", Cond.fieldLink RX11 86 "SoldHouse$Tape" "size" "I", Cond.fieldLink RX11 101 "SoldHouse$Plan" "rooms" "I", Cond.methodLink RX11 94 yX5_clear, Cond.instanceMethod yX5_clear, Cond.selects RX5 yX5_clear yX5_clear, Cond.initialized RX5, Cond.code yX5_clear cX5_clear 1 none, Cond.fieldLink RX5 50 "SoldHouse$Plan" "rooms" "I", Cond.fieldLink RX5 54 "SoldHouse$Plan" "doors" "I", Cond.fieldLink RX5 57 "SoldHouse$Plan" "things" "I", Cond.fieldLink RX5 46 "SoldHouse$Plan" "sure" "LSoldHouse$Formula;", Cond.fieldLink RX5 63 "SoldHouse$Plan" "draw" "I", Cond.fieldLink RX5 66 "SoldHouse$Plan" "drawTold" "Z", Cond.methodLink RX5 60 yX1_clear, Cond.instanceMethod yX1_clear, Cond.selects RX1 yX1_clear yX1_clear, Cond.initialized RX1, Cond.code yX1_clear cX1_clear 1 none, Cond.fieldLink RX1 19 "SoldHouse$Formula" "size" "I", Cond.fieldLink RX1 23 "SoldHouse$Formula" "units" "I"]
def wsX11_house_r2 : List Cond := [Cond.fieldLink RX1 26 "SoldHouse$Formula" "told" "Z", Cond.methodLink RX11 97 yX6_readInto, Cond.instanceMethod yX6_readInto, Cond.selects RX6 yX6_readInto yX6_readInto, Cond.initialized RX6, Cond.code yX6_readInto cX6_readInto 4 (some .boolean), Cond.fieldLink RX6 24 "SoldHouse$Reader" "plan" "LSoldHouse$Plan;", Cond.fieldLink RX6 28 "SoldHouse$Reader" "fault" "I", Cond.fieldLink RX6 9 "SoldHouse$Reader" "faultPlace" "I", Cond.fieldLink RX6 20 "SoldHouse$Reader" "tokens" "LSoldHouse$Tokens;", Cond.fieldLink RX6 34 "SoldHouse$Tokens" "kind" "I", Cond.fieldLink RX6 37 "SoldHouse$Tokens" "value" "I", Cond.methodLink RX6 31 yX9_begin, Cond.instanceMethod yX9_begin, Cond.selects RX9 yX9_begin yX9_begin, Cond.initialized RX9, Cond.code yX9_begin cX9_begin 1 none, Cond.fieldLink RX9 35 "SoldHouse$Tokens" "behind" "I", Cond.methodLink RX9 39 yX9_advance, Cond.instanceMethod yX9_advance, Cond.selects RX9 yX9_advance yX9_advance, Cond.code yX9_advance cX9_advance 1 none, Cond.fieldLink RX9 15 "SoldHouse$Tokens" "tape" "LSoldHouse$Tape;", Cond.fieldLink RX9 42 "SoldHouse$Tape" "size" "I"]
def wsX11_house_r3 : List Cond := [Cond.fieldLink RX9 47 "SoldHouse$Tape" "bytes" "[B", Cond.fieldLink RX9 55 "SoldHouse$Tokens" "place" "I", Cond.fieldLink RX9 58 "SoldHouse$Tokens" "kind" "I", Cond.methodLink RX9 51 yX9_isBlank, Cond.static yX9_isBlank, Cond.code yX9_isBlank cX9_isBlank 1 (some .boolean), Cond.methodLink RX9 61 yX9_isLetter, Cond.static yX9_isLetter, Cond.code yX9_isLetter cX9_isLetter 1 (some .boolean), Cond.methodLink RX9 64 yX9_readWord, Cond.instanceMethod yX9_readWord, Cond.selects RX9 yX9_readWord yX9_readWord, Cond.code yX9_readWord cX9_readWord 1 none, Cond.fieldLink RX9 79 "SoldHouse$Tokens" "word" "J", Cond.fieldLink RX9 76 "SoldHouse$Tokens" "value" "I", Cond.methodLink RX9 31 yX9_withLetter, Cond.static yX9_withLetter, Cond.code yX9_withLetter cX9_withLetter 3 (some .long), Cond.constantLong RX9 92 (32), Cond.methodLink RX9 83 yX9_numberOfOwn, Cond.instanceMethod yX9_numberOfOwn, Cond.selects RX9 yX9_numberOfOwn yX9_numberOfOwn, Cond.code yX9_numberOfOwn cX9_numberOfOwn 2 (some .int), Cond.fieldLink RX9 11 "SoldHouse$Tokens" "own" "[J"]
def wsX11_house_r4 : List Cond := [Cond.methodLink RX9 67 yX9_isDigit, Cond.static yX9_isDigit, Cond.code yX9_isDigit cX9_isDigit 1 (some .boolean), Cond.methodLink RX9 70 yX9_readNumber, Cond.instanceMethod yX9_readNumber, Cond.selects RX9 yX9_readNumber yX9_readNumber, Cond.code yX9_readNumber cX9_readNumber 2 none, Cond.methodLink RX9 73 yX9_readSign, Cond.instanceMethod yX9_readSign, Cond.selects RX9 yX9_readSign yX9_readSign, Cond.code yX9_readSign cX9_readSign 1 none, Cond.methodLink RX9 88 yJ0_indexOf_0f7a4, Cond.instanceMethod yJ0_indexOf_0f7a4, Cond.selects RJ0 yJ0_indexOf_0f7a4 yJ0_indexOf_0f7a4, Cond.initialized RJ0, Cond.code yJ0_indexOf_0f7a4 cJ0_indexOf_0f7a4 2 (some .int), Cond.methodLink RJ0 633 yJ0_indexOf_7cf53, Cond.instanceMethod yJ0_indexOf_7cf53, Cond.selects RJ0 yJ0_indexOf_7cf53 yJ0_indexOf_7cf53, Cond.code yJ0_indexOf_7cf53 cJ0_indexOf_7cf53 3 (some .int), Cond.fieldLink RJ0 9 "java/lang/String" "value" "[B", Cond.methodLink RJ0 492 yJ0_isLatin1_aae02, Cond.instanceMethod yJ0_isLatin1_aae02, Cond.selects RJ0 yJ0_isLatin1_aae02 yJ0_isLatin1_aae02]
def wsX11_house_r5 : List Cond := [Cond.code yJ0_isLatin1_aae02 cJ0_isLatin1_aae02 1 (some .boolean), Cond.fieldLink RJ0 38 "java/lang/String" "COMPACT_STRINGS" "Z", Cond.fieldLink RJ0 15 "java/lang/String" "coder" "B", Cond.methodLink RJ0 505 yJ0_length_8abf5, Cond.instanceMethod yJ0_length_8abf5, Cond.selects RJ0 yJ0_length_8abf5 yJ0_length_8abf5, Cond.code yJ0_length_8abf5 cJ0_length_8abf5 1 (some .int), Cond.methodLink RJ0 335 yJ0_coder_7d493, Cond.instanceMethod yJ0_coder_7d493, Cond.selects RJ0 yJ0_coder_7d493 yJ0_coder_7d493, Cond.code yJ0_coder_7d493 cJ0_coder_7d493 1 (some .byte), Cond.methodLink RJ0 637 yJ1_indexOf_4cfef, Cond.static yJ1_indexOf_4cfef, Cond.initialized RJ1, Cond.code yJ1_indexOf_4cfef cJ1_indexOf_4cfef 4 (some .int), Cond.methodLink RJ1 92 Lib.Math.max.name, Cond.static Lib.Math.max.name, Cond.initialized "java/lang/Math", Cond.code Lib.Math.max.name Lib.Math.max.code 2 (some .int), Cond.methodLink RJ1 38 Lib.Math.min.name, Cond.static Lib.Math.min.name, Cond.code Lib.Math.min.name Lib.Math.min.code 2 (some .int), Cond.methodLink RJ1 88 yJ1_canEncode_9a6ad, Cond.static yJ1_canEncode_9a6ad]
def wsX11_house_r6 : List Cond := [Cond.code yJ1_canEncode_9a6ad cJ1_canEncode_9a6ad 1 (some .boolean), Cond.methodLink RJ1 95 yJ1_indexOfChar_4cfef, Cond.static yJ1_indexOfChar_4cfef, Cond.code yJ1_indexOfChar_4cfef cJ1_indexOfChar_4cfef 6 (some .int), Cond.methodLink RJ0 640 yJ2_indexOf_4cfef, Cond.static yJ2_indexOf_4cfef, Cond.initialized RJ2, Cond.code yJ2_indexOf_4cfef cJ2_indexOf_4cfef 4 (some .int), Cond.methodLink RJ2 224 Lib.Math.max.name, Cond.methodLink RJ2 183 Lib.Math.min.name, Cond.constant RJ2 227 (65536), Cond.methodLink RJ2 228 yJ2_indexOfChar_4cfef, Cond.static yJ2_indexOfChar_4cfef, Cond.code yJ2_indexOfChar_4cfef cJ2_indexOfChar_4cfef 4 (some .int), Cond.methodLink RJ2 96 yJ2_checkBoundsBeginEnd_d044e, Cond.static yJ2_checkBoundsBeginEnd_d044e, Cond.code yJ2_checkBoundsBeginEnd_d044e cJ2_checkBoundsBeginEnd_d044e 3 none, Cond.methodLink RJ2 48 yJ2_length_9d52b, Cond.static yJ2_length_9d52b, Cond.code yJ2_length_9d52b cJ2_length_9d52b 1 (some .int), Cond.methodLink RJ2 241 yJ0_checkBoundsBeginEnd_23922, Cond.static yJ0_checkBoundsBeginEnd_23922, Cond.code yJ0_checkBoundsBeginEnd_23922 cJ0_checkBoundsBeginEnd_23922 3 none, Cond.fieldLink RJ0 1053 "jdk/internal/util/Preconditions" "SIOOBE_FORMATTER" "Ljava/util/function/BiFunction;"]
def wsX11_house_r7 : List Cond := [Cond.methodLink RJ0 1062 yJ3_checkFromToIndex_8c36e, Cond.static yJ3_checkFromToIndex_8c36e, Cond.initialized RJ3, Cond.code yJ3_checkFromToIndex_8c36e cJ3_checkFromToIndex_8c36e 4 (some .int), Cond.methodLink RJ2 244 yJ2_indexOfCharUnsafe_4cfef, Cond.static yJ2_indexOfCharUnsafe_4cfef, Cond.code yJ2_indexOfCharUnsafe_4cfef cJ2_indexOfCharUnsafe_4cfef 5 (some .int), Cond.methodLink RJ2 71 yJ2_getChar_3b067, Cond.static yJ2_getChar_3b067, Cond.code yJ2_getChar_3b067 cJ2_getChar_3b067 2 (some .char), Cond.fieldLink RJ2 44 "java/lang/StringUTF16" "$assertionsDisabled" "Z", Cond.fieldLink RJ2 59 "java/lang/StringUTF16" "HI_BYTE_SHIFT" "I", Cond.fieldLink RJ2 63 "java/lang/StringUTF16" "LO_BYTE_SHIFT" "I", Cond.methodLink RJ2 232 yJ2_indexOfSupplementary_4cfef, Cond.static yJ2_indexOfSupplementary_4cfef, Cond.code yJ2_indexOfSupplementary_4cfef cJ2_indexOfSupplementary_4cfef 7 (some .int), Cond.methodLink RJ2 164 yJ11_isValidCodePoint_9a6ad, Cond.static yJ11_isValidCodePoint_9a6ad, Cond.initialized RJ11, Cond.code yJ11_isValidCodePoint_9a6ad cJ11_isValidCodePoint_9a6ad 2 (some .boolean), Cond.methodLink RJ2 157 yJ11_highSurrogate_5068e, Cond.static yJ11_highSurrogate_5068e, Cond.code yJ11_highSurrogate_5068e cJ11_highSurrogate_5068e 1 (some .char), Cond.constant RJ11 110 (55232)]
def wsX11_house_r8 : List Cond := [Cond.methodLink RJ2 161 yJ11_lowSurrogate_5068e, Cond.static yJ11_lowSurrogate_5068e, Cond.code yJ11_lowSurrogate_5068e cJ11_lowSurrogate_5068e 1 (some .char), Cond.constant RJ11 76 (56320), Cond.methodLink RX6 40 yX6_readRoom, Cond.instanceMethod yX6_readRoom, Cond.selects RX6 yX6_readRoom yX6_readRoom, Cond.code yX6_readRoom cX6_readRoom 2 (some .boolean), Cond.fieldLink RX6 64 "SoldHouse$Plan" "rooms" "I", Cond.fieldLink RX6 75 "SoldHouse$Tokens" "word" "J", Cond.fieldLink RX6 83 "SoldHouse$Plan" "roomName" "[J", Cond.fieldLink RX6 91 "SoldHouse$Plan" "creaks" "[I", Cond.methodLink RX6 56 yX6_refuse, Cond.instanceMethod yX6_refuse, Cond.selects RX6 yX6_refuse yX6_refuse, Cond.code yX6_refuse cX6_refuse 2 (some .boolean), Cond.fieldLink RX6 205 "SoldHouse$Tokens" "place" "I", Cond.methodLink RX6 69 yX9_advance, Cond.methodLink RX6 72 yX9_isName, Cond.instanceMethod yX9_isName, Cond.selects RX9 yX9_isName yX9_isName, Cond.code yX9_isName cX9_isName 1 (some .boolean), Cond.methodLink RX6 79 yX5_roomNamed, Cond.instanceMethod yX5_roomNamed]
def wsX11_house_r9 : List Cond := [Cond.selects RX5 yX5_roomNamed yX5_roomNamed, Cond.code yX5_roomNamed cX5_roomNamed 4 (some .int), Cond.fieldLink RX5 9 "SoldHouse$Plan" "roomName" "[J", Cond.methodLink RX6 87 yX6_readNumberBehind, Cond.instanceMethod yX6_readNumberBehind, Cond.selects RX6 yX6_readNumberBehind yX6_readNumberBehind, Cond.code yX6_readNumberBehind cX6_readNumberBehind 4 (some .int), Cond.methodLink RX6 128 yX9_isOwn, Cond.instanceMethod yX9_isOwn, Cond.selects RX9 yX9_isOwn yX9_isOwn, Cond.code yX9_isOwn cX9_isOwn 2 (some .boolean), Cond.methodLink RX6 44 yX6_readDoor, Cond.instanceMethod yX6_readDoor, Cond.selects RX6 yX6_readDoor yX6_readDoor, Cond.code yX6_readDoor cX6_readDoor 3 (some .boolean), Cond.fieldLink RX6 95 "SoldHouse$Plan" "doors" "I", Cond.fieldLink RX6 106 "SoldHouse$Plan" "doorFrom" "[I", Cond.fieldLink RX6 109 "SoldHouse$Plan" "doorTo" "[I", Cond.methodLink RX6 98 yX6_knownRoom, Cond.instanceMethod yX6_knownRoom, Cond.selects RX6 yX6_knownRoom yX6_knownRoom, Cond.code yX6_knownRoom cX6_knownRoom 2 (some .int), Cond.methodLink RX6 102 yX5_hasDoorOf, Cond.instanceMethod yX5_hasDoorOf]
def wsX11_house_r10 : List Cond := [Cond.selects RX5 yX5_hasDoorOf yX5_hasDoorOf, Cond.code yX5_hasDoorOf cX5_hasDoorOf 4 (some .boolean), Cond.methodLink RX5 70 yX5_behind, Cond.instanceMethod yX5_behind, Cond.selects RX5 yX5_behind yX5_behind, Cond.code yX5_behind cX5_behind 3 (some .int), Cond.fieldLink RX5 19 "SoldHouse$Plan" "doorFrom" "[I", Cond.fieldLink RX5 22 "SoldHouse$Plan" "doorTo" "[I", Cond.methodLink RX6 47 yX6_readThing, Cond.instanceMethod yX6_readThing, Cond.selects RX6 yX6_readThing yX6_readThing, Cond.code yX6_readThing cX6_readThing 1 (some .boolean), Cond.fieldLink RX6 112 "SoldHouse$Plan" "things" "I", Cond.fieldLink RX6 119 "SoldHouse$Plan" "thingName" "[J", Cond.methodLink RX6 115 yX5_hasThingNamed, Cond.instanceMethod yX5_hasThingNamed, Cond.selects RX5 yX5_hasThingNamed yX5_hasThingNamed, Cond.code yX5_hasThingNamed cX5_hasThingNamed 4 (some .boolean), Cond.fieldLink RX5 25 "SoldHouse$Plan" "thingName" "[J", Cond.methodLink RX6 122 yX6_readPlaces, Cond.instanceMethod yX6_readPlaces, Cond.selects RX6 yX6_readPlaces yX6_readPlaces, Cond.code yX6_readPlaces cX6_readPlaces 4 (some .boolean), Cond.fieldLink RX6 131 "SoldHouse$Plan" "in" "[I"]
def wsX11_house_r11 : List Cond := [Cond.fieldLink RX6 134 "SoldHouse$Plan" "was" "[I", Cond.methodLink RX6 125 yX6_readWorths, Cond.instanceMethod yX6_readWorths, Cond.selects RX6 yX6_readWorths yX6_readWorths, Cond.code yX6_readWorths cX6_readWorths 4 (some .boolean), Cond.fieldLink RX6 137 "SoldHouse$Plan" "ours" "[I", Cond.fieldLink RX6 140 "SoldHouse$Plan" "us" "[I", Cond.fieldLink RX6 143 "SoldHouse$Plan" "them" "[I", Cond.methodLink RX6 50 yX6_readSure, Cond.instanceMethod yX6_readSure, Cond.selects RX6 yX6_readSure yX6_readSure, Cond.code yX6_readSure cX6_readSure 1 (some .boolean), Cond.fieldLink RX6 146 "SoldHouse$Plan" "sure" "LSoldHouse$Formula;", Cond.fieldLink RX6 150 "SoldHouse$Formula" "told" "Z", Cond.methodLink RX6 156 yX6_readEither, Cond.instanceMethod yX6_readEither, Cond.selects RX6 yX6_readEither yX6_readEither, Cond.code yX6_readEither cX6_readEither 3 (some .boolean), Cond.methodLink RX6 165 yX6_readBoth, Cond.instanceMethod yX6_readBoth, Cond.selects RX6 yX6_readBoth yX6_readBoth, Cond.methodLink RX6 168 yX1_put, Cond.instanceMethod yX1_put, Cond.selects RX1 yX1_put yX1_put]
def wsX11_house_r12 : List Cond := [Cond.code yX1_put cX1_put 2 none, Cond.fieldLink RX1 9 "SoldHouse$Formula" "steps" "[I", Cond.code yX6_readBoth cX6_readBoth 3 (some .boolean), Cond.methodLink RX6 172 yX6_readOne, Cond.instanceMethod yX6_readOne, Cond.selects RX6 yX6_readOne yX6_readOne, Cond.code yX6_readInner cX6_readInner 2 (some .boolean), Cond.fieldLink RX6 196 "SoldHouse$Formula" "units" "I", Cond.methodLink RX6 60 yX6_readSign, Cond.instanceMethod yX6_readSign, Cond.selects RX6 yX6_readSign yX6_readSign, Cond.code yX6_readSign cX6_readSign 2 (some .boolean), Cond.methodLink RX6 187 yX9_isSign, Cond.instanceMethod yX9_isSign, Cond.selects RX9 yX9_isSign yX9_isSign, Cond.code yX9_isSign cX9_isSign 2 (some .boolean), Cond.code yX6_readOne cX6_readOne 2 (some .boolean), Cond.methodLink RX6 175 yX6_readRelation, Cond.instanceMethod yX6_readRelation, Cond.selects RX6 yX6_readRelation yX6_readRelation, Cond.code yX6_readRelation cX6_readRelation 3 (some .boolean), Cond.methodLink RX6 178 yX6_readSum, Cond.instanceMethod yX6_readSum, Cond.selects RX6 yX6_readSum yX6_readSum]
def wsX11_house_r13 : List Cond := [Cond.methodLink RX6 181 yX6_relation, Cond.instanceMethod yX6_relation, Cond.selects RX6 yX6_relation yX6_relation, Cond.code yX6_relation cX6_relation 1 (some .int), Cond.code yX6_readSum cX6_readSum 4 (some .boolean), Cond.methodLink RX6 184 yX6_readTerm, Cond.instanceMethod yX6_readTerm, Cond.selects RX6 yX6_readTerm yX6_readTerm, Cond.code yX6_readTerm cX6_readTerm 4 (some .boolean), Cond.methodLink RX6 190 yX6_readUnit, Cond.instanceMethod yX6_readUnit, Cond.selects RX6 yX6_readUnit yX6_readUnit, Cond.methodLink RX6 193 yX6_product, Cond.instanceMethod yX6_product, Cond.selects RX6 yX6_product yX6_product, Cond.code yX6_product cX6_product 1 (some .int), Cond.code yX6_readUnit cX6_readUnit 3 (some .boolean), Cond.methodLink RX6 199 yX6_readInner, Cond.instanceMethod yX6_readInner, Cond.selects RX6 yX6_readInner yX6_readInner, Cond.methodLink RX6 202 yX6_knownValue, Cond.instanceMethod yX6_knownValue, Cond.selects RX6 yX6_knownValue yX6_knownValue, Cond.code yX6_knownValue cX6_knownValue 1 (some .int)]
def wsX11_house_r14 : List Cond := [Cond.methodLink RX6 53 yX6_readDraw, Cond.instanceMethod yX6_readDraw, Cond.selects RX6 yX6_readDraw yX6_readDraw, Cond.code yX6_readDraw cX6_readDraw 1 (some .boolean), Cond.fieldLink RX6 159 "SoldHouse$Plan" "drawTold" "Z", Cond.fieldLink RX6 162 "SoldHouse$Plan" "draw" "I", Cond.methodLink RX11 83 yX11_takeUp, Cond.instanceMethod yX11_takeUp, Cond.selects RX11 yX11_takeUp yX11_takeUp, Cond.initialized RX11, Cond.code yX11_takeUp cX11_takeUp 1 none, Cond.fieldLink RX11 40 "SoldHouse" "floor" "LSoldHouse$Floor;", Cond.fieldLink RX11 63 "SoldHouse" "memory" "LSoldHouse$Memory;", Cond.fieldLink RX11 79 "SoldHouse" "night" "LSoldHouse$Night;", Cond.fieldLink RX11 318 "SoldHouse$Night" "count" "I", Cond.fieldLink RX11 49 "SoldHouse" "routes" "LSoldHouse$Routes;", Cond.fieldLink RX11 187 "SoldHouse$Routes" "lying" "I", Cond.methodLink RX11 333 yX0_build, Cond.instanceMethod yX0_build, Cond.selects RX0 yX0_build yX0_build, Cond.initialized RX0, Cond.code yX0_build cX0_build 3 none, Cond.fieldLink RX0 21 "SoldHouse$Floor" "plan" "LSoldHouse$Plan;", Cond.fieldLink RX0 9 "SoldHouse$Floor" "next" "[I"]
def wsX11_house_r15 : List Cond := [Cond.fieldLink RX0 31 "SoldHouse$Plan" "doors" "I", Cond.fieldLink RX0 37 "SoldHouse$Plan" "doorFrom" "[I", Cond.fieldLink RX0 40 "SoldHouse$Plan" "doorTo" "[I", Cond.fieldLink RX0 15 "SoldHouse$Floor" "far" "[I", Cond.fieldLink RX0 43 "SoldHouse$Plan" "rooms" "I", Cond.fieldLink RX0 50 "SoldHouse$Floor" "parting" "I", Cond.fieldLink RX0 18 "SoldHouse$Floor" "near" "[I", Cond.methodLink RX0 25 yJ7_fill_53178, Cond.static yJ7_fill_53178, Cond.initialized RJ7, Cond.code yJ7_fill_53178 cJ7_fill_53178 4 none, Cond.methodLink RX0 46 yX0_measureFrom, Cond.instanceMethod yX0_measureFrom, Cond.selects RX0 yX0_measureFrom yX0_measureFrom, Cond.code yX0_measureFrom cX0_measureFrom 6 none, Cond.methodLink RX0 57 yX0_behindDoors, Cond.instanceMethod yX0_behindDoors, Cond.selects RX0 yX0_behindDoors yX0_behindDoors, Cond.code yX0_behindDoors cX0_behindDoors 4 (some .int), Cond.methodLink RX0 53 yX0_nearSide, Cond.instanceMethod yX0_nearSide, Cond.selects RX0 yX0_nearSide yX0_nearSide, Cond.code yX0_nearSide cX0_nearSide 5 (some .int), Cond.methodLink RX0 60 yX0_allRooms]
def wsX11_house_r16 : List Cond := [Cond.instanceMethod yX0_allRooms, Cond.selects RX0 yX0_allRooms yX0_allRooms, Cond.code yX0_allRooms cX0_allRooms 1 (some .int), Cond.methodLink RX0 64 yX0_reach, Cond.instanceMethod yX0_reach, Cond.selects RX0 yX0_reach yX0_reach, Cond.code yX0_reach cX0_reach 5 (some .int), Cond.methodLink RX11 336 yX3_begin, Cond.instanceMethod yX3_begin, Cond.selects RX3 yX3_begin yX3_begin, Cond.initialized RX3, Cond.code yX3_begin cX3_begin 3 none, Cond.fieldLink RX3 30 "SoldHouse$Memory" "floor" "LSoldHouse$Floor;", Cond.fieldLink RX3 34 "SoldHouse$Floor" "plan" "LSoldHouse$Plan;", Cond.fieldLink RX3 40 "SoldHouse$Plan" "things" "I", Cond.fieldLink RX3 11 "SoldHouse$Memory" "now" "[I", Cond.fieldLink RX3 46 "SoldHouse$Plan" "in" "[I", Cond.fieldLink RX3 49 "SoldHouse$Plan" "was" "[I", Cond.fieldLink RX3 52 "SoldHouse$Plan" "ours" "[I", Cond.fieldLink RX3 55 "SoldHouse$Plan" "draw" "I", Cond.fieldLink RX3 26 "SoldHouse$Memory" "full" "[Z", Cond.methodLink RX3 58 yX3_forgetActs, Cond.instanceMethod yX3_forgetActs, Cond.selects RX3 yX3_forgetActs yX3_forgetActs]
def wsX11_house_r17 : List Cond := [Cond.code yX3_forgetActs cX3_forgetActs 1 none, Cond.fieldLink RX3 134 "SoldHouse$Memory" "oldest" "I", Cond.fieldLink RX3 131 "SoldHouse$Memory" "done" "I", Cond.fieldLink RX3 128 "SoldHouse$Memory" "undone" "I", Cond.fieldLink RX3 20 "SoldHouse$Memory" "kept" "[[I", Cond.methodLink RX3 115 arraycopyName, Cond.native arraycopyName, Cond.static arraycopyName, Cond.initialized "java/lang/System"]
def wsX11_house : List Cond := .code yX11_house cX11_house 2 (some .int) :: ((wsX11_house_r1 ++ (wsX11_house_r2 ++ (wsX11_house_r3 ++ (wsX11_house_r4 ++ (wsX11_house_r5 ++ (wsX11_house_r6 ++ (wsX11_house_r7 ++ (wsX11_house_r8 ++ (wsX11_house_r9 ++ (wsX11_house_r10 ++ (wsX11_house_r11 ++ (wsX11_house_r12 ++ (wsX11_house_r13 ++ (wsX11_house_r14 ++ (wsX11_house_r15 ++ (wsX11_house_r16 ++ wsX11_house_r17)))))))))))))))) ++ wsX110 ++ wsX80 ++ wsX50 ++ wsX10 ++ wsX60 ++ wsX90 ++ wsX40 ++ wsX70 ++ wsX00 ++ wsX30)
theorem dX8_put_0 : decode cX8_put 0 = .ok (.bipush 24, 2) := by decide +kernel
theorem dX8_put_2 : decode cX8_put 2 = .ok (.istore_n 2, 1) := by decide +kernel
theorem dX8_put_3 : decode cX8_put 3 = .ok (.iload_n 2, 1) := by decide +kernel
theorem dX8_put_4 : decode cX8_put 4 = .ok (.ifCond .lt 42, 3) := by decide +kernel
theorem dX8_put_7 : decode cX8_put 7 = .ok (.aload_n 0, 1) := by decide +kernel
theorem dX8_put_8 : decode cX8_put 8 = .ok (.getfield 15, 3) := by decide +kernel
theorem dX8_put_11 : decode cX8_put 11 = .ok (.sipush 1600, 3) := by decide +kernel
theorem dX8_put_14 : decode cX8_put 14 = .ok (.if_icmp .ge 26, 3) := by decide +kernel
theorem dX8_put_17 : decode cX8_put 17 = .ok (.aload_n 0, 1) := by decide +kernel
theorem dX8_put_18 : decode cX8_put 18 = .ok (.getfield 9, 3) := by decide +kernel
theorem dX8_put_21 : decode cX8_put 21 = .ok (.aload_n 0, 1) := by decide +kernel
theorem dX8_put_22 : decode cX8_put 22 = .ok (.getfield 15, 3) := by decide +kernel
theorem dX8_put_25 : decode cX8_put 25 = .ok (.iload_n 1, 1) := by decide +kernel
theorem dX8_put_26 : decode cX8_put 26 = .ok (.iload_n 2, 1) := by decide +kernel
theorem dX8_put_27 : decode cX8_put 27 = .ok (.ishr, 1) := by decide +kernel
theorem dX8_put_28 : decode cX8_put 28 = .ok (.i2b, 1) := by decide +kernel
theorem dX8_put_29 : decode cX8_put 29 = .ok (.bastore, 1) := by decide +kernel
theorem dX8_put_30 : decode cX8_put 30 = .ok (.aload_n 0, 1) := by decide +kernel
theorem dX8_put_31 : decode cX8_put 31 = .ok (.dup, 1) := by decide +kernel
theorem dX8_put_32 : decode cX8_put 32 = .ok (.getfield 15, 3) := by decide +kernel
theorem dX8_put_35 : decode cX8_put 35 = .ok (.iconst 1, 1) := by decide +kernel
theorem dX8_put_36 : decode cX8_put 36 = .ok (.iadd, 1) := by decide +kernel
theorem dX8_put_37 : decode cX8_put 37 = .ok (.putfield 15, 3) := by decide +kernel
theorem dX8_put_40 : decode cX8_put 40 = .ok (.iinc 2 (-8), 3) := by decide +kernel
theorem dX8_put_43 : decode cX8_put 43 = .ok (.goto (-40), 3) := by decide +kernel
theorem dX8_put_46 : decode cX8_put 46 = .ok (.return_, 1) := by decide +kernel
theorem dX11_feed_0 : decode cX11_feed 0 = .ok (.aload_n 0, 1) := by decide +kernel
theorem dX11_feed_1 : decode cX11_feed 1 = .ok (.getfield 22, 3) := by decide +kernel
theorem dX11_feed_4 : decode cX11_feed 4 = .ok (.getfield 86, 3) := by decide +kernel
theorem dX11_feed_7 : decode cX11_feed 7 = .ok (.sipush 1580, 3) := by decide +kernel
theorem dX11_feed_10 : decode cX11_feed 10 = .ok (.if_icmp .le 5, 3) := by decide +kernel
theorem dX11_feed_15 : decode cX11_feed 15 = .ok (.aload_n 0, 1) := by decide +kernel
theorem dX11_feed_16 : decode cX11_feed 16 = .ok (.getfield 22, 3) := by decide +kernel
theorem dX11_feed_19 : decode cX11_feed 19 = .ok (.iload_n 1, 1) := by decide +kernel
theorem dX11_feed_20 : decode cX11_feed 20 = .ok (.invokevirtual 90, 3) := by decide +kernel
theorem dX11_feed_23 : decode cX11_feed 23 = .ok (.aload_n 0, 1) := by decide +kernel
theorem dX11_feed_24 : decode cX11_feed 24 = .ok (.getfield 22, 3) := by decide +kernel
theorem dX11_feed_27 : decode cX11_feed 27 = .ok (.iload_n 2, 1) := by decide +kernel
theorem dX11_feed_28 : decode cX11_feed 28 = .ok (.invokevirtual 90, 3) := by decide +kernel
theorem dX11_feed_31 : decode cX11_feed 31 = .ok (.aload_n 0, 1) := by decide +kernel
theorem dX11_feed_32 : decode cX11_feed 32 = .ok (.getfield 22, 3) := by decide +kernel
theorem dX11_feed_35 : decode cX11_feed 35 = .ok (.iload_n 3, 1) := by decide +kernel
theorem dX11_feed_36 : decode cX11_feed 36 = .ok (.invokevirtual 90, 3) := by decide +kernel
theorem dX11_feed_39 : decode cX11_feed 39 = .ok (.aload_n 0, 1) := by decide +kernel
theorem dX11_feed_40 : decode cX11_feed 40 = .ok (.getfield 22, 3) := by decide +kernel
theorem dX11_feed_43 : decode cX11_feed 43 = .ok (.iload 4, 2) := by decide +kernel
theorem dX11_feed_45 : decode cX11_feed 45 = .ok (.invokevirtual 90, 3) := by decide +kernel
theorem dX11_feed_48 : decode cX11_feed 48 = .ok (.aload_n 0, 1) := by decide +kernel
theorem dX11_feed_49 : decode cX11_feed 49 = .ok (.getfield 22, 3) := by decide +kernel
theorem dX11_feed_52 : decode cX11_feed 52 = .ok (.iload 5, 2) := by decide +kernel
theorem dX11_feed_54 : decode cX11_feed 54 = .ok (.invokevirtual 90, 3) := by decide +kernel
theorem dX11_feed_57 : decode cX11_feed 57 = .ok (.aload_n 0, 1) := by decide +kernel
theorem dX11_feed_58 : decode cX11_feed 58 = .ok (.getfield 22, 3) := by decide +kernel
theorem dX11_feed_61 : decode cX11_feed 61 = .ok (.getfield 86, 3) := by decide +kernel
theorem dX11_feed_64 : decode cX11_feed 64 = .ok (.ireturn, 1) := by decide +kernel
theorem dX11_end_0 : decode cX11_end 0 = .ok (.iload_n 1, 1) := by decide +kernel
theorem dX11_end_1 : decode cX11_end 1 = .ok (.ifCond .lt 14, 3) := by decide +kernel
theorem dX11_end_4 : decode cX11_end 4 = .ok (.iload_n 1, 1) := by decide +kernel
theorem dX11_end_5 : decode cX11_end 5 = .ok (.aload_n 0, 1) := by decide +kernel
theorem dX11_end_6 : decode cX11_end 6 = .ok (.getfield 22, 3) := by decide +kernel
theorem dX11_end_9 : decode cX11_end 9 = .ok (.getfield 86, 3) := by decide +kernel
theorem dX11_end_12 : decode cX11_end 12 = .ok (.if_icmp .le 5, 3) := by decide +kernel
theorem dX11_end_15 : decode cX11_end 15 = .ok (.iconst (-1), 1) := by decide +kernel
theorem dX11_end_16 : decode cX11_end 16 = .ok (.ireturn, 1) := by decide +kernel
theorem dX11_end_17 : decode cX11_end 17 = .ok (.aload_n 0, 1) := by decide +kernel
theorem dX11_end_18 : decode cX11_end 18 = .ok (.getfield 22, 3) := by decide +kernel
theorem dX11_end_21 : decode cX11_end 21 = .ok (.iload_n 1, 1) := by decide +kernel
theorem dX11_end_22 : decode cX11_end 22 = .ok (.putfield 86, 3) := by decide +kernel
theorem dX11_end_25 : decode cX11_end 25 = .ok (.iload_n 1, 1) := by decide +kernel
theorem dX11_end_26 : decode cX11_end 26 = .ok (.ireturn, 1) := by decide +kernel
theorem dX11_way_0 : decode cX11_way 0 = .ok (.aload_n 0, 1) := by decide +kernel
theorem dX11_way_1 : decode cX11_way 1 = .ok (.getfield 49, 3) := by decide +kernel
theorem dX11_way_4 : decode cX11_way 4 = .ok (.iconst 0, 1) := by decide +kernel
theorem dX11_way_5 : decode cX11_way 5 = .ok (.putfield 187, 3) := by decide +kernel
theorem dX11_way_8 : decode cX11_way 8 = .ok (.aload_n 0, 1) := by decide +kernel
theorem dX11_way_9 : decode cX11_way 9 = .ok (.iload_n 1, 1) := by decide +kernel
theorem dX11_way_10 : decode cX11_way 10 = .ok (.invokevirtual 110, 3) := by decide +kernel
theorem dX11_way_13 : decode cX11_way 13 = .ok (.ifCond .eq 11, 3) := by decide +kernel
theorem dX11_way_24 : decode cX11_way 24 = .ok (.iconst (-1), 1) := by decide +kernel
theorem dX11_way_25 : decode cX11_way 25 = .ok (.ireturn, 1) := by decide +kernel
theorem dX11_quiet_0 : decode cX11_quiet 0 = .ok (.aload_n 0, 1) := by decide +kernel
theorem dX11_quiet_1 : decode cX11_quiet 1 = .ok (.getfield 49, 3) := by decide +kernel
theorem dX11_quiet_4 : decode cX11_quiet 4 = .ok (.iconst 0, 1) := by decide +kernel
theorem dX11_quiet_5 : decode cX11_quiet 5 = .ok (.putfield 187, 3) := by decide +kernel
theorem dX11_quiet_8 : decode cX11_quiet 8 = .ok (.aload_n 0, 1) := by decide +kernel
theorem dX11_quiet_9 : decode cX11_quiet 9 = .ok (.iload_n 1, 1) := by decide +kernel
theorem dX11_quiet_10 : decode cX11_quiet 10 = .ok (.invokevirtual 110, 3) := by decide +kernel
theorem dX11_quiet_13 : decode cX11_quiet 13 = .ok (.ifCond .eq 11, 3) := by decide +kernel
theorem dX11_quiet_24 : decode cX11_quiet 24 = .ok (.iconst (-1), 1) := by decide +kernel
theorem dX11_quiet_25 : decode cX11_quiet 25 = .ok (.ireturn, 1) := by decide +kernel
theorem dX11_tour_0 : decode cX11_tour 0 = .ok (.aload_n 0, 1) := by decide +kernel
theorem dX11_tour_1 : decode cX11_tour 1 = .ok (.getfield 49, 3) := by decide +kernel
theorem dX11_tour_4 : decode cX11_tour 4 = .ok (.iconst 0, 1) := by decide +kernel
theorem dX11_tour_5 : decode cX11_tour 5 = .ok (.putfield 187, 3) := by decide +kernel
theorem dX11_tour_8 : decode cX11_tour 8 = .ok (.aload_n 0, 1) := by decide +kernel
theorem dX11_tour_9 : decode cX11_tour 9 = .ok (.iload_n 1, 1) := by decide +kernel
theorem dX11_tour_10 : decode cX11_tour 10 = .ok (.invokevirtual 110, 3) := by decide +kernel
theorem dX11_tour_13 : decode cX11_tour 13 = .ok (.ifCond .eq 11, 3) := by decide +kernel
theorem dX11_tour_24 : decode cX11_tour 24 = .ok (.iconst (-1), 1) := by decide +kernel
theorem dX11_tour_25 : decode cX11_tour 25 = .ok (.ireturn, 1) := by decide +kernel
theorem dX4_moveOn_0 : decode cX4_moveOn 0 = .ok (.iload_n 1, 1) := by decide +kernel
theorem dX4_moveOn_1 : decode cX4_moveOn 1 = .ok (.ifCond .lt 21, 3) := by decide +kernel
theorem dX4_moveOn_4 : decode cX4_moveOn 4 = .ok (.iload_n 1, 1) := by decide +kernel
theorem dX4_moveOn_5 : decode cX4_moveOn 5 = .ok (.sipush 1000, 3) := by decide +kernel
theorem dX4_moveOn_8 : decode cX4_moveOn 8 = .ok (.if_icmp .gt 14, 3) := by decide +kernel
theorem dX4_moveOn_11 : decode cX4_moveOn 11 = .ok (.iload_n 1, 1) := by decide +kernel
theorem dX4_moveOn_12 : decode cX4_moveOn 12 = .ok (.ldc 44, 2) := by decide +kernel
theorem dX4_moveOn_14 : decode cX4_moveOn 14 = .ok (.aload_n 0, 1) := by decide +kernel
theorem dX4_moveOn_15 : decode cX4_moveOn 15 = .ok (.getfield 41, 3) := by decide +kernel
theorem dX4_moveOn_18 : decode cX4_moveOn 18 = .ok (.isub, 1) := by decide +kernel
theorem dX4_moveOn_19 : decode cX4_moveOn 19 = .ok (.if_icmp .le 5, 3) := by decide +kernel
theorem dX4_moveOn_22 : decode cX4_moveOn 22 = .ok (.iconst (-1), 1) := by decide +kernel
theorem dX4_moveOn_23 : decode cX4_moveOn 23 = .ok (.ireturn, 1) := by decide +kernel
theorem dX4_moveOn_24 : decode cX4_moveOn 24 = .ok (.aload_n 0, 1) := by decide +kernel
theorem dX4_moveOn_25 : decode cX4_moveOn 25 = .ok (.dup, 1) := by decide +kernel
theorem dX4_moveOn_26 : decode cX4_moveOn 26 = .ok (.getfield 41, 3) := by decide +kernel
theorem dX4_moveOn_29 : decode cX4_moveOn 29 = .ok (.iload_n 1, 1) := by decide +kernel
theorem dX4_moveOn_30 : decode cX4_moveOn 30 = .ok (.iadd, 1) := by decide +kernel
theorem dX4_moveOn_31 : decode cX4_moveOn 31 = .ok (.putfield 41, 3) := by decide +kernel
theorem dX4_moveOn_34 : decode cX4_moveOn 34 = .ok (.aload_n 0, 1) := by decide +kernel
theorem dX4_moveOn_35 : decode cX4_moveOn 35 = .ok (.getfield 41, 3) := by decide +kernel
theorem dX4_moveOn_38 : decode cX4_moveOn 38 = .ok (.ireturn, 1) := by decide +kernel
theorem dX11_later_0 : decode cX11_later 0 = .ok (.aload_n 0, 1) := by decide +kernel
theorem dX11_later_1 : decode cX11_later 1 = .ok (.getfield 79, 3) := by decide +kernel
theorem dX11_later_4 : decode cX11_later 4 = .ok (.iload_n 1, 1) := by decide +kernel
theorem dX11_later_5 : decode cX11_later 5 = .ok (.invokevirtual 288, 3) := by decide +kernel
theorem dX11_later_8 : decode cX11_later 8 = .ok (.ireturn, 1) := by decide +kernel
theorem dX4_note_0 : decode cX4_note 0 = .ok (.aload_n 0, 1) := by decide +kernel
theorem dX4_note_1 : decode cX4_note 1 = .ok (.getfield 37, 3) := by decide +kernel
theorem dX4_note_4 : decode cX4_note 4 = .ok (.bipush 30, 2) := by decide +kernel
theorem dX4_note_6 : decode cX4_note 6 = .ok (.if_icmp .lt 5, 3) := by decide +kernel
theorem dX4_note_11 : decode cX4_note 11 = .ok (.aload_n 0, 1) := by decide +kernel
theorem dX4_note_12 : decode cX4_note 12 = .ok (.getfield 11, 3) := by decide +kernel
theorem dX4_note_15 : decode cX4_note 15 = .ok (.aload_n 0, 1) := by decide +kernel
theorem dX4_note_16 : decode cX4_note 16 = .ok (.getfield 37, 3) := by decide +kernel
theorem dX4_note_19 : decode cX4_note 19 = .ok (.iload_n 1, 1) := by decide +kernel
theorem dX4_note_20 : decode cX4_note 20 = .ok (.iastore, 1) := by decide +kernel
theorem dX4_note_21 : decode cX4_note 21 = .ok (.aload_n 0, 1) := by decide +kernel
theorem dX4_note_22 : decode cX4_note 22 = .ok (.getfield 15, 3) := by decide +kernel
theorem dX4_note_25 : decode cX4_note 25 = .ok (.aload_n 0, 1) := by decide +kernel
theorem dX4_note_26 : decode cX4_note 26 = .ok (.getfield 37, 3) := by decide +kernel
theorem dX4_note_29 : decode cX4_note 29 = .ok (.iload_n 3, 1) := by decide +kernel
theorem dX4_note_30 : decode cX4_note 30 = .ok (.ifCond .eq 7, 3) := by decide +kernel
theorem dX4_note_33 : decode cX4_note 33 = .ok (.iload_n 2, 1) := by decide +kernel
theorem dX4_note_34 : decode cX4_note 34 = .ok (.goto 6, 3) := by decide +kernel
theorem dX4_note_37 : decode cX4_note 37 = .ok (.iload_n 2, 1) := by decide +kernel
theorem dX4_note_38 : decode cX4_note 38 = .ok (.iconst (-1), 1) := by decide +kernel
theorem dX4_note_39 : decode cX4_note 39 = .ok (.ixor, 1) := by decide +kernel
theorem dX4_note_40 : decode cX4_note 40 = .ok (.iastore, 1) := by decide +kernel
theorem dX4_note_41 : decode cX4_note 41 = .ok (.aload_n 0, 1) := by decide +kernel
theorem dX4_note_42 : decode cX4_note 42 = .ok (.getfield 18, 3) := by decide +kernel
theorem dX4_note_45 : decode cX4_note 45 = .ok (.aload_n 0, 1) := by decide +kernel
theorem dX4_note_46 : decode cX4_note 46 = .ok (.getfield 37, 3) := by decide +kernel
theorem dX4_note_49 : decode cX4_note 49 = .ok (.aload_n 0, 1) := by decide +kernel
theorem dX4_note_50 : decode cX4_note 50 = .ok (.getfield 41, 3) := by decide +kernel
theorem dX4_note_53 : decode cX4_note 53 = .ok (.iastore, 1) := by decide +kernel
theorem dX4_note_54 : decode cX4_note 54 = .ok (.aload_n 0, 1) := by decide +kernel
theorem dX4_note_55 : decode cX4_note 55 = .ok (.getfield 21, 3) := by decide +kernel
theorem dX4_note_58 : decode cX4_note 58 = .ok (.aload_n 0, 1) := by decide +kernel
theorem dX4_note_59 : decode cX4_note 59 = .ok (.getfield 37, 3) := by decide +kernel
theorem dX4_note_62 : decode cX4_note 62 = .ok (.iconst (-1), 1) := by decide +kernel
theorem dX4_note_63 : decode cX4_note 63 = .ok (.iastore, 1) := by decide +kernel
theorem dX4_note_64 : decode cX4_note 64 = .ok (.aload_n 0, 1) := by decide +kernel
theorem dX4_note_65 : decode cX4_note 65 = .ok (.dup, 1) := by decide +kernel
theorem dX4_note_66 : decode cX4_note 66 = .ok (.getfield 37, 3) := by decide +kernel
theorem dX4_note_69 : decode cX4_note 69 = .ok (.iconst 1, 1) := by decide +kernel
theorem dX4_note_70 : decode cX4_note 70 = .ok (.iadd, 1) := by decide +kernel
theorem dX4_note_71 : decode cX4_note 71 = .ok (.putfield 37, 3) := by decide +kernel
theorem dX4_note_74 : decode cX4_note 74 = .ok (.aload_n 0, 1) := by decide +kernel
theorem dX4_note_75 : decode cX4_note 75 = .ok (.getfield 37, 3) := by decide +kernel
theorem dX4_note_78 : decode cX4_note 78 = .ok (.iconst 1, 1) := by decide +kernel
theorem dX4_note_79 : decode cX4_note 79 = .ok (.isub, 1) := by decide +kernel
theorem dX4_note_80 : decode cX4_note 80 = .ok (.ireturn, 1) := by decide +kernel
theorem dX11_heard_0 : decode cX11_heard 0 = .ok (.iload_n 2, 1) := by decide +kernel
theorem dX11_heard_1 : decode cX11_heard 1 = .ok (.ifCond .lt 16, 3) := by decide +kernel
theorem dX11_heard_4 : decode cX11_heard 4 = .ok (.iload_n 2, 1) := by decide +kernel
theorem dX11_heard_5 : decode cX11_heard 5 = .ok (.bipush 9, 2) := by decide +kernel
theorem dX11_heard_7 : decode cX11_heard 7 = .ok (.if_icmp .gt 10, 3) := by decide +kernel
theorem dX11_heard_10 : decode cX11_heard 10 = .ok (.iload_n 1, 1) := by decide +kernel
theorem dX11_heard_11 : decode cX11_heard 11 = .ok (.invokestatic 275, 3) := by decide +kernel
theorem dX11_heard_14 : decode cX11_heard 14 = .ok (.ifCond .ne 5, 3) := by decide +kernel
theorem dX11_heard_17 : decode cX11_heard 17 = .ok (.iconst (-1), 1) := by decide +kernel
theorem dX11_heard_18 : decode cX11_heard 18 = .ok (.ireturn, 1) := by decide +kernel
theorem dX11_heard_19 : decode cX11_heard 19 = .ok (.aload_n 0, 1) := by decide +kernel
theorem dX11_heard_20 : decode cX11_heard 20 = .ok (.getfield 79, 3) := by decide +kernel
theorem dX11_heard_23 : decode cX11_heard 23 = .ok (.iload_n 1, 1) := by decide +kernel
theorem dX11_heard_24 : decode cX11_heard 24 = .ok (.aload_n 0, 1) := by decide +kernel
theorem dX11_heard_25 : decode cX11_heard 25 = .ok (.getfield 40, 3) := by decide +kernel
theorem dX11_heard_28 : decode cX11_heard 28 = .ok (.iload_n 2, 1) := by decide +kernel
theorem dX11_heard_29 : decode cX11_heard 29 = .ok (.invokevirtual 278, 3) := by decide +kernel
theorem dX11_heard_32 : decode cX11_heard 32 = .ok (.iload_n 3, 1) := by decide +kernel
theorem dX11_heard_33 : decode cX11_heard 33 = .ok (.invokevirtual 281, 3) := by decide +kernel
theorem dX11_heard_36 : decode cX11_heard 36 = .ok (.ireturn, 1) := by decide +kernel
theorem dJ7_fill_53178_0 : decode cJ7_fill_53178 0 = .ok (.iconst 0, 1) := by decide +kernel
theorem dJ7_fill_53178_1 : decode cJ7_fill_53178 1 = .ok (.istore_n 2, 1) := by decide +kernel
theorem dJ7_fill_53178_2 : decode cJ7_fill_53178 2 = .ok (.aload_n 0, 1) := by decide +kernel
theorem dJ7_fill_53178_3 : decode cJ7_fill_53178 3 = .ok (.arraylength, 1) := by decide +kernel
theorem dJ7_fill_53178_4 : decode cJ7_fill_53178 4 = .ok (.istore_n 3, 1) := by decide +kernel
theorem dJ7_fill_53178_5 : decode cJ7_fill_53178 5 = .ok (.iload_n 2, 1) := by decide +kernel
theorem dJ7_fill_53178_6 : decode cJ7_fill_53178 6 = .ok (.iload_n 3, 1) := by decide +kernel
theorem dJ7_fill_53178_7 : decode cJ7_fill_53178 7 = .ok (.if_icmp .ge 13, 3) := by decide +kernel
theorem dJ7_fill_53178_10 : decode cJ7_fill_53178 10 = .ok (.aload_n 0, 1) := by decide +kernel
theorem dJ7_fill_53178_11 : decode cJ7_fill_53178 11 = .ok (.iload_n 2, 1) := by decide +kernel
theorem dJ7_fill_53178_12 : decode cJ7_fill_53178 12 = .ok (.iload_n 1, 1) := by decide +kernel
theorem dJ7_fill_53178_13 : decode cJ7_fill_53178 13 = .ok (.iastore, 1) := by decide +kernel
theorem dJ7_fill_53178_14 : decode cJ7_fill_53178 14 = .ok (.iinc 2 1, 3) := by decide +kernel
theorem dJ7_fill_53178_17 : decode cJ7_fill_53178 17 = .ok (.goto (-12), 3) := by decide +kernel
theorem dJ7_fill_53178_20 : decode cJ7_fill_53178 20 = .ok (.return_, 1) := by decide +kernel
theorem dX4_openRooms_0 : decode cX4_openRooms 0 = .ok (.aload_n 0, 1) := by decide +kernel
theorem dX4_openRooms_1 : decode cX4_openRooms 1 = .ok (.getfield 24, 3) := by decide +kernel
theorem dX4_openRooms_4 : decode cX4_openRooms 4 = .ok (.iconst (-1), 1) := by decide +kernel
theorem dX4_openRooms_5 : decode cX4_openRooms 5 = .ok (.invokestatic 82, 3) := by decide +kernel
theorem dX4_openRooms_8 : decode cX4_openRooms 8 = .ok (.iconst 0, 1) := by decide +kernel
theorem dX4_openRooms_9 : decode cX4_openRooms 9 = .ok (.istore_n 2, 1) := by decide +kernel
theorem dX4_openRooms_10 : decode cX4_openRooms 10 = .ok (.iload_n 2, 1) := by decide +kernel
theorem dX4_openRooms_11 : decode cX4_openRooms 11 = .ok (.aload_n 0, 1) := by decide +kernel
theorem dX4_openRooms_12 : decode cX4_openRooms 12 = .ok (.getfield 37, 3) := by decide +kernel
theorem dX4_openRooms_15 : decode cX4_openRooms 15 = .ok (.if_icmp .ge 69, 3) := by decide +kernel
theorem dX4_openRooms_84 : decode cX4_openRooms 84 = .ok (.return_, 1) := by decide +kernel
theorem dX4_countWalks_0 : decode cX4_countWalks 0 = .ok (.aload_n 0, 1) := by decide +kernel
theorem dX4_countWalks_1 : decode cX4_countWalks 1 = .ok (.iload_n 1, 1) := by decide +kernel
theorem dX4_countWalks_2 : decode cX4_countWalks 2 = .ok (.invokevirtual 45, 3) := by decide +kernel
theorem dX4_countWalks_5 : decode cX4_countWalks 5 = .ok (.iconst 0, 1) := by decide +kernel
theorem dX4_countWalks_6 : decode cX4_countWalks 6 = .ok (.istore_n 2, 1) := by decide +kernel
theorem dX4_countWalks_7 : decode cX4_countWalks 7 = .ok (.iload_n 2, 1) := by decide +kernel
theorem dX4_countWalks_8 : decode cX4_countWalks 8 = .ok (.bipush 8, 2) := by decide +kernel
theorem dX4_countWalks_10 : decode cX4_countWalks 10 = .ok (.if_icmp .ge 61, 3) := by decide +kernel
theorem dX4_countWalks_13 : decode cX4_countWalks 13 = .ok (.iconst 0, 1) := by decide +kernel
theorem dX4_countWalks_14 : decode cX4_countWalks 14 = .ok (.istore_n 3, 1) := by decide +kernel
theorem dX4_countWalks_15 : decode cX4_countWalks 15 = .ok (.iload_n 3, 1) := by decide +kernel
theorem dX4_countWalks_16 : decode cX4_countWalks 16 = .ok (.aload_n 0, 1) := by decide +kernel
theorem dX4_countWalks_17 : decode cX4_countWalks 17 = .ok (.getfield 33, 3) := by decide +kernel
theorem dX4_countWalks_20 : decode cX4_countWalks 20 = .ok (.getfield 49, 3) := by decide +kernel
theorem dX4_countWalks_23 : decode cX4_countWalks 23 = .ok (.getfield 55, 3) := by decide +kernel
theorem dX4_countWalks_26 : decode cX4_countWalks 26 = .ok (.if_icmp .ge 39, 3) := by decide +kernel
theorem dX4_countWalks_65 : decode cX4_countWalks 65 = .ok (.iinc 2 1, 3) := by decide +kernel
theorem dX4_countWalks_68 : decode cX4_countWalks 68 = .ok (.goto (-61), 3) := by decide +kernel
theorem dX4_countWalks_71 : decode cX4_countWalks 71 = .ok (.bipush 7, 2) := by decide +kernel
theorem dX4_countWalks_73 : decode cX4_countWalks 73 = .ok (.istore_n 2, 1) := by decide +kernel
theorem dX4_countWalks_74 : decode cX4_countWalks 74 = .ok (.iload_n 2, 1) := by decide +kernel
theorem dX4_countWalks_75 : decode cX4_countWalks 75 = .ok (.ifCond .lt 61, 3) := by decide +kernel
theorem dX4_countWalks_78 : decode cX4_countWalks 78 = .ok (.iconst 0, 1) := by decide +kernel
theorem dX4_countWalks_79 : decode cX4_countWalks 79 = .ok (.istore_n 3, 1) := by decide +kernel
theorem dX4_countWalks_80 : decode cX4_countWalks 80 = .ok (.iload_n 3, 1) := by decide +kernel
theorem dX4_countWalks_81 : decode cX4_countWalks 81 = .ok (.aload_n 0, 1) := by decide +kernel
theorem dX4_countWalks_82 : decode cX4_countWalks 82 = .ok (.getfield 33, 3) := by decide +kernel
theorem dX4_countWalks_85 : decode cX4_countWalks 85 = .ok (.getfield 49, 3) := by decide +kernel
theorem dX4_countWalks_88 : decode cX4_countWalks 88 = .ok (.getfield 55, 3) := by decide +kernel
theorem dX4_countWalks_91 : decode cX4_countWalks 91 = .ok (.if_icmp .ge 39, 3) := by decide +kernel
theorem dX4_countWalks_130 : decode cX4_countWalks 130 = .ok (.iinc 2 (-1), 3) := by decide +kernel
theorem dX4_countWalks_133 : decode cX4_countWalks 133 = .ok (.goto (-59), 3) := by decide +kernel
theorem dX4_countWalks_136 : decode cX4_countWalks 136 = .ok (.iconst 0, 1) := by decide +kernel
theorem dX4_countWalks_137 : decode cX4_countWalks 137 = .ok (.istore_n 2, 1) := by decide +kernel
theorem dX4_countWalks_138 : decode cX4_countWalks 138 = .ok (.iconst 0, 1) := by decide +kernel
theorem dX4_countWalks_139 : decode cX4_countWalks 139 = .ok (.istore_n 3, 1) := by decide +kernel
theorem dX4_countWalks_140 : decode cX4_countWalks 140 = .ok (.iload_n 3, 1) := by decide +kernel
theorem dX4_countWalks_141 : decode cX4_countWalks 141 = .ok (.aload_n 0, 1) := by decide +kernel
theorem dX4_countWalks_142 : decode cX4_countWalks 142 = .ok (.getfield 33, 3) := by decide +kernel
theorem dX4_countWalks_145 : decode cX4_countWalks 145 = .ok (.getfield 49, 3) := by decide +kernel
theorem dX4_countWalks_148 : decode cX4_countWalks 148 = .ok (.getfield 55, 3) := by decide +kernel
theorem dX4_countWalks_151 : decode cX4_countWalks 151 = .ok (.if_icmp .ge 18, 3) := by decide +kernel
theorem dX4_countWalks_169 : decode cX4_countWalks 169 = .ok (.iload_n 2, 1) := by decide +kernel
theorem dX4_countWalks_170 : decode cX4_countWalks 170 = .ok (.ireturn, 1) := by decide +kernel
theorem dX11_walks_0 : decode cX11_walks 0 = .ok (.aload_n 0, 1) := by decide +kernel
theorem dX11_walks_1 : decode cX11_walks 1 = .ok (.getfield 79, 3) := by decide +kernel
theorem dX11_walks_4 : decode cX11_walks 4 = .ok (.iload_n 1, 1) := by decide +kernel
theorem dX11_walks_5 : decode cX11_walks 5 = .ok (.invokevirtual 291, 3) := by decide +kernel
theorem dX11_walks_8 : decode cX11_walks 8 = .ok (.ireturn, 1) := by decide +kernel
theorem dX11_certain_0 : decode cX11_certain 0 = .ok (.iload_n 1, 1) := by decide +kernel
theorem dX11_certain_1 : decode cX11_certain 1 = .ok (.invokestatic 275, 3) := by decide +kernel
theorem dX11_certain_4 : decode cX11_certain 4 = .ok (.ifCond .eq 14, 3) := by decide +kernel
theorem dX11_certain_7 : decode cX11_certain 7 = .ok (.aload_n 0, 1) := by decide +kernel
theorem dX11_certain_8 : decode cX11_certain 8 = .ok (.getfield 79, 3) := by decide +kernel
theorem dX11_certain_11 : decode cX11_certain 11 = .ok (.iload_n 2, 1) := by decide +kernel
theorem dX11_certain_12 : decode cX11_certain 12 = .ok (.invokevirtual 291, 3) := by decide +kernel
theorem dX11_certain_15 : decode cX11_certain 15 = .ok (.ifCond .ne 5, 3) := by decide +kernel
theorem dX11_certain_18 : decode cX11_certain 18 = .ok (.iconst (-1), 1) := by decide +kernel
theorem dX11_certain_19 : decode cX11_certain 19 = .ok (.ireturn, 1) := by decide +kernel
theorem dX11_ask_0 : decode cX11_ask 0 = .ok (.aload_n 0, 1) := by decide +kernel
theorem dX11_ask_1 : decode cX11_ask 1 = .ok (.getfield 79, 3) := by decide +kernel
theorem dX11_ask_4 : decode cX11_ask 4 = .ok (.iload_n 2, 1) := by decide +kernel
theorem dX11_ask_5 : decode cX11_ask 5 = .ok (.invokevirtual 291, 3) := by decide +kernel
theorem dX11_ask_8 : decode cX11_ask 8 = .ok (.ifCond .ne 5, 3) := by decide +kernel
theorem dX11_ask_11 : decode cX11_ask 11 = .ok (.iconst (-1), 1) := by decide +kernel
theorem dX11_ask_12 : decode cX11_ask 12 = .ok (.ireturn, 1) := by decide +kernel
theorem dX3_passDay_0 : decode cX3_passDay 0 = .ok (.iconst 0, 1) := by decide +kernel
theorem dX3_passDay_1 : decode cX3_passDay 1 = .ok (.istore_n 2, 1) := by decide +kernel
theorem dX3_passDay_2 : decode cX3_passDay 2 = .ok (.iconst 1, 1) := by decide +kernel
theorem dX3_passDay_3 : decode cX3_passDay 3 = .ok (.aload_n 0, 1) := by decide +kernel
theorem dX3_passDay_4 : decode cX3_passDay 4 = .ok (.getfield 30, 3) := by decide +kernel
theorem dX3_passDay_7 : decode cX3_passDay 7 = .ok (.getfield 34, 3) := by decide +kernel
theorem dX3_passDay_10 : decode cX3_passDay 10 = .ok (.getfield 105, 3) := by decide +kernel
theorem dX3_passDay_13 : decode cX3_passDay 13 = .ok (.invokestatic 102, 3) := by decide +kernel
theorem dX3_passDay_16 : decode cX3_passDay 16 = .ok (.istore_n 3, 1) := by decide +kernel
theorem dX3_passDay_17 : decode cX3_passDay 17 = .ok (.iconst 0, 1) := by decide +kernel
theorem dX3_passDay_18 : decode cX3_passDay 18 = .ok (.istore 4, 2) := by decide +kernel
theorem dX3_passDay_20 : decode cX3_passDay 20 = .ok (.iload 4, 2) := by decide +kernel
theorem dX3_passDay_22 : decode cX3_passDay 22 = .ok (.aload_n 0, 1) := by decide +kernel
theorem dX3_passDay_23 : decode cX3_passDay 23 = .ok (.getfield 30, 3) := by decide +kernel
theorem dX3_passDay_26 : decode cX3_passDay 26 = .ok (.getfield 34, 3) := by decide +kernel
theorem dX3_passDay_29 : decode cX3_passDay 29 = .ok (.getfield 40, 3) := by decide +kernel
theorem dX3_passDay_32 : decode cX3_passDay 32 = .ok (.if_icmp .ge 74, 3) := by decide +kernel
theorem dX3_passDay_106 : decode cX3_passDay 106 = .ok (.aload_n 1, 1) := by decide +kernel
theorem dX3_passDay_107 : decode cX3_passDay 107 = .ok (.bipush 30, 2) := by decide +kernel
theorem dX3_passDay_109 : decode cX3_passDay 109 = .ok (.dup2, 1) := by decide +kernel
theorem dX3_passDay_110 : decode cX3_passDay 110 = .ok (.iaload, 1) := by decide +kernel
theorem dX3_passDay_111 : decode cX3_passDay 111 = .ok (.iconst 1, 1) := by decide +kernel
theorem dX3_passDay_112 : decode cX3_passDay 112 = .ok (.iadd, 1) := by decide +kernel
theorem dX3_passDay_113 : decode cX3_passDay 113 = .ok (.iastore, 1) := by decide +kernel
theorem dX3_passDay_114 : decode cX3_passDay 114 = .ok (.iload_n 2, 1) := by decide +kernel
theorem dX3_passDay_115 : decode cX3_passDay 115 = .ok (.ireturn, 1) := by decide +kernel
theorem dX3_forgetActs_0 : decode cX3_forgetActs 0 = .ok (.aload_n 0, 1) := by decide +kernel
theorem dX3_forgetActs_1 : decode cX3_forgetActs 1 = .ok (.iconst 0, 1) := by decide +kernel
theorem dX3_forgetActs_2 : decode cX3_forgetActs 2 = .ok (.putfield 134, 3) := by decide +kernel
theorem dX3_forgetActs_5 : decode cX3_forgetActs 5 = .ok (.aload_n 0, 1) := by decide +kernel
theorem dX3_forgetActs_6 : decode cX3_forgetActs 6 = .ok (.iconst 0, 1) := by decide +kernel
theorem dX3_forgetActs_7 : decode cX3_forgetActs 7 = .ok (.putfield 131, 3) := by decide +kernel
theorem dX3_forgetActs_10 : decode cX3_forgetActs 10 = .ok (.aload_n 0, 1) := by decide +kernel
theorem dX3_forgetActs_11 : decode cX3_forgetActs 11 = .ok (.iconst 0, 1) := by decide +kernel
theorem dX3_forgetActs_12 : decode cX3_forgetActs 12 = .ok (.putfield 128, 3) := by decide +kernel
theorem dX3_forgetActs_15 : decode cX3_forgetActs 15 = .ok (.aload_n 0, 1) := by decide +kernel
theorem dX3_forgetActs_16 : decode cX3_forgetActs 16 = .ok (.getfield 11, 3) := by decide +kernel
theorem dX3_forgetActs_19 : decode cX3_forgetActs 19 = .ok (.iconst 0, 1) := by decide +kernel
theorem dX3_forgetActs_20 : decode cX3_forgetActs 20 = .ok (.aload_n 0, 1) := by decide +kernel
theorem dX3_forgetActs_21 : decode cX3_forgetActs 21 = .ok (.getfield 20, 3) := by decide +kernel
theorem dX3_forgetActs_24 : decode cX3_forgetActs 24 = .ok (.iconst 0, 1) := by decide +kernel
theorem dX3_forgetActs_25 : decode cX3_forgetActs 25 = .ok (.aaload, 1) := by decide +kernel
theorem dX3_forgetActs_26 : decode cX3_forgetActs 26 = .ok (.iconst 0, 1) := by decide +kernel
theorem dX3_forgetActs_27 : decode cX3_forgetActs 27 = .ok (.bipush 32, 2) := by decide +kernel
theorem dX3_forgetActs_29 : decode cX3_forgetActs 29 = .ok (.invokestatic 115, 3) := by decide +kernel
theorem dX3_forgetActs_32 : decode cX3_forgetActs 32 = .ok (.return_, 1) := by decide +kernel
theorem dX3_begin_0 : decode cX3_begin 0 = .ok (.aload_n 0, 1) := by decide +kernel
theorem dX3_begin_1 : decode cX3_begin 1 = .ok (.getfield 30, 3) := by decide +kernel
theorem dX3_begin_4 : decode cX3_begin 4 = .ok (.getfield 34, 3) := by decide +kernel
theorem dX3_begin_7 : decode cX3_begin 7 = .ok (.astore_n 1, 1) := by decide +kernel
theorem dX3_begin_8 : decode cX3_begin 8 = .ok (.iconst 0, 1) := by decide +kernel
theorem dX3_begin_9 : decode cX3_begin 9 = .ok (.istore_n 2, 1) := by decide +kernel
theorem dX3_begin_10 : decode cX3_begin 10 = .ok (.iload_n 2, 1) := by decide +kernel
theorem dX3_begin_11 : decode cX3_begin 11 = .ok (.aload_n 1, 1) := by decide +kernel
theorem dX3_begin_12 : decode cX3_begin 12 = .ok (.getfield 40, 3) := by decide +kernel
theorem dX3_begin_15 : decode cX3_begin 15 = .ok (.if_icmp .ge 73, 3) := by decide +kernel
theorem dX3_begin_88 : decode cX3_begin 88 = .ok (.aload_n 0, 1) := by decide +kernel
theorem dX3_begin_89 : decode cX3_begin 89 = .ok (.getfield 11, 3) := by decide +kernel
theorem dX3_begin_92 : decode cX3_begin 92 = .ok (.bipush 30, 2) := by decide +kernel
theorem dX3_begin_94 : decode cX3_begin 94 = .ok (.iconst 0, 1) := by decide +kernel
theorem dX3_begin_95 : decode cX3_begin 95 = .ok (.iastore, 1) := by decide +kernel
theorem dX3_begin_96 : decode cX3_begin 96 = .ok (.aload_n 0, 1) := by decide +kernel
theorem dX3_begin_97 : decode cX3_begin 97 = .ok (.getfield 11, 3) := by decide +kernel
theorem dX3_begin_100 : decode cX3_begin 100 = .ok (.bipush 31, 2) := by decide +kernel
theorem dX3_begin_102 : decode cX3_begin 102 = .ok (.aload_n 1, 1) := by decide +kernel
theorem dX3_begin_103 : decode cX3_begin 103 = .ok (.getfield 55, 3) := by decide +kernel
theorem dX3_begin_106 : decode cX3_begin 106 = .ok (.iastore, 1) := by decide +kernel
theorem dX3_begin_107 : decode cX3_begin 107 = .ok (.iconst 0, 1) := by decide +kernel
theorem dX3_begin_108 : decode cX3_begin 108 = .ok (.istore_n 2, 1) := by decide +kernel
theorem dX3_begin_109 : decode cX3_begin 109 = .ok (.iload_n 2, 1) := by decide +kernel
theorem dX3_begin_110 : decode cX3_begin 110 = .ok (.iconst 3, 1) := by decide +kernel
theorem dX3_begin_111 : decode cX3_begin 111 = .ok (.if_icmp .ge 16, 3) := by decide +kernel
theorem dX3_begin_114 : decode cX3_begin 114 = .ok (.aload_n 0, 1) := by decide +kernel
theorem dX3_begin_115 : decode cX3_begin 115 = .ok (.getfield 26, 3) := by decide +kernel
theorem dX3_begin_118 : decode cX3_begin 118 = .ok (.iload_n 2, 1) := by decide +kernel
theorem dX3_begin_119 : decode cX3_begin 119 = .ok (.iconst 0, 1) := by decide +kernel
theorem dX3_begin_120 : decode cX3_begin 120 = .ok (.bastore, 1) := by decide +kernel
theorem dX3_begin_121 : decode cX3_begin 121 = .ok (.iinc 2 1, 3) := by decide +kernel
theorem dX3_begin_124 : decode cX3_begin 124 = .ok (.goto (-15), 3) := by decide +kernel
theorem dX3_begin_127 : decode cX3_begin 127 = .ok (.aload_n 0, 1) := by decide +kernel
theorem dX3_begin_128 : decode cX3_begin 128 = .ok (.invokevirtual 58, 3) := by decide +kernel
theorem dX3_begin_131 : decode cX3_begin 131 = .ok (.return_, 1) := by decide +kernel
theorem dX0_build_0 : decode cX0_build 0 = .ok (.aload_n 0, 1) := by decide +kernel
theorem dX0_build_1 : decode cX0_build 1 = .ok (.aload_n 1, 1) := by decide +kernel
theorem dX0_build_2 : decode cX0_build 2 = .ok (.putfield 21, 3) := by decide +kernel
theorem dX0_build_5 : decode cX0_build 5 = .ok (.aload_n 0, 1) := by decide +kernel
theorem dX0_build_6 : decode cX0_build 6 = .ok (.getfield 9, 3) := by decide +kernel
theorem dX0_build_9 : decode cX0_build 9 = .ok (.iconst 0, 1) := by decide +kernel
theorem dX0_build_10 : decode cX0_build 10 = .ok (.invokestatic 25, 3) := by decide +kernel
theorem dX0_build_13 : decode cX0_build 13 = .ok (.iconst 0, 1) := by decide +kernel
theorem dX0_build_14 : decode cX0_build 14 = .ok (.istore_n 2, 1) := by decide +kernel
theorem dX0_build_15 : decode cX0_build 15 = .ok (.iload_n 2, 1) := by decide +kernel
theorem dX0_build_16 : decode cX0_build 16 = .ok (.aload_n 0, 1) := by decide +kernel
theorem dX0_build_17 : decode cX0_build 17 = .ok (.getfield 21, 3) := by decide +kernel
theorem dX0_build_20 : decode cX0_build 20 = .ok (.getfield 31, 3) := by decide +kernel
theorem dX0_build_23 : decode cX0_build 23 = .ok (.if_icmp .ge 65, 3) := by decide +kernel
theorem dX0_build_88 : decode cX0_build 88 = .ok (.aload_n 0, 1) := by decide +kernel
theorem dX0_build_89 : decode cX0_build 89 = .ok (.getfield 15, 3) := by decide +kernel
theorem dX0_build_92 : decode cX0_build 92 = .ok (.iconst (-1), 1) := by decide +kernel
theorem dX0_build_93 : decode cX0_build 93 = .ok (.invokestatic 25, 3) := by decide +kernel
theorem dX0_build_96 : decode cX0_build 96 = .ok (.iconst 0, 1) := by decide +kernel
theorem dX0_build_97 : decode cX0_build 97 = .ok (.istore_n 2, 1) := by decide +kernel
theorem dX0_build_98 : decode cX0_build 98 = .ok (.iload_n 2, 1) := by decide +kernel
theorem dX0_build_99 : decode cX0_build 99 = .ok (.aload_n 0, 1) := by decide +kernel
theorem dX0_build_100 : decode cX0_build 100 = .ok (.getfield 21, 3) := by decide +kernel
theorem dX0_build_103 : decode cX0_build 103 = .ok (.getfield 43, 3) := by decide +kernel
theorem dX0_build_106 : decode cX0_build 106 = .ok (.if_icmp .ge 14, 3) := by decide +kernel
theorem dX0_build_120 : decode cX0_build 120 = .ok (.aload_n 0, 1) := by decide +kernel
theorem dX0_build_121 : decode cX0_build 121 = .ok (.iconst 0, 1) := by decide +kernel
theorem dX0_build_122 : decode cX0_build 122 = .ok (.putfield 50, 3) := by decide +kernel
theorem dX0_build_125 : decode cX0_build 125 = .ok (.iconst 0, 1) := by decide +kernel
theorem dX0_build_126 : decode cX0_build 126 = .ok (.istore_n 2, 1) := by decide +kernel
theorem dX0_build_127 : decode cX0_build 127 = .ok (.iload_n 2, 1) := by decide +kernel
theorem dX0_build_128 : decode cX0_build 128 = .ok (.aload_n 0, 1) := by decide +kernel
theorem dX0_build_129 : decode cX0_build 129 = .ok (.getfield 21, 3) := by decide +kernel
theorem dX0_build_132 : decode cX0_build 132 = .ok (.getfield 31, 3) := by decide +kernel
theorem dX0_build_135 : decode cX0_build 135 = .ok (.if_icmp .ge 53, 3) := by decide +kernel
theorem dX0_build_188 : decode cX0_build 188 = .ok (.return_, 1) := by decide +kernel
theorem dX11_takeUp_0 : decode cX11_takeUp 0 = .ok (.aload_n 0, 1) := by decide +kernel
theorem dX11_takeUp_1 : decode cX11_takeUp 1 = .ok (.getfield 40, 3) := by decide +kernel
theorem dX11_takeUp_4 : decode cX11_takeUp 4 = .ok (.aload_n 0, 1) := by decide +kernel
theorem dX11_takeUp_5 : decode cX11_takeUp 5 = .ok (.getfield 10, 3) := by decide +kernel
theorem dX11_takeUp_8 : decode cX11_takeUp 8 = .ok (.invokevirtual 333, 3) := by decide +kernel
theorem dX11_takeUp_11 : decode cX11_takeUp 11 = .ok (.aload_n 0, 1) := by decide +kernel
theorem dX11_takeUp_12 : decode cX11_takeUp 12 = .ok (.getfield 63, 3) := by decide +kernel
theorem dX11_takeUp_15 : decode cX11_takeUp 15 = .ok (.invokevirtual 336, 3) := by decide +kernel
theorem dX11_takeUp_18 : decode cX11_takeUp 18 = .ok (.aload_n 0, 1) := by decide +kernel
theorem dX11_takeUp_19 : decode cX11_takeUp 19 = .ok (.getfield 79, 3) := by decide +kernel
theorem dX11_takeUp_22 : decode cX11_takeUp 22 = .ok (.iconst 0, 1) := by decide +kernel
theorem dX11_takeUp_23 : decode cX11_takeUp 23 = .ok (.putfield 318, 3) := by decide +kernel
theorem dX11_takeUp_26 : decode cX11_takeUp 26 = .ok (.aload_n 0, 1) := by decide +kernel
theorem dX11_takeUp_27 : decode cX11_takeUp 27 = .ok (.getfield 49, 3) := by decide +kernel
theorem dX11_takeUp_30 : decode cX11_takeUp 30 = .ok (.iconst 0, 1) := by decide +kernel
theorem dX11_takeUp_31 : decode cX11_takeUp 31 = .ok (.putfield 187, 3) := by decide +kernel
theorem dX11_takeUp_34 : decode cX11_takeUp 34 = .ok (.return_, 1) := by decide +kernel
theorem dX3_keepAct_0 : decode cX3_keepAct 0 = .ok (.aload_n 0, 1) := by decide +kernel
theorem dX3_keepAct_1 : decode cX3_keepAct 1 = .ok (.iconst 0, 1) := by decide +kernel
theorem dX3_keepAct_2 : decode cX3_keepAct 2 = .ok (.putfield 128, 3) := by decide +kernel
theorem dX3_keepAct_5 : decode cX3_keepAct 5 = .ok (.aload_n 0, 1) := by decide +kernel
theorem dX3_keepAct_6 : decode cX3_keepAct 6 = .ok (.getfield 131, 3) := by decide +kernel
theorem dX3_keepAct_9 : decode cX3_keepAct 9 = .ok (.bipush 40, 2) := by decide +kernel
theorem dX3_keepAct_11 : decode cX3_keepAct 11 = .ok (.if_icmp .ge 16, 3) := by decide +kernel
theorem dX3_keepAct_14 : decode cX3_keepAct 14 = .ok (.aload_n 0, 1) := by decide +kernel
theorem dX3_keepAct_15 : decode cX3_keepAct 15 = .ok (.dup, 1) := by decide +kernel
theorem dX3_keepAct_16 : decode cX3_keepAct 16 = .ok (.getfield 131, 3) := by decide +kernel
theorem dX3_keepAct_19 : decode cX3_keepAct 19 = .ok (.iconst 1, 1) := by decide +kernel
theorem dX3_keepAct_20 : decode cX3_keepAct 20 = .ok (.iadd, 1) := by decide +kernel
theorem dX3_keepAct_21 : decode cX3_keepAct 21 = .ok (.putfield 131, 3) := by decide +kernel
theorem dX3_keepAct_24 : decode cX3_keepAct 24 = .ok (.goto 16, 3) := by decide +kernel
theorem dX3_keepAct_40 : decode cX3_keepAct 40 = .ok (.aload_n 0, 1) := by decide +kernel
theorem dX3_keepAct_41 : decode cX3_keepAct 41 = .ok (.getfield 11, 3) := by decide +kernel
theorem dX3_keepAct_44 : decode cX3_keepAct 44 = .ok (.iconst 0, 1) := by decide +kernel
theorem dX3_keepAct_45 : decode cX3_keepAct 45 = .ok (.aload_n 0, 1) := by decide +kernel
theorem dX3_keepAct_46 : decode cX3_keepAct 46 = .ok (.getfield 20, 3) := by decide +kernel
theorem dX3_keepAct_49 : decode cX3_keepAct 49 = .ok (.aload_n 0, 1) := by decide +kernel
theorem dX3_keepAct_50 : decode cX3_keepAct 50 = .ok (.getfield 134, 3) := by decide +kernel
theorem dX3_keepAct_53 : decode cX3_keepAct 53 = .ok (.aload_n 0, 1) := by decide +kernel
theorem dX3_keepAct_54 : decode cX3_keepAct 54 = .ok (.getfield 131, 3) := by decide +kernel
theorem dX3_keepAct_57 : decode cX3_keepAct 57 = .ok (.iadd, 1) := by decide +kernel
theorem dX3_keepAct_58 : decode cX3_keepAct 58 = .ok (.bipush 41, 2) := by decide +kernel
theorem dX3_keepAct_60 : decode cX3_keepAct 60 = .ok (.irem, 1) := by decide +kernel
theorem dX3_keepAct_61 : decode cX3_keepAct 61 = .ok (.aaload, 1) := by decide +kernel
theorem dX3_keepAct_62 : decode cX3_keepAct 62 = .ok (.iconst 0, 1) := by decide +kernel
theorem dX3_keepAct_63 : decode cX3_keepAct 63 = .ok (.bipush 32, 2) := by decide +kernel
theorem dX3_keepAct_65 : decode cX3_keepAct 65 = .ok (.invokestatic 115, 3) := by decide +kernel
theorem dX3_keepAct_68 : decode cX3_keepAct 68 = .ok (.return_, 1) := by decide +kernel
theorem dX11_day_0 : decode cX11_day 0 = .ok (.aload_n 0, 1) := by decide +kernel
theorem dX11_day_1 : decode cX11_day 1 = .ok (.getfield 63, 3) := by decide +kernel
theorem dX11_day_4 : decode cX11_day 4 = .ok (.getfield 128, 3) := by decide +kernel
theorem dX11_day_7 : decode cX11_day 7 = .ok (.bipush 30, 2) := by decide +kernel
theorem dX11_day_9 : decode cX11_day 9 = .ok (.iaload, 1) := by decide +kernel
theorem dX11_day_10 : decode cX11_day 10 = .ok (.sipush 999, 3) := by decide +kernel
theorem dX11_day_13 : decode cX11_day 13 = .ok (.if_icmp .lt 5, 3) := by decide +kernel
theorem dX11_day_18 : decode cX11_day 18 = .ok (.aload_n 0, 1) := by decide +kernel
theorem dX11_day_19 : decode cX11_day 19 = .ok (.getfield 63, 3) := by decide +kernel
theorem dX11_day_22 : decode cX11_day 22 = .ok (.aload_n 0, 1) := by decide +kernel
theorem dX11_day_23 : decode cX11_day 23 = .ok (.getfield 63, 3) := by decide +kernel
theorem dX11_day_26 : decode cX11_day 26 = .ok (.getfield 128, 3) := by decide +kernel
theorem dX11_day_29 : decode cX11_day 29 = .ok (.invokevirtual 176, 3) := by decide +kernel
theorem dX11_day_32 : decode cX11_day 32 = .ok (.istore_n 1, 1) := by decide +kernel
theorem dX11_day_33 : decode cX11_day 33 = .ok (.aload_n 0, 1) := by decide +kernel
theorem dX11_day_34 : decode cX11_day 34 = .ok (.getfield 63, 3) := by decide +kernel
theorem dX11_day_37 : decode cX11_day 37 = .ok (.invokevirtual 163, 3) := by decide +kernel
theorem dX11_day_40 : decode cX11_day 40 = .ok (.iload_n 1, 1) := by decide +kernel
theorem dX11_day_41 : decode cX11_day 41 = .ok (.ireturn, 1) := by decide +kernel
theorem dX3_putInBox_0 : decode cX3_putInBox 0 = .ok (.iload_n 1, 1) := by decide +kernel
theorem dX3_putInBox_1 : decode cX3_putInBox 1 = .ok (.ifCond .lt 8, 3) := by decide +kernel
theorem dX3_putInBox_4 : decode cX3_putInBox 4 = .ok (.iload_n 1, 1) := by decide +kernel
theorem dX3_putInBox_5 : decode cX3_putInBox 5 = .ok (.iconst 3, 1) := by decide +kernel
theorem dX3_putInBox_6 : decode cX3_putInBox 6 = .ok (.if_icmp .lt 5, 3) := by decide +kernel
theorem dX3_putInBox_9 : decode cX3_putInBox 9 = .ok (.iconst (-1), 1) := by decide +kernel
theorem dX3_putInBox_10 : decode cX3_putInBox 10 = .ok (.ireturn, 1) := by decide +kernel
theorem dX3_putInBox_11 : decode cX3_putInBox 11 = .ok (.aload_n 0, 1) := by decide +kernel
theorem dX3_putInBox_12 : decode cX3_putInBox 12 = .ok (.getfield 11, 3) := by decide +kernel
theorem dX3_putInBox_15 : decode cX3_putInBox 15 = .ok (.iconst 0, 1) := by decide +kernel
theorem dX3_putInBox_16 : decode cX3_putInBox 16 = .ok (.aload_n 0, 1) := by decide +kernel
theorem dX3_putInBox_17 : decode cX3_putInBox 17 = .ok (.getfield 23, 3) := by decide +kernel
theorem dX3_putInBox_20 : decode cX3_putInBox 20 = .ok (.iload_n 1, 1) := by decide +kernel
theorem dX3_putInBox_21 : decode cX3_putInBox 21 = .ok (.aaload, 1) := by decide +kernel
theorem dX3_putInBox_22 : decode cX3_putInBox 22 = .ok (.iconst 0, 1) := by decide +kernel
theorem dX3_putInBox_23 : decode cX3_putInBox 23 = .ok (.bipush 32, 2) := by decide +kernel
theorem dX3_putInBox_25 : decode cX3_putInBox 25 = .ok (.invokestatic 115, 3) := by decide +kernel
theorem dX3_putInBox_28 : decode cX3_putInBox 28 = .ok (.aload_n 0, 1) := by decide +kernel
theorem dX3_putInBox_29 : decode cX3_putInBox 29 = .ok (.getfield 26, 3) := by decide +kernel
theorem dX3_putInBox_32 : decode cX3_putInBox 32 = .ok (.iload_n 1, 1) := by decide +kernel
theorem dX3_putInBox_33 : decode cX3_putInBox 33 = .ok (.iconst 1, 1) := by decide +kernel
theorem dX3_putInBox_34 : decode cX3_putInBox 34 = .ok (.bastore, 1) := by decide +kernel
theorem dX3_putInBox_35 : decode cX3_putInBox 35 = .ok (.aload_n 0, 1) := by decide +kernel
theorem dX3_putInBox_36 : decode cX3_putInBox 36 = .ok (.getfield 11, 3) := by decide +kernel
theorem dX3_putInBox_39 : decode cX3_putInBox 39 = .ok (.bipush 30, 2) := by decide +kernel
theorem dX3_putInBox_41 : decode cX3_putInBox 41 = .ok (.iaload, 1) := by decide +kernel
theorem dX3_putInBox_42 : decode cX3_putInBox 42 = .ok (.ireturn, 1) := by decide +kernel
theorem dX11_image_0 : decode cX11_image 0 = .ok (.aload_n 0, 1) := by decide +kernel
theorem dX11_image_1 : decode cX11_image 1 = .ok (.getfield 63, 3) := by decide +kernel
theorem dX11_image_4 : decode cX11_image 4 = .ok (.iload_n 1, 1) := by decide +kernel
theorem dX11_image_5 : decode cX11_image 5 = .ok (.invokevirtual 303, 3) := by decide +kernel
theorem dX11_image_8 : decode cX11_image 8 = .ok (.ireturn, 1) := by decide +kernel
theorem dX1_clear_0 : decode cX1_clear 0 = .ok (.aload_n 0, 1) := by decide +kernel
theorem dX1_clear_1 : decode cX1_clear 1 = .ok (.iconst 0, 1) := by decide +kernel
theorem dX1_clear_2 : decode cX1_clear 2 = .ok (.putfield 19, 3) := by decide +kernel
theorem dX1_clear_5 : decode cX1_clear 5 = .ok (.aload_n 0, 1) := by decide +kernel
theorem dX1_clear_6 : decode cX1_clear 6 = .ok (.iconst 0, 1) := by decide +kernel
theorem dX1_clear_7 : decode cX1_clear 7 = .ok (.putfield 23, 3) := by decide +kernel
theorem dX1_clear_10 : decode cX1_clear 10 = .ok (.aload_n 0, 1) := by decide +kernel
theorem dX1_clear_11 : decode cX1_clear 11 = .ok (.iconst 0, 1) := by decide +kernel
theorem dX1_clear_12 : decode cX1_clear 12 = .ok (.putfield 26, 3) := by decide +kernel
theorem dX1_clear_15 : decode cX1_clear 15 = .ok (.return_, 1) := by decide +kernel
theorem dX5_clear_0 : decode cX5_clear 0 = .ok (.aload_n 0, 1) := by decide +kernel
theorem dX5_clear_1 : decode cX5_clear 1 = .ok (.iconst 0, 1) := by decide +kernel
theorem dX5_clear_2 : decode cX5_clear 2 = .ok (.putfield 50, 3) := by decide +kernel
theorem dX5_clear_5 : decode cX5_clear 5 = .ok (.aload_n 0, 1) := by decide +kernel
theorem dX5_clear_6 : decode cX5_clear 6 = .ok (.iconst 0, 1) := by decide +kernel
theorem dX5_clear_7 : decode cX5_clear 7 = .ok (.putfield 54, 3) := by decide +kernel
theorem dX5_clear_10 : decode cX5_clear 10 = .ok (.aload_n 0, 1) := by decide +kernel
theorem dX5_clear_11 : decode cX5_clear 11 = .ok (.iconst 0, 1) := by decide +kernel
theorem dX5_clear_12 : decode cX5_clear 12 = .ok (.putfield 57, 3) := by decide +kernel
theorem dX5_clear_15 : decode cX5_clear 15 = .ok (.aload_n 0, 1) := by decide +kernel
theorem dX5_clear_16 : decode cX5_clear 16 = .ok (.getfield 46, 3) := by decide +kernel
theorem dX5_clear_19 : decode cX5_clear 19 = .ok (.invokevirtual 60, 3) := by decide +kernel
theorem dX5_clear_22 : decode cX5_clear 22 = .ok (.aload_n 0, 1) := by decide +kernel
theorem dX5_clear_23 : decode cX5_clear 23 = .ok (.iconst 0, 1) := by decide +kernel
theorem dX5_clear_24 : decode cX5_clear 24 = .ok (.putfield 63, 3) := by decide +kernel
theorem dX5_clear_27 : decode cX5_clear 27 = .ok (.aload_n 0, 1) := by decide +kernel
theorem dX5_clear_28 : decode cX5_clear 28 = .ok (.iconst 0, 1) := by decide +kernel
theorem dX5_clear_29 : decode cX5_clear 29 = .ok (.putfield 66, 3) := by decide +kernel
theorem dX5_clear_32 : decode cX5_clear 32 = .ok (.return_, 1) := by decide +kernel
theorem dX9_advance_0 : decode cX9_advance 0 = .ok (.aload_n 0, 1) := by decide +kernel
theorem dX9_advance_1 : decode cX9_advance 1 = .ok (.getfield 35, 3) := by decide +kernel
theorem dX9_advance_4 : decode cX9_advance 4 = .ok (.aload_n 0, 1) := by decide +kernel
theorem dX9_advance_5 : decode cX9_advance 5 = .ok (.getfield 15, 3) := by decide +kernel
theorem dX9_advance_8 : decode cX9_advance 8 = .ok (.getfield 42, 3) := by decide +kernel
theorem dX9_advance_11 : decode cX9_advance 11 = .ok (.if_icmp .ge 34, 3) := by decide +kernel
theorem dX9_advance_45 : decode cX9_advance 45 = .ok (.aload_n 0, 1) := by decide +kernel
theorem dX9_advance_46 : decode cX9_advance 46 = .ok (.aload_n 0, 1) := by decide +kernel
theorem dX9_advance_47 : decode cX9_advance 47 = .ok (.getfield 35, 3) := by decide +kernel
theorem dX9_advance_50 : decode cX9_advance 50 = .ok (.putfield 55, 3) := by decide +kernel
theorem dX9_advance_53 : decode cX9_advance 53 = .ok (.aload_n 0, 1) := by decide +kernel
theorem dX9_advance_54 : decode cX9_advance 54 = .ok (.getfield 35, 3) := by decide +kernel
theorem dX9_advance_57 : decode cX9_advance 57 = .ok (.aload_n 0, 1) := by decide +kernel
theorem dX9_advance_58 : decode cX9_advance 58 = .ok (.getfield 15, 3) := by decide +kernel
theorem dX9_advance_61 : decode cX9_advance 61 = .ok (.getfield 42, 3) := by decide +kernel
theorem dX9_advance_64 : decode cX9_advance 64 = .ok (.if_icmp .lt 11, 3) := by decide +kernel
theorem dX9_advance_67 : decode cX9_advance 67 = .ok (.aload_n 0, 1) := by decide +kernel
theorem dX9_advance_68 : decode cX9_advance 68 = .ok (.iconst 0, 1) := by decide +kernel
theorem dX9_advance_69 : decode cX9_advance 69 = .ok (.putfield 58, 3) := by decide +kernel
theorem dX9_advance_72 : decode cX9_advance 72 = .ok (.goto 57, 3) := by decide +kernel
theorem dX9_advance_129 : decode cX9_advance 129 = .ok (.return_, 1) := by decide +kernel
theorem dX9_begin_0 : decode cX9_begin 0 = .ok (.aload_n 0, 1) := by decide +kernel
theorem dX9_begin_1 : decode cX9_begin 1 = .ok (.iconst 0, 1) := by decide +kernel
theorem dX9_begin_2 : decode cX9_begin 2 = .ok (.putfield 35, 3) := by decide +kernel
theorem dX9_begin_5 : decode cX9_begin 5 = .ok (.aload_n 0, 1) := by decide +kernel
theorem dX9_begin_6 : decode cX9_begin 6 = .ok (.invokevirtual 39, 3) := by decide +kernel
theorem dX9_begin_9 : decode cX9_begin 9 = .ok (.return_, 1) := by decide +kernel
theorem dX6_readInto_0 : decode cX6_readInto 0 = .ok (.aload_n 0, 1) := by decide +kernel
theorem dX6_readInto_1 : decode cX6_readInto 1 = .ok (.aload_n 1, 1) := by decide +kernel
theorem dX6_readInto_2 : decode cX6_readInto 2 = .ok (.putfield 24, 3) := by decide +kernel
theorem dX6_readInto_5 : decode cX6_readInto 5 = .ok (.aload_n 0, 1) := by decide +kernel
theorem dX6_readInto_6 : decode cX6_readInto 6 = .ok (.iconst 0, 1) := by decide +kernel
theorem dX6_readInto_7 : decode cX6_readInto 7 = .ok (.putfield 28, 3) := by decide +kernel
theorem dX6_readInto_10 : decode cX6_readInto 10 = .ok (.aload_n 0, 1) := by decide +kernel
theorem dX6_readInto_11 : decode cX6_readInto 11 = .ok (.iconst (-1), 1) := by decide +kernel
theorem dX6_readInto_12 : decode cX6_readInto 12 = .ok (.putfield 9, 3) := by decide +kernel
theorem dX6_readInto_15 : decode cX6_readInto 15 = .ok (.aload_n 0, 1) := by decide +kernel
theorem dX6_readInto_16 : decode cX6_readInto 16 = .ok (.getfield 20, 3) := by decide +kernel
theorem dX6_readInto_19 : decode cX6_readInto 19 = .ok (.invokevirtual 31, 3) := by decide +kernel
theorem dX6_readInto_22 : decode cX6_readInto 22 = .ok (.iconst 1, 1) := by decide +kernel
theorem dX6_readInto_23 : decode cX6_readInto 23 = .ok (.istore_n 2, 1) := by decide +kernel
theorem dX6_readInto_24 : decode cX6_readInto 24 = .ok (.iconst 0, 1) := by decide +kernel
theorem dX6_readInto_25 : decode cX6_readInto 25 = .ok (.istore_n 3, 1) := by decide +kernel
theorem dX6_readInto_26 : decode cX6_readInto 26 = .ok (.iload_n 3, 1) := by decide +kernel
theorem dX6_readInto_27 : decode cX6_readInto 27 = .ok (.sipush 1600, 3) := by decide +kernel
theorem dX6_readInto_30 : decode cX6_readInto 30 = .ok (.if_icmp .ge 169, 3) := by decide +kernel
theorem dX6_readInto_33 : decode cX6_readInto 33 = .ok (.iload_n 2, 1) := by decide +kernel
theorem dX6_readInto_34 : decode cX6_readInto 34 = .ok (.ifCond .eq 165, 3) := by decide +kernel
theorem dX6_readInto_37 : decode cX6_readInto 37 = .ok (.aload_n 0, 1) := by decide +kernel
theorem dX6_readInto_38 : decode cX6_readInto 38 = .ok (.getfield 20, 3) := by decide +kernel
theorem dX6_readInto_41 : decode cX6_readInto 41 = .ok (.getfield 34, 3) := by decide +kernel
theorem dX6_readInto_44 : decode cX6_readInto 44 = .ok (.ifCond .eq 155, 3) := by decide +kernel
theorem dX6_readInto_199 : decode cX6_readInto 199 = .ok (.iload_n 2, 1) := by decide +kernel
theorem dX6_readInto_200 : decode cX6_readInto 200 = .ok (.ireturn, 1) := by decide +kernel
theorem dX11_house_0 : decode cX11_house 0 = .ok (.aload_n 0, 1) := by decide +kernel
theorem dX11_house_1 : decode cX11_house 1 = .ok (.getfield 16, 3) := by decide +kernel
theorem dX11_house_4 : decode cX11_house 4 = .ok (.invokevirtual 94, 3) := by decide +kernel
theorem dX11_house_7 : decode cX11_house 7 = .ok (.aload_n 0, 1) := by decide +kernel
theorem dX11_house_8 : decode cX11_house 8 = .ok (.getfield 31, 3) := by decide +kernel
theorem dX11_house_11 : decode cX11_house 11 = .ok (.aload_n 0, 1) := by decide +kernel
theorem dX11_house_12 : decode cX11_house 12 = .ok (.getfield 16, 3) := by decide +kernel
theorem dX11_house_15 : decode cX11_house 15 = .ok (.invokevirtual 97, 3) := by decide +kernel
theorem dX11_house_18 : decode cX11_house 18 = .ok (.ifCond .ne 5, 3) := by decide +kernel
theorem dX11_house_23 : decode cX11_house 23 = .ok (.aload_n 0, 1) := by decide +kernel
theorem dX11_house_24 : decode cX11_house 24 = .ok (.getfield 10, 3) := by decide +kernel
theorem dX11_house_27 : decode cX11_house 27 = .ok (.astore_n 1, 1) := by decide +kernel
theorem dX11_house_28 : decode cX11_house 28 = .ok (.aload_n 0, 1) := by decide +kernel
theorem dX11_house_29 : decode cX11_house 29 = .ok (.aload_n 0, 1) := by decide +kernel
theorem dX11_house_30 : decode cX11_house 30 = .ok (.getfield 16, 3) := by decide +kernel
theorem dX11_house_33 : decode cX11_house 33 = .ok (.putfield 10, 3) := by decide +kernel
theorem dX11_house_36 : decode cX11_house 36 = .ok (.aload_n 0, 1) := by decide +kernel
theorem dX11_house_37 : decode cX11_house 37 = .ok (.aload_n 1, 1) := by decide +kernel
theorem dX11_house_38 : decode cX11_house 38 = .ok (.putfield 16, 3) := by decide +kernel
theorem dX11_house_41 : decode cX11_house 41 = .ok (.aload_n 0, 1) := by decide +kernel
theorem dX11_house_42 : decode cX11_house 42 = .ok (.getfield 22, 3) := by decide +kernel
theorem dX11_house_45 : decode cX11_house 45 = .ok (.iconst 0, 1) := by decide +kernel
theorem dX11_house_46 : decode cX11_house 46 = .ok (.putfield 86, 3) := by decide +kernel
theorem dX11_house_49 : decode cX11_house 49 = .ok (.aload_n 0, 1) := by decide +kernel
theorem dX11_house_50 : decode cX11_house 50 = .ok (.invokevirtual 83, 3) := by decide +kernel
theorem dX11_house_53 : decode cX11_house 53 = .ok (.aload_n 0, 1) := by decide +kernel
theorem dX11_house_54 : decode cX11_house 54 = .ok (.getfield 10, 3) := by decide +kernel
theorem dX11_house_57 : decode cX11_house 57 = .ok (.getfield 101, 3) := by decide +kernel
theorem dX11_house_60 : decode cX11_house 60 = .ok (.ireturn, 1) := by decide +kernel
set_option maxRecDepth 20000 in
theorem ggX11_feed_X8_put : GoodIn wsX11_feed wsX8_put := goodIn_r _ [7, 8, 9, 20, 21] (by decide +kernel) (by decide +kernel)
set_option maxRecDepth 20000 in
theorem gX11_feed_X8_put : GoodIn wsX11_feed (wsV RX11 90 RX8 yX8_put wsX8_put) := goodIn_app (goodIn_of _ (by decide +kernel)) ggX11_feed_X8_put
set_option maxRecDepth 20000 in
theorem ggX11_way_X11_isRoom : GoodIn wsX11_way wsX11_isRoom := goodIn_r _ [7, 8, 9, 35, 36, 37, 38, 39, 40, 41, 42, 43, 44, 50, 51, 52, 53, 54, 55, 56, 57, 58, 59, 60, 61, 62, 63, 64, 65] (by decide +kernel) (by decide +kernel)
set_option maxRecDepth 20000 in
theorem gX11_way_X11_isRoom : GoodIn wsX11_way (wsV RX11 110 RX11 yX11_isRoom wsX11_isRoom) := goodIn_app (goodIn_of _ (by decide +kernel)) ggX11_way_X11_isRoom
set_option maxRecDepth 20000 in
theorem ggX11_quiet_X11_isRoom : GoodIn wsX11_quiet wsX11_isRoom := goodIn_r _ [7, 8, 9, 54, 55, 56, 57, 58, 59, 60, 61, 62, 63, 69, 70, 71, 72, 73, 74, 75, 76, 77, 78, 79, 80, 81, 82, 83, 84] (by decide +kernel) (by decide +kernel)
set_option maxRecDepth 20000 in
theorem gX11_quiet_X11_isRoom : GoodIn wsX11_quiet (wsV RX11 110 RX11 yX11_isRoom wsX11_isRoom) := goodIn_app (goodIn_of _ (by decide +kernel)) ggX11_quiet_X11_isRoom
set_option maxRecDepth 20000 in
theorem ggX11_tour_X11_isRoom : GoodIn wsX11_tour wsX11_isRoom := goodIn_r _ [7, 8, 9, 63, 64, 65, 66, 67, 68, 69, 70, 71, 72, 78, 79, 80, 81, 82, 83, 84, 85, 86, 87, 88, 89, 90, 91, 92, 93] (by decide +kernel) (by decide +kernel)
set_option maxRecDepth 20000 in
theorem gX11_tour_X11_isRoom : GoodIn wsX11_tour (wsV RX11 110 RX11 yX11_isRoom wsX11_isRoom) := goodIn_app (goodIn_of _ (by decide +kernel)) ggX11_tour_X11_isRoom
set_option maxRecDepth 20000 in
theorem ggX11_later_X4_moveOn : GoodIn wsX11_later wsX4_moveOn := goodIn_r _ [6, 7, 8, 19, 20, 21, 22, 23, 24, 25, 26, 27, 28] (by decide +kernel) (by decide +kernel)
set_option maxRecDepth 20000 in
theorem gX11_later_X4_moveOn : GoodIn wsX11_later (wsV RX11 288 RX4 yX4_moveOn wsX4_moveOn) := goodIn_app (goodIn_of _ (by decide +kernel)) ggX11_later_X4_moveOn
set_option maxRecDepth 20000 in
theorem ggX11_heard_X0_creakingRooms : GoodIn wsX11_heard wsX0_creakingRooms := goodIn_r _ [11, 12, 13, 14, 36, 37, 38, 39, 40, 41, 42, 43, 44, 45, 46, 47, 48, 49, 50, 51, 52, 53, 54, 55, 56] (by decide +kernel) (by decide +kernel)
set_option maxRecDepth 20000 in
theorem gX11_heard_X0_creakingRooms : GoodIn wsX11_heard (wsV RX11 278 RX0 yX0_creakingRooms wsX0_creakingRooms) := goodIn_app (goodIn_of _ (by decide +kernel)) ggX11_heard_X0_creakingRooms
set_option maxRecDepth 20000 in
theorem ggX11_heard_X11_isMinute : GoodIn wsX11_heard wsX11_isMinute := goodIn_r _ [6] (by decide +kernel) (by decide +kernel)
set_option maxRecDepth 20000 in
theorem gX11_heard_X11_isMinute : GoodIn wsX11_heard (va_wsS RX11 275 yX11_isMinute wsX11_isMinute) := goodIn_app (goodIn_of _ (by decide +kernel)) ggX11_heard_X11_isMinute
set_option maxRecDepth 20000 in
theorem ggX11_heard_X4_note : GoodIn wsX11_heard wsX4_note := goodIn_r _ [19, 20, 21, 22, 23, 24, 25, 57, 58, 59, 60, 61, 62, 63, 64, 65, 66] (by decide +kernel) (by decide +kernel)
set_option maxRecDepth 20000 in
theorem gX11_heard_X4_note : GoodIn wsX11_heard (wsV RX11 281 RX4 yX4_note wsX4_note) := goodIn_app (goodIn_of _ (by decide +kernel)) ggX11_heard_X4_note
set_option maxRecDepth 20000 in
theorem ggX4_openRooms_J7_fill_53178 : GoodIn wsX4_openRooms wsJ7_fill_53178 := goodIn_r _ [10] (by decide +kernel) (by decide +kernel)
set_option maxRecDepth 20000 in
theorem gX4_openRooms_J7_fill_53178 : GoodIn wsX4_openRooms (va_wsS RX4 82 yJ7_fill_53178 wsJ7_fill_53178) := goodIn_app (goodIn_of _ (by decide +kernel)) ggX4_openRooms_J7_fill_53178
set_option maxRecDepth 20000 in
theorem ggX4_countWalks_X4_openRooms : GoodIn wsX4_countWalks wsX4_openRooms := goodIn_r _ [10, 11, 12, 13, 14, 15, 16, 17, 18, 19, 20, 38, 39, 40, 41, 42, 43, 44, 45, 46, 47] (by decide +kernel) (by decide +kernel)
set_option maxRecDepth 20000 in
theorem gX4_countWalks_X4_openRooms : GoodIn wsX4_countWalks (wsV RX4 45 RX4 yX4_openRooms wsX4_openRooms) := goodIn_app (goodIn_of _ (by decide +kernel)) ggX4_countWalks_X4_openRooms
set_option maxRecDepth 20000 in
theorem ggX11_walks_X4_countWalks : GoodIn wsX11_walks wsX4_countWalks := goodIn_r _ [6, 7, 8, 9, 10, 11, 12, 13, 14, 5, 15, 16, 17, 18, 19, 20, 21, 22, 23, 24, 25, 26, 27, 28, 29, 30, 31, 32, 33, 34, 35, 36, 37, 38, 39, 40, 41, 42, 53, 54, 55, 56, 57, 58, 59, 60, 61, 62, 63, 64, 65, 66, 67, 68, 69, 70, 71, 72, 73, 74, 75, 76, 77, 78, 79, 80, 81, 82, 83] (by decide +kernel) (by decide +kernel)
set_option maxRecDepth 20000 in
theorem gX11_walks_X4_countWalks : GoodIn wsX11_walks (wsV RX11 291 RX4 yX4_countWalks wsX4_countWalks) := goodIn_app (goodIn_of _ (by decide +kernel)) ggX11_walks_X4_countWalks
set_option maxRecDepth 20000 in
theorem ggX11_certain_X11_isMinute : GoodIn wsX11_certain wsX11_isMinute := goodIn_r _ [5] (by decide +kernel) (by decide +kernel)
set_option maxRecDepth 20000 in
theorem gX11_certain_X11_isMinute : GoodIn wsX11_certain (va_wsS RX11 275 yX11_isMinute wsX11_isMinute) := goodIn_app (goodIn_of _ (by decide +kernel)) ggX11_certain_X11_isMinute
set_option maxRecDepth 20000 in
theorem ggX11_certain_X4_countWalks : GoodIn wsX11_certain wsX4_countWalks := goodIn_r _ [10, 11, 12, 13, 14, 15, 16, 17, 18, 9, 19, 20, 21, 22, 23, 24, 25, 26, 27, 28, 29, 30, 31, 32, 33, 34, 35, 36, 37, 38, 39, 40, 41, 42, 43, 44, 45, 46, 65, 66, 67, 68, 69, 70, 71, 72, 73, 74, 75, 76, 77, 78, 79, 80, 81, 82, 83, 84, 85, 86, 87, 88, 89, 90, 91, 92, 93, 94, 95] (by decide +kernel) (by decide +kernel)
set_option maxRecDepth 20000 in
theorem gX11_certain_X4_countWalks : GoodIn wsX11_certain (wsV RX11 291 RX4 yX4_countWalks wsX4_countWalks) := goodIn_app (goodIn_of _ (by decide +kernel)) ggX11_certain_X4_countWalks
set_option maxRecDepth 20000 in
theorem ggX11_ask_X4_countWalks : GoodIn wsX11_ask wsX4_countWalks := goodIn_r _ [6, 7, 8, 9, 10, 11, 12, 13, 14, 5, 15, 16, 17, 18, 19, 20, 21, 22, 23, 24, 25, 26, 27, 28, 29, 30, 31, 32, 33, 34, 35, 36, 37, 38, 39, 40, 41, 42, 70, 71, 72, 73, 74, 75, 76, 77, 78, 79, 80, 81, 82, 83, 84, 85, 86, 87, 88, 89, 90, 91, 92, 93, 94, 95, 96, 97, 98, 99, 100] (by decide +kernel) (by decide +kernel)
set_option maxRecDepth 20000 in
theorem gX11_ask_X4_countWalks : GoodIn wsX11_ask (wsV RX11 291 RX4 yX4_countWalks wsX4_countWalks) := goodIn_app (goodIn_of _ (by decide +kernel)) ggX11_ask_X4_countWalks
set_option maxRecDepth 20000 in
theorem ggX3_begin_X3_forgetActs : GoodIn wsX3_begin wsX3_forgetActs := goodIn_r _ [14, 15, 16, 17, 4, 18, 19, 20, 21, 22, 23, 24, 25, 26, 27, 28, 29, 30, 31] (by decide +kernel) (by decide +kernel)
set_option maxRecDepth 20000 in
theorem gX3_begin_X3_forgetActs : GoodIn wsX3_begin (wsV RX3 58 RX3 yX3_forgetActs wsX3_forgetActs) := goodIn_app (goodIn_of _ (by decide +kernel)) ggX3_begin_X3_forgetActs
set_option maxRecDepth 20000 in
theorem ggX0_build_J7_fill_53178 : GoodIn wsX0_build wsJ7_fill_53178 := goodIn_r _ [13] (by decide +kernel) (by decide +kernel)
set_option maxRecDepth 20000 in
theorem gX0_build_J7_fill_53178 : GoodIn wsX0_build (va_wsS RX0 25 yJ7_fill_53178 wsJ7_fill_53178) := goodIn_app (goodIn_of _ (by decide +kernel)) ggX0_build_J7_fill_53178
set_option maxRecDepth 20000 in
theorem ggX11_takeUp_X0_build : GoodIn wsX11_takeUp wsX0_build := goodIn_r _ [12, 13, 14, 15, 16, 17, 18, 19, 20, 21, 22, 23, 24, 25, 26, 27, 28, 11, 29, 30, 31, 32, 33, 34, 35, 36, 37, 38, 39, 40, 41, 42, 43, 44, 45, 97, 98, 99, 100, 101, 102, 103, 104, 105, 106, 107, 108, 109, 110, 111, 112, 113, 114, 115, 116, 117] (by decide +kernel) (by decide +kernel)
set_option maxRecDepth 20000 in
theorem gX11_takeUp_X0_build : GoodIn wsX11_takeUp (wsV RX11 333 RX0 yX0_build wsX0_build) := goodIn_app (goodIn_of _ (by decide +kernel)) ggX11_takeUp_X0_build
set_option maxRecDepth 20000 in
theorem ggX11_takeUp_X3_begin : GoodIn wsX11_takeUp wsX3_begin := goodIn_r _ [50, 51, 52, 53, 54, 55, 56, 57, 58, 59, 60, 61, 62, 49, 63, 64, 65, 66, 67, 68, 69, 70, 71, 118, 119, 120, 121, 122, 123, 124, 125, 126, 97, 98, 99, 100, 101, 102, 103, 104, 105, 106, 107, 108, 109, 110, 111, 112, 113, 114, 115, 116, 117] (by decide +kernel) (by decide +kernel)
set_option maxRecDepth 20000 in
theorem gX11_takeUp_X3_begin : GoodIn wsX11_takeUp (wsV RX11 336 RX3 yX3_begin wsX3_begin) := goodIn_app (goodIn_of _ (by decide +kernel)) ggX11_takeUp_X3_begin
set_option maxRecDepth 20000 in
theorem ggX11_day_X3_keepAct : GoodIn wsX11_day wsX3_keepAct := goodIn_r _ [56, 57, 58, 59, 60, 61, 62, 63, 64, 65, 76, 77, 78, 79, 80, 81, 82, 83, 84] (by decide +kernel) (by decide +kernel)
set_option maxRecDepth 20000 in
theorem gX11_day_X3_keepAct : GoodIn wsX11_day (wsV RX11 163 RX3 yX3_keepAct wsX3_keepAct) := goodIn_app (goodIn_of _ (by decide +kernel)) ggX11_day_X3_keepAct
set_option maxRecDepth 20000 in
theorem ggX11_day_X3_passDay : GoodIn wsX11_day wsX3_passDay := goodIn_r _ [7, 8, 9, 10, 11, 12, 13, 14, 15, 16, 17, 18, 6, 19, 20, 21, 22, 23, 24, 25, 26, 27, 28, 29, 30, 31, 32, 33, 34, 35, 36, 37, 38, 39, 40, 41, 42, 43, 44, 45, 46, 47, 48, 49, 50, 51, 52, 76, 77, 78, 79, 80, 81, 82, 83, 84, 85, 86, 87, 88, 89, 90, 91, 92, 93, 94, 95, 96, 97, 98, 99, 100, 101, 102, 103, 104, 105, 106, 107, 108, 109, 110, 111] (by decide +kernel) (by decide +kernel)
set_option maxRecDepth 20000 in
theorem gX11_day_X3_passDay : GoodIn wsX11_day (wsV RX11 176 RX3 yX3_passDay wsX3_passDay) := goodIn_app (goodIn_of _ (by decide +kernel)) ggX11_day_X3_passDay
set_option maxRecDepth 20000 in
theorem ggX11_image_X3_putInBox : GoodIn wsX11_image wsX3_putInBox := goodIn_r _ [6, 7, 8, 9, 10, 11, 12, 13, 24, 25, 26, 27, 28, 29, 30, 31, 32] (by decide +kernel) (by decide +kernel)
set_option maxRecDepth 20000 in
theorem gX11_image_X3_putInBox : GoodIn wsX11_image (wsV RX11 303 RX3 yX3_putInBox wsX3_putInBox) := goodIn_app (goodIn_of _ (by decide +kernel)) ggX11_image_X3_putInBox
set_option maxRecDepth 20000 in
theorem ggX5_clear_X1_clear : GoodIn wsX5_clear wsX1_clear := goodIn_r _ [11, 12, 13, 14, 31, 32, 33, 34, 35, 36] (by decide +kernel) (by decide +kernel)
set_option maxRecDepth 20000 in
theorem gX5_clear_X1_clear : GoodIn wsX5_clear (wsV RX5 60 RX1 yX1_clear wsX1_clear) := goodIn_app (goodIn_of _ (by decide +kernel)) ggX5_clear_X1_clear
set_option maxRecDepth 20000 in
theorem ggX9_begin_X9_advance : GoodIn wsX9_begin wsX9_advance := goodIn_r _ [6, 1, 7, 8, 9, 10, 11, 12, 13, 5, 14, 15, 16, 17, 18, 19, 20, 21, 22, 23, 24, 25, 26, 27, 28, 29, 30, 31, 32, 33, 34, 35, 36, 37, 38, 39, 40, 41, 42, 43, 44, 45, 46, 47, 48, 49, 50, 51, 52, 53, 54, 55, 56, 57, 58, 59, 60, 61, 62, 63, 64, 65, 66, 67, 68, 69, 70, 71, 72, 73, 74, 75, 76, 77, 78, 79, 80, 81, 82, 83, 84, 85, 86, 87, 88, 89, 90, 91, 92, 93, 94, 95, 96, 97, 98, 99, 100, 101, 102, 103, 104, 105, 106, 107, 108, 109, 110, 111, 112, 113, 114, 115, 116, 117, 118, 119, 120, 121, 122, 123, 124, 125, 126, 127, 128, 129, 130, 131, 132, 133, 134, 135, 136, 137, 138, 139, 140, 141] (by decide +kernel) (by decide +kernel)
set_option maxRecDepth 20000 in
theorem gX9_begin_X9_advance : GoodIn wsX9_begin (wsV RX9 39 RX9 yX9_advance wsX9_advance) := goodIn_app (goodIn_of _ (by decide +kernel)) ggX9_begin_X9_advance
set_option maxRecDepth 20000 in
theorem ggX6_readInto_X9_begin : GoodIn wsX6_readInto wsX9_begin := goodIn_r _ [11, 12, 13, 14, 15, 10, 16, 17, 18, 19, 20, 21, 22, 23, 24, 25, 26, 27, 28, 29, 30, 31, 32, 33, 34, 35, 36, 37, 38, 39, 40, 41, 42, 43, 44, 45, 46, 47, 48, 49, 50, 51, 52, 53, 54, 55, 56, 57, 58, 59, 60, 61, 62, 63, 64, 65, 66, 67, 68, 69, 70, 71, 72, 73, 74, 75, 76, 77, 78, 79, 80, 81, 82, 83, 84, 85, 86, 87, 88, 89, 90, 91, 92, 93, 94, 95, 96, 97, 98, 99, 100, 101, 102, 103, 104, 105, 106, 107, 108, 109, 110, 111, 112, 113, 114, 115, 116, 117, 118, 119, 120, 121, 122, 123, 124, 125, 126, 127, 128, 129, 130, 131, 132, 133, 134, 135, 136, 137, 138, 139, 140, 141, 142, 300, 301, 302, 303, 304, 305, 306, 307, 308] (by decide +kernel) (by decide +kernel)
set_option maxRecDepth 20000 in
theorem gX6_readInto_X9_begin : GoodIn wsX6_readInto (wsV RX6 31 RX9 yX9_begin wsX9_begin) := goodIn_app (goodIn_of _ (by decide +kernel)) ggX6_readInto_X9_begin
set_option maxRecDepth 20000 in
theorem ggX11_house_X11_takeUp : GoodIn wsX11_house wsX11_takeUp := goodIn_r _ [323, 324, 3, 325, 326, 327, 328, 329, 330, 331, 332, 333, 334, 335, 336, 337, 338, 339, 340, 341, 342, 343, 344, 345, 346, 347, 348, 349, 350, 351, 352, 353, 354, 355, 356, 357, 358, 359, 360, 361, 362, 363, 364, 365, 366, 367, 368, 369, 370, 371, 372, 373, 374, 375, 376, 377, 378, 379, 380, 381, 382, 383, 384, 385, 386, 387, 388, 389, 390, 391, 392, 393, 394, 395, 396, 397, 398, 399, 400, 401, 402, 403, 439, 440, 441, 442, 443, 444, 445, 446, 447, 448, 449, 450, 451, 452, 453, 454, 455, 456, 457, 458, 406, 407, 408, 409, 410, 411, 412, 413, 414, 415, 416, 417, 418, 419, 420, 421, 459, 460, 461, 462, 463, 464, 465, 466, 467] (by decide +kernel) (by decide +kernel)
set_option maxRecDepth 20000 in
theorem gX11_house_X11_takeUp : GoodIn wsX11_house (wsV RX11 83 RX11 yX11_takeUp wsX11_takeUp) := goodIn_app (goodIn_of _ (by decide +kernel)) ggX11_house_X11_takeUp
set_option maxRecDepth 20000 in
theorem ggX11_house_X5_clear : GoodIn wsX11_house wsX5_clear := goodIn_r _ [11, 12, 13, 14, 15, 16, 17, 18, 19, 20, 21, 22, 23, 24, 25, 406, 407, 408, 409, 410, 411, 412, 413, 414, 415, 416, 417, 418, 419, 420, 421, 422, 423, 424, 425, 426, 427] (by decide +kernel) (by decide +kernel)
set_option maxRecDepth 20000 in
theorem gX11_house_X5_clear : GoodIn wsX11_house (wsV RX11 94 RX5 yX5_clear wsX5_clear) := goodIn_app (goodIn_of _ (by decide +kernel)) ggX11_house_X5_clear
set_option maxRecDepth 20000 in
theorem ggX11_house_X6_readInto : GoodIn wsX11_house wsX6_readInto := goodIn_r _ [30, 31, 32, 33, 34, 35, 36, 37, 38, 39, 40, 41, 42, 43, 44, 45, 46, 47, 48, 49, 50, 51, 52, 53, 54, 55, 56, 57, 58, 59, 60, 61, 62, 63, 64, 65, 66, 67, 68, 69, 70, 71, 72, 73, 74, 75, 76, 77, 78, 79, 80, 81, 82, 83, 84, 85, 86, 87, 88, 89, 90, 91, 92, 93, 94, 95, 96, 97, 98, 99, 100, 101, 102, 103, 104, 105, 106, 107, 108, 109, 110, 111, 112, 113, 114, 115, 116, 117, 118, 119, 120, 121, 122, 123, 124, 125, 126, 127, 128, 129, 130, 131, 132, 133, 134, 135, 136, 137, 138, 139, 140, 141, 142, 143, 144, 145, 146, 147, 148, 149, 150, 151, 152, 153, 154, 155, 156, 157, 158, 159, 160, 161, 162, 163, 164, 165, 166, 167, 168, 169, 170, 171, 172, 173, 174, 175, 29, 176, 177, 178, 179, 180, 181, 182, 183, 184, 185, 186, 187, 188, 189, 190, 191, 192, 193, 10, 194, 12, 195, 196, 197, 198, 199, 200, 201, 202, 203, 204, 205, 206, 207, 208, 209, 210, 211, 212, 213, 214, 215, 216, 217, 218, 13, 219, 220, 221, 222, 223, 224, 225, 226, 227, 228, 229, 230, 231, 232, 233, 234, 14, 235, 236, 237, 238, 239, 240, 241, 242, 243, 244, 245, 246, 247, 248, 249, 250, 251, 252, 253, 254, 255, 256, 257, 258, 259, 260, 261, 262, 263, 264, 21, 265, 23, 266, 267, 268, 269, 270, 271, 272, 273, 274, 275, 276, 277, 278, 279, 280, 281, 282, 283, 284, 285, 286, 287, 288, 289, 290, 291, 292, 293, 294, 295, 296, 297, 298, 299, 300, 301, 302, 303, 304, 305, 306, 307, 308, 309, 310, 311, 312, 313, 314, 315, 316, 317, 318, 428, 429, 430, 431, 432, 433, 434, 435, 436, 437, 438, 404, 405, 406, 407, 408, 409, 410, 411, 412, 413, 414, 415, 416, 417, 418, 419, 420, 421, 422, 423, 424, 425, 426, 427] (by decide +kernel) (by decide +kernel)
set_option maxRecDepth 20000 in
theorem gX11_house_X6_readInto : GoodIn wsX11_house (wsV RX11 97 RX6 yX6_readInto wsX6_readInto) := goodIn_app (goodIn_of _ (by decide +kernel)) ggX11_house_X6_readInto
theorem iw_X8_put_X8 : ∀ w ∈ wsX80, w ∈ wsX8_put := fun _ h => List.mem_cons_of_mem _ (List.mem_append_right _ h)
theorem iw_X11_feed_X11 : ∀ w ∈ wsX110, w ∈ wsX11_feed := fun _ h => List.mem_cons_of_mem _ (List.mem_append_left _ (List.mem_append_right _ h))
theorem iw_X11_feed_X8 : ∀ w ∈ wsX80, w ∈ wsX11_feed := fun _ h => List.mem_cons_of_mem _ (List.mem_append_right _ h)
theorem iw_X11_end_X11 : ∀ w ∈ wsX110, w ∈ wsX11_end := fun _ h => List.mem_cons_of_mem _ (List.mem_append_left _ (List.mem_append_right _ h))
theorem iw_X11_end_X8 : ∀ w ∈ wsX80, w ∈ wsX11_end := fun _ h => List.mem_cons_of_mem _ (List.mem_append_right _ h)
theorem iw_X11_way_X11 : ∀ w ∈ wsX110, w ∈ wsX11_way := fun _ h => List.mem_cons_of_mem _ (List.mem_append_left _ (List.mem_append_left _ (List.mem_append_left _ (List.mem_append_right _ h))))
theorem iw_X11_way_X7 : ∀ w ∈ wsX70, w ∈ wsX11_way := fun _ h => List.mem_cons_of_mem _ (List.mem_append_left _ (List.mem_append_left _ (List.mem_append_right _ h)))
theorem iw_X11_quiet_X11 : ∀ w ∈ wsX110, w ∈ wsX11_quiet := fun _ h => List.mem_cons_of_mem _ (List.mem_append_left _ (List.mem_append_left _ (List.mem_append_left _ (List.mem_append_right _ h))))
theorem iw_X11_quiet_X7 : ∀ w ∈ wsX70, w ∈ wsX11_quiet := fun _ h => List.mem_cons_of_mem _ (List.mem_append_left _ (List.mem_append_left _ (List.mem_append_right _ h)))
theorem iw_X11_tour_X11 : ∀ w ∈ wsX110, w ∈ wsX11_tour := fun _ h => List.mem_cons_of_mem _ (List.mem_append_left _ (List.mem_append_left _ (List.mem_append_left _ (List.mem_append_right _ h))))
theorem iw_X11_tour_X7 : ∀ w ∈ wsX70, w ∈ wsX11_tour := fun _ h => List.mem_cons_of_mem _ (List.mem_append_left _ (List.mem_append_left _ (List.mem_append_right _ h)))
theorem iw_X4_moveOn_X4 : ∀ w ∈ wsX40, w ∈ wsX4_moveOn := fun _ h => List.mem_cons_of_mem _ (List.mem_append_right _ h)
theorem iw_X11_later_X11 : ∀ w ∈ wsX110, w ∈ wsX11_later := fun _ h => List.mem_cons_of_mem _ (List.mem_append_left _ (List.mem_append_right _ h))
theorem iw_X4_note_X4 : ∀ w ∈ wsX40, w ∈ wsX4_note := fun _ h => List.mem_cons_of_mem _ (List.mem_append_right _ h)
theorem iw_X11_heard_X11 : ∀ w ∈ wsX110, w ∈ wsX11_heard := fun _ h => List.mem_cons_of_mem _ (List.mem_append_left _ (List.mem_append_left _ (List.mem_append_left _ (List.mem_append_right _ h))))
theorem iw_X4_openRooms_X4 : ∀ w ∈ wsX40, w ∈ wsX4_openRooms := fun _ h => List.mem_cons_of_mem _ (List.mem_append_right _ h)
theorem iw_X4_countWalks_X0 : ∀ w ∈ wsX00, w ∈ wsX4_countWalks := fun _ h => List.mem_cons_of_mem _ (List.mem_append_left _ (List.mem_append_right _ h))
theorem iw_X4_countWalks_X4 : ∀ w ∈ wsX40, w ∈ wsX4_countWalks := fun _ h => List.mem_cons_of_mem _ (List.mem_append_left _ (List.mem_append_left _ (List.mem_append_right _ h)))
theorem iw_X4_countWalks_X5 : ∀ w ∈ wsX50, w ∈ wsX4_countWalks := fun _ h => List.mem_cons_of_mem _ (List.mem_append_right _ h)
theorem iw_X11_walks_X11 : ∀ w ∈ wsX110, w ∈ wsX11_walks := fun _ h => List.mem_cons_of_mem _ (List.mem_append_left _ (List.mem_append_left _ (List.mem_append_left _ (List.mem_append_right _ h))))
theorem iw_X11_certain_X11 : ∀ w ∈ wsX110, w ∈ wsX11_certain := fun _ h => List.mem_cons_of_mem _ (List.mem_append_left _ (List.mem_append_left _ (List.mem_append_left _ (List.mem_append_right _ h))))
theorem iw_X11_ask_X11 : ∀ w ∈ wsX110, w ∈ wsX11_ask := fun _ h => List.mem_cons_of_mem _ (List.mem_append_left _ (List.mem_append_left _ (List.mem_append_left _ (List.mem_append_right _ h))))
theorem iw_X3_passDay_X0 : ∀ w ∈ wsX00, w ∈ wsX3_passDay := fun _ h => List.mem_cons_of_mem _ (List.mem_append_left _ (List.mem_append_left _ (List.mem_append_right _ h)))
theorem iw_X3_passDay_X3 : ∀ w ∈ wsX30, w ∈ wsX3_passDay := fun _ h => List.mem_cons_of_mem _ (List.mem_append_left _ (List.mem_append_left _ (List.mem_append_left _ (List.mem_append_right _ h))))
theorem iw_X3_passDay_X5 : ∀ w ∈ wsX50, w ∈ wsX3_passDay := fun _ h => List.mem_cons_of_mem _ (List.mem_append_left _ (List.mem_append_right _ h))
theorem iw_X3_forgetActs_X3 : ∀ w ∈ wsX30, w ∈ wsX3_forgetActs := fun _ h => List.mem_cons_of_mem _ (List.mem_append_right _ h)
theorem iw_X3_begin_X0 : ∀ w ∈ wsX00, w ∈ wsX3_begin := fun _ h => List.mem_cons_of_mem _ (List.mem_append_left _ (List.mem_append_right _ h))
theorem iw_X3_begin_X3 : ∀ w ∈ wsX30, w ∈ wsX3_begin := fun _ h => List.mem_cons_of_mem _ (List.mem_append_left _ (List.mem_append_left _ (List.mem_append_right _ h)))
theorem iw_X3_begin_X5 : ∀ w ∈ wsX50, w ∈ wsX3_begin := fun _ h => List.mem_cons_of_mem _ (List.mem_append_right _ h)
theorem iw_X0_build_X0 : ∀ w ∈ wsX00, w ∈ wsX0_build := fun _ h => List.mem_cons_of_mem _ (List.mem_append_left _ (List.mem_append_right _ h))
theorem iw_X0_build_X5 : ∀ w ∈ wsX50, w ∈ wsX0_build := fun _ h => List.mem_cons_of_mem _ (List.mem_append_right _ h)
theorem iw_X11_takeUp_X11 : ∀ w ∈ wsX110, w ∈ wsX11_takeUp := fun _ h => List.mem_cons_of_mem _ (List.mem_append_left _ (List.mem_append_left _ (List.mem_append_left _ (List.mem_append_left _ (List.mem_append_left _ (List.mem_append_right _ h))))))
theorem iw_X11_takeUp_X4 : ∀ w ∈ wsX40, w ∈ wsX11_takeUp := fun _ h => List.mem_cons_of_mem _ (List.mem_append_left _ (List.mem_append_left _ (List.mem_append_left _ (List.mem_append_left _ (List.mem_append_right _ h)))))
theorem iw_X11_takeUp_X7 : ∀ w ∈ wsX70, w ∈ wsX11_takeUp := fun _ h => List.mem_cons_of_mem _ (List.mem_append_left _ (List.mem_append_left _ (List.mem_append_left _ (List.mem_append_right _ h))))
theorem iw_X3_keepAct_X3 : ∀ w ∈ wsX30, w ∈ wsX3_keepAct := fun _ h => List.mem_cons_of_mem _ (List.mem_append_right _ h)
theorem iw_X11_day_X11 : ∀ w ∈ wsX110, w ∈ wsX11_day := fun _ h => List.mem_cons_of_mem _ (List.mem_append_left _ (List.mem_append_left _ (List.mem_append_left _ (List.mem_append_left _ (List.mem_append_right _ h)))))
theorem iw_X11_day_X3 : ∀ w ∈ wsX30, w ∈ wsX11_day := fun _ h => List.mem_cons_of_mem _ (List.mem_append_left _ (List.mem_append_left _ (List.mem_append_left _ (List.mem_append_right _ h))))
theorem iw_X3_putInBox_X3 : ∀ w ∈ wsX30, w ∈ wsX3_putInBox := fun _ h => List.mem_cons_of_mem _ (List.mem_append_right _ h)
theorem iw_X11_image_X11 : ∀ w ∈ wsX110, w ∈ wsX11_image := fun _ h => List.mem_cons_of_mem _ (List.mem_append_left _ (List.mem_append_right _ h))
theorem iw_X1_clear_X1 : ∀ w ∈ wsX10, w ∈ wsX1_clear := fun _ h => List.mem_cons_of_mem _ (List.mem_append_right _ h)
theorem iw_X5_clear_X5 : ∀ w ∈ wsX50, w ∈ wsX5_clear := fun _ h => List.mem_cons_of_mem _ (List.mem_append_left _ (List.mem_append_right _ h))
theorem iw_X9_advance_X8 : ∀ w ∈ wsX80, w ∈ wsX9_advance := fun _ h => List.mem_cons_of_mem _ (List.mem_append_right _ h)
theorem iw_X9_advance_X9 : ∀ w ∈ wsX90, w ∈ wsX9_advance := fun _ h => List.mem_cons_of_mem _ (List.mem_append_left _ (List.mem_append_right _ h))
theorem iw_X9_begin_X9 : ∀ w ∈ wsX90, w ∈ wsX9_begin := fun _ h => List.mem_cons_of_mem _ (List.mem_append_left _ (List.mem_append_right _ h))
theorem iw_X6_readInto_X6 : ∀ w ∈ wsX60, w ∈ wsX6_readInto := fun _ h => List.mem_cons_of_mem _ (List.mem_append_left _ (List.mem_append_left _ (List.mem_append_left _ (List.mem_append_left _ (List.mem_append_right _ h)))))
theorem iw_X6_readInto_X9 : ∀ w ∈ wsX90, w ∈ wsX6_readInto := fun _ h => List.mem_cons_of_mem _ (List.mem_append_left _ (List.mem_append_left _ (List.mem_append_left _ (List.mem_append_right _ h))))
theorem iw_X11_house_X11 : ∀ w ∈ wsX110, w ∈ wsX11_house := fun _ h => List.mem_cons_of_mem _ (List.mem_append_left _ (List.mem_append_left _ (List.mem_append_left _ (List.mem_append_left _ (List.mem_append_left _ (List.mem_append_left _ (List.mem_append_left _ (List.mem_append_left _ (List.mem_append_left _ (List.mem_append_right _ h))))))))))
theorem iw_X11_house_X5 : ∀ w ∈ wsX50, w ∈ wsX11_house := fun _ h => List.mem_cons_of_mem _ (List.mem_append_left _ (List.mem_append_left _ (List.mem_append_left _ (List.mem_append_left _ (List.mem_append_left _ (List.mem_append_left _ (List.mem_append_left _ (List.mem_append_right _ h))))))))
theorem iw_X11_house_X8 : ∀ w ∈ wsX80, w ∈ wsX11_house := fun _ h => List.mem_cons_of_mem _ (List.mem_append_left _ (List.mem_append_left _ (List.mem_append_left _ (List.mem_append_left _ (List.mem_append_left _ (List.mem_append_left _ (List.mem_append_left _ (List.mem_append_left _ (List.mem_append_right _ h)))))))))
