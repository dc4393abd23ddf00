def wsX11_walks_r1 : List Cond := [Cond.fieldLink RX11 79 "SoldHouse" "night" "LSoldHouse$Night;", Cond.methodLink RX11 291 yX4_countWalks, Cond.instanceMethod yX4_countWalks, Cond.selects RX4 yX4_countWalks yX4_countWalks, Cond.initialized RX4, Cond.code yX4_countWalks cX4_countWalks 4 (some .int), Cond.fieldLink RX4 33 "SoldHouse$Night" "floor" "LSoldHouse$Floor;", Cond.fieldLink RX4 49 "SoldHouse$Floor" "plan" "LSoldHouse$Plan;", Cond.fieldLink RX4 55 "SoldHouse$Plan" "rooms" "I", Cond.fieldLink RX4 27 "SoldHouse$Night" "into" "[I", Cond.fieldLink RX4 30 "SoldHouse$Night" "onward" "[I", Cond.methodLink RX4 45 yX4_openRooms, Cond.instanceMethod yX4_openRooms, Cond.selects RX4 yX4_openRooms yX4_openRooms, Cond.code yX4_openRooms cX4_openRooms 4 none, Cond.fieldLink RX4 24 "SoldHouse$Night" "open" "[I", Cond.fieldLink RX4 37 "SoldHouse$Night" "count" "I", Cond.fieldLink RX4 21 "SoldHouse$Night" "untoldAt" "[I", Cond.fieldLink RX4 18 "SoldHouse$Night" "toldAt" "[I", Cond.fieldLink RX4 11 "SoldHouse$Night" "minute" "[I", Cond.fieldLink RX4 15 "SoldHouse$Night" "rooms" "[I", Cond.methodLink RX4 82 yJ7_fill_53178, Cond.static yJ7_fill_53178, Cond.initialized RJ7]
def wsX11_walks_r2 : List Cond := [Cond.code yJ7_fill_53178 cJ7_fill_53178 4 none, Cond.methodLink RX4 59 yX4_isOpen, Cond.instanceMethod yX4_isOpen, Cond.selects RX4 yX4_isOpen yX4_isOpen, Cond.code yX4_isOpen cX4_isOpen 3 (some .boolean), Cond.methodLink RX4 63 yX4_comingTo, Cond.instanceMethod yX4_comingTo, Cond.selects RX4 yX4_comingTo yX4_comingTo, Cond.code yX4_comingTo cX4_comingTo 3 (some .int), Cond.methodLink RX4 88 yX4_sumAround, Cond.instanceMethod yX4_sumAround, Cond.selects RX4 yX4_sumAround yX4_sumAround, Cond.code yX4_sumAround cX4_sumAround 7 (some .int), Cond.fieldLink RX4 92 "SoldHouse$Floor" "next" "[I", Cond.methodLink RX4 67 yX4_goingOn, Cond.instanceMethod yX4_goingOn, Cond.selects RX4 yX4_goingOn yX4_goingOn, Cond.code yX4_goingOn cX4_goingOn 3 (some .int)]
def wsX11_walks : List Cond := .code yX11_walks cX11_walks 2 (some .int) :: ((wsX11_walks_r1 ++ wsX11_walks_r2) ++ wsX110 ++ wsX40 ++ wsX00 ++ wsX50)
def wsX11_certain_r1 : List Cond := [Cond.fieldLink RX11 79 "SoldHouse" "night" "LSoldHouse$Night;", Cond.methodLink RX11 275 yX11_isMinute, Cond.static yX11_isMinute, Cond.initialized RX11, Cond.code yX11_isMinute cX11_isMinute 1 (some .boolean), Cond.methodLink RX11 291 yX4_countWalks, Cond.instanceMethod yX4_countWalks, Cond.selects RX4 yX4_countWalks yX4_countWalks, Cond.initialized RX4, Cond.code yX4_countWalks cX4_countWalks 4 (some .int), Cond.fieldLink RX4 33 "SoldHouse$Night" "floor" "LSoldHouse$Floor;", Cond.fieldLink RX4 49 "SoldHouse$Floor" "plan" "LSoldHouse$Plan;", Cond.fieldLink RX4 55 "SoldHouse$Plan" "rooms" "I", Cond.fieldLink RX4 27 "SoldHouse$Night" "into" "[I", Cond.fieldLink RX4 30 "SoldHouse$Night" "onward" "[I", Cond.methodLink RX4 45 yX4_openRooms, Cond.instanceMethod yX4_openRooms, Cond.selects RX4 yX4_openRooms yX4_openRooms, Cond.code yX4_openRooms cX4_openRooms 4 none, Cond.fieldLink RX4 24 "SoldHouse$Night" "open" "[I", Cond.fieldLink RX4 37 "SoldHouse$Night" "count" "I", Cond.fieldLink RX4 21 "SoldHouse$Night" "untoldAt" "[I", Cond.fieldLink RX4 18 "SoldHouse$Night" "toldAt" "[I", Cond.fieldLink RX4 11 "SoldHouse$Night" "minute" "[I"]
def wsX11_certain_r2 : List Cond := [Cond.fieldLink RX4 15 "SoldHouse$Night" "rooms" "[I", Cond.methodLink RX4 82 yJ7_fill_53178, Cond.static yJ7_fill_53178, Cond.initialized RJ7, Cond.code yJ7_fill_53178 cJ7_fill_53178 4 none, Cond.methodLink RX4 59 yX4_isOpen, Cond.instanceMethod yX4_isOpen, Cond.selects RX4 yX4_isOpen yX4_isOpen, Cond.code yX4_isOpen cX4_isOpen 3 (some .boolean), Cond.methodLink RX4 63 yX4_comingTo, Cond.instanceMethod yX4_comingTo, Cond.selects RX4 yX4_comingTo yX4_comingTo, Cond.code yX4_comingTo cX4_comingTo 3 (some .int), Cond.methodLink RX4 88 yX4_sumAround, Cond.instanceMethod yX4_sumAround, Cond.selects RX4 yX4_sumAround yX4_sumAround, Cond.code yX4_sumAround cX4_sumAround 7 (some .int), Cond.fieldLink RX4 92 "SoldHouse$Floor" "next" "[I", Cond.methodLink RX4 67 yX4_goingOn, Cond.instanceMethod yX4_goingOn, Cond.selects RX4 yX4_goingOn yX4_goingOn, Cond.code yX4_goingOn cX4_goingOn 3 (some .int), Cond.methodLink RX11 294 yX4_onlyRoom, Cond.instanceMethod yX4_onlyRoom]
def wsX11_certain_r3 : List Cond := [Cond.selects RX4 yX4_onlyRoom yX4_onlyRoom, Cond.code yX4_onlyRoom cX4_onlyRoom 4 (some .int), Cond.methodLink RX4 70 yX4_through, Cond.instanceMethod yX4_through, Cond.selects RX4 yX4_through yX4_through, Cond.code yX4_through cX4_through 3 (some .int)]
def wsX11_certain : List Cond := .code yX11_certain cX11_certain 3 (some .int) :: ((wsX11_certain_r1 ++ (wsX11_certain_r2 ++ wsX11_certain_r3)) ++ wsX110 ++ wsX40 ++ wsX00 ++ wsX50)
def wsX11_ask_r1 : List Cond := [Cond.fieldLink RX11 79 "SoldHouse" "night" "LSoldHouse$Night;", Cond.methodLink RX11 291 yX4_countWalks, Cond.instanceMethod yX4_countWalks, Cond.selects RX4 yX4_countWalks yX4_countWalks, Cond.initialized RX4, Cond.code yX4_countWalks cX4_countWalks 4 (some .int), Cond.fieldLink RX4 33 "SoldHouse$Night" "floor" "LSoldHouse$Floor;", Cond.fieldLink RX4 49 "SoldHouse$Floor" "plan" "LSoldHouse$Plan;", Cond.fieldLink RX4 55 "SoldHouse$Plan" "rooms" "I", Cond.fieldLink RX4 27 "SoldHouse$Night" "into" "[I", Cond.fieldLink RX4 30 "SoldHouse$Night" "onward" "[I", Cond.methodLink RX4 45 yX4_openRooms, Cond.instanceMethod yX4_openRooms, Cond.selects RX4 yX4_openRooms yX4_openRooms, Cond.code yX4_openRooms cX4_openRooms 4 none, Cond.fieldLink RX4 24 "SoldHouse$Night" "open" "[I", Cond.fieldLink RX4 37 "SoldHouse$Night" "count" "I", Cond.fieldLink RX4 21 "SoldHouse$Night" "untoldAt" "[I", Cond.fieldLink RX4 18 "SoldHouse$Night" "toldAt" "[I", Cond.fieldLink RX4 11 "SoldHouse$Night" "minute" "[I", Cond.fieldLink RX4 15 "SoldHouse$Night" "rooms" "[I", Cond.methodLink RX4 82 yJ7_fill_53178, Cond.static yJ7_fill_53178, Cond.initialized RJ7]
def wsX11_ask_r2 : List Cond := [Cond.code yJ7_fill_53178 cJ7_fill_53178 4 none, Cond.methodLink RX4 59 yX4_isOpen, Cond.instanceMethod yX4_isOpen, Cond.selects RX4 yX4_isOpen yX4_isOpen, Cond.code yX4_isOpen cX4_isOpen 3 (some .boolean), Cond.methodLink RX4 63 yX4_comingTo, Cond.instanceMethod yX4_comingTo, Cond.selects RX4 yX4_comingTo yX4_comingTo, Cond.code yX4_comingTo cX4_comingTo 3 (some .int), Cond.methodLink RX4 88 yX4_sumAround, Cond.instanceMethod yX4_sumAround, Cond.selects RX4 yX4_sumAround yX4_sumAround, Cond.code yX4_sumAround cX4_sumAround 7 (some .int), Cond.fieldLink RX4 92 "SoldHouse$Floor" "next" "[I", Cond.methodLink RX4 67 yX4_goingOn, Cond.instanceMethod yX4_goingOn, Cond.selects RX4 yX4_goingOn yX4_goingOn, Cond.code yX4_goingOn cX4_goingOn 3 (some .int), Cond.methodLink RX11 297 yX4_bestMinute, Cond.instanceMethod yX4_bestMinute, Cond.selects RX4 yX4_bestMinute yX4_bestMinute, Cond.code yX4_bestMinute cX4_bestMinute 3 (some .int), Cond.methodLink RX4 73 yX4_mostLeft, Cond.instanceMethod yX4_mostLeft]
def wsX11_ask_r3 : List Cond := [Cond.selects RX4 yX4_mostLeft yX4_mostLeft, Cond.code yX4_mostLeft cX4_mostLeft 4 (some .int), Cond.methodLink RX4 77 Lib.Math.max.name, Cond.static Lib.Math.max.name, Cond.initialized "java/lang/Math", Cond.code Lib.Math.max.name Lib.Math.max.code 2 (some .int), Cond.methodLink RX4 70 yX4_through, Cond.instanceMethod yX4_through, Cond.selects RX4 yX4_through yX4_through, Cond.code yX4_through cX4_through 3 (some .int), Cond.methodLink RX11 300 yX4_mostLeft]
def wsX11_ask : List Cond := .code yX11_ask cX11_ask 4 (some .int) :: ((wsX11_ask_r1 ++ (wsX11_ask_r2 ++ wsX11_ask_r3)) ++ wsX110 ++ wsX40 ++ wsX00 ++ wsX50)
def wsX11_image : List Cond := .code yX11_image cX11_image 2 (some .int) :: ([.fieldLink RX11 63 "SoldHouse" "memory" "LSoldHouse$Memory;", .methodLink RX11 303 yX3_putInBox, .instanceMethod yX3_putInBox, .selects RX3 yX3_putInBox yX3_putInBox, .initialized RX3, .code yX3_putInBox cX3_putInBox 2 (some .int), .fieldLink RX3 11 "SoldHouse$Memory" "now" "[I", .fieldLink RX3 23 "SoldHouse$Memory" "box" "[[I", .methodLink RX3 115 arraycopyName, .native arraycopyName, .static arraycopyName, .initialized "java/lang/System", .fieldLink RX3 26 "SoldHouse$Memory" "full" "[Z"] ++ wsX110 ++ wsX30)
def wsX11_back : List Cond := .code yX11_back cX11_back 2 (some .int) :: ([.fieldLink RX11 63 "SoldHouse" "memory" "LSoldHouse$Memory;", .methodLink RX11 306 yX3_takeFromBox, .instanceMethod yX3_takeFromBox, .selects RX3 yX3_takeFromBox yX3_takeFromBox, .initialized RX3, .code yX3_takeFromBox cX3_takeFromBox 2 (some .int), .fieldLink RX3 26 "SoldHouse$Memory" "full" "[Z", .fieldLink RX3 23 "SoldHouse$Memory" "box" "[[I", .fieldLink RX3 11 "SoldHouse$Memory" "now" "[I", .methodLink RX3 115 arraycopyName, .native arraycopyName, .static arraycopyName, .initialized "java/lang/System", .methodLink RX3 58 yX3_forgetActs, .instanceMethod yX3_forgetActs, .selects RX3 yX3_forgetActs yX3_forgetActs, .code yX3_forgetActs cX3_forgetActs 1 none, .fieldLink RX3 134 "SoldHouse$Memory" "oldest" "I", .fieldLink RX3 131 "SoldHouse$Memory" "done" "I", .fieldLink RX3 128 "SoldHouse$Memory" "undone" "I", .fieldLink RX3 20 "SoldHouse$Memory" "kept" "[[I"] ++ wsX110 ++ wsX30)
def wsX11_about : List Cond := .code yX11_about cX11_about 2 (some .int) :: ([.fieldLink RX11 10 "SoldHouse" "plan" "LSoldHouse$Plan;", .fieldLink RX11 101 "SoldHouse$Plan" "rooms" "I", .fieldLink RX11 309 "SoldHouse$Plan" "doors" "I", .fieldLink RX11 253 "SoldHouse$Plan" "things" "I", .fieldLink RX11 63 "SoldHouse" "memory" "LSoldHouse$Memory;", .fieldLink RX11 128 "SoldHouse$Memory" "now" "[I", .fieldLink RX11 312 "SoldHouse$Memory" "done" "I", .fieldLink RX11 315 "SoldHouse$Memory" "undone" "I", .fieldLink RX11 79 "SoldHouse" "night" "LSoldHouse$Night;", .fieldLink RX11 318 "SoldHouse$Night" "count" "I", .fieldLink RX11 321 "SoldHouse$Night" "time" "I", .fieldLink RX11 22 "SoldHouse" "tape" "LSoldHouse$Tape;", .fieldLink RX11 86 "SoldHouse$Tape" "size" "I", .fieldLink RX11 324 "SoldHouse$Plan" "sure" "LSoldHouse$Formula;", .fieldLink RX11 328 "SoldHouse$Formula" "units" "I", .fieldLink RX11 49 "SoldHouse" "routes" "LSoldHouse$Routes;", .fieldLink RX11 187 "SoldHouse$Routes" "lying" "I"] ++ wsX110 ++ wsX50 ++ wsX30 ++ wsX40 ++ wsX80 ++ wsX10 ++ wsX70)
theorem dX11_walks_0 : decode cX11_walks 0 = .ok (.aload_n 0, 1) := by decide +kernel
theorem dX11_walks_1 : decode cX11_walks 1 = .ok (.getfield 79, 3) := by decide +kernel
theorem dX11_walks_4 : decode cX11_walks 4 = .ok (.iload_n 1, 1) := by decide +kernel
theorem dX11_walks_5 : decode cX11_walks 5 = .ok (.invokevirtual 291, 3) := by decide +kernel
theorem dX11_walks_8 : decode cX11_walks 8 = .ok (.ireturn, 1) := by decide +kernel
theorem dX11_certain_0 : decode cX11_certain 0 = .ok (.iload_n 1, 1) := by decide +kernel
theorem dX11_certain_1 : decode cX11_certain 1 = .ok (.invokestatic 275, 3) := by decide +kernel
theorem dX11_certain_4 : decode cX11_certain 4 = .ok (.ifCond .eq 14, 3) := by decide +kernel
theorem dX11_certain_7 : decode cX11_certain 7 = .ok (.aload_n 0, 1) := by decide +kernel
theorem dX11_certain_8 : decode cX11_certain 8 = .ok (.getfield 79, 3) := by decide +kernel
theorem dX11_certain_11 : decode cX11_certain 11 = .ok (.iload_n 2, 1) := by decide +kernel
theorem dX11_certain_12 : decode cX11_certain 12 = .ok (.invokevirtual 291, 3) := by decide +kernel
theorem dX11_certain_15 : decode cX11_certain 15 = .ok (.ifCond .ne 5, 3) := by decide +kernel
theorem dX11_certain_18 : decode cX11_certain 18 = .ok (.iconst (-1), 1) := by decide +kernel
theorem dX11_certain_19 : decode cX11_certain 19 = .ok (.ireturn, 1) := by decide +kernel
theorem dX11_certain_20 : decode cX11_certain 20 = .ok (.aload_n 0, 1) := by decide +kernel
theorem dX11_certain_21 : decode cX11_certain 21 = .ok (.getfield 79, 3) := by decide +kernel
theorem dX11_certain_24 : decode cX11_certain 24 = .ok (.iload_n 1, 1) := by decide +kernel
theorem dX11_certain_25 : decode cX11_certain 25 = .ok (.invokevirtual 294, 3) := by decide +kernel
theorem dX11_certain_28 : decode cX11_certain 28 = .ok (.ireturn, 1) := by decide +kernel
theorem dX11_ask_0 : decode cX11_ask 0 = .ok (.aload_n 0, 1) := by decide +kernel
theorem dX11_ask_1 : decode cX11_ask 1 = .ok (.getfield 79, 3) := by decide +kernel
theorem dX11_ask_4 : decode cX11_ask 4 = .ok (.iload_n 2, 1) := by decide +kernel
theorem dX11_ask_5 : decode cX11_ask 5 = .ok (.invokevirtual 291, 3) := by decide +kernel
theorem dX11_ask_8 : decode cX11_ask 8 = .ok (.ifCond .ne 5, 3) := by decide +kernel
theorem dX11_ask_11 : decode cX11_ask 11 = .ok (.iconst (-1), 1) := by decide +kernel
theorem dX11_ask_12 : decode cX11_ask 12 = .ok (.ireturn, 1) := by decide +kernel
theorem dX11_ask_13 : decode cX11_ask 13 = .ok (.aload_n 0, 1) := by decide +kernel
theorem dX11_ask_14 : decode cX11_ask 14 = .ok (.getfield 79, 3) := by decide +kernel
theorem dX11_ask_17 : decode cX11_ask 17 = .ok (.invokevirtual 297, 3) := by decide +kernel
theorem dX11_ask_20 : decode cX11_ask 20 = .ok (.istore_n 3, 1) := by decide +kernel
theorem dX11_ask_21 : decode cX11_ask 21 = .ok (.iload_n 1, 1) := by decide +kernel
theorem dX11_ask_22 : decode cX11_ask 22 = .ok (.lookupswitch 37 #[(0, 26), (1, 28)], 26) := by decide +kernel
theorem dX11_ask_48 : decode cX11_ask 48 = .ok (.iload_n 3, 1) := by decide +kernel
theorem dX11_ask_49 : decode cX11_ask 49 = .ok (.ireturn, 1) := by decide +kernel
theorem dX11_ask_50 : decode cX11_ask 50 = .ok (.aload_n 0, 1) := by decide +kernel
theorem dX11_ask_51 : decode cX11_ask 51 = .ok (.getfield 79, 3) := by decide +kernel
theorem dX11_ask_54 : decode cX11_ask 54 = .ok (.iload_n 3, 1) := by decide +kernel
theorem dX11_ask_55 : decode cX11_ask 55 = .ok (.invokevirtual 300, 3) := by decide +kernel
theorem dX11_ask_58 : decode cX11_ask 58 = .ok (.ireturn, 1) := by decide +kernel
theorem dX11_ask_59 : decode cX11_ask 59 = .ok (.iconst (-1), 1) := by decide +kernel
theorem dX11_ask_60 : decode cX11_ask 60 = .ok (.ireturn, 1) := by decide +kernel
theorem dX11_image_0 : decode cX11_image 0 = .ok (.aload_n 0, 1) := by decide +kernel
theorem dX11_image_1 : decode cX11_image 1 = .ok (.getfield 63, 3) := by decide +kernel
theorem dX11_image_4 : decode cX11_image 4 = .ok (.iload_n 1, 1) := by decide +kernel
theorem dX11_image_5 : decode cX11_image 5 = .ok (.invokevirtual 303, 3) := by decide +kernel
theorem dX11_image_8 : decode cX11_image 8 = .ok (.ireturn, 1) := by decide +kernel
theorem dX11_back_0 : decode cX11_back 0 = .ok (.aload_n 0, 1) := by decide +kernel
theorem dX11_back_1 : decode cX11_back 1 = .ok (.getfield 63, 3) := by decide +kernel
theorem dX11_back_4 : decode cX11_back 4 = .ok (.iload_n 1, 1) := by decide +kernel
theorem dX11_back_5 : decode cX11_back 5 = .ok (.invokevirtual 306, 3) := by decide +kernel
theorem dX11_back_8 : decode cX11_back 8 = .ok (.ireturn, 1) := by decide +kernel
theorem dX11_about_0 : decode cX11_about 0 = .ok (.iload_n 1, 1) := by decide +kernel
theorem dX11_about_1 : decode cX11_about 1 = .ok (.tableswitch 168 0 11 #[63, 71, 79, 87, 98, 109, 117, 125, 133, 141, 149, 160], 63) := by decide +kernel
theorem dX11_about_64 : decode cX11_about 64 = .ok (.aload_n 0, 1) := by decide +kernel
theorem dX11_about_65 : decode cX11_about 65 = .ok (.getfield 10, 3) := by decide +kernel
theorem dX11_about_68 : decode cX11_about 68 = .ok (.getfield 101, 3) := by decide +kernel
theorem dX11_about_71 : decode cX11_about 71 = .ok (.ireturn, 1) := by decide +kernel
theorem dX11_about_72 : decode cX11_about 72 = .ok (.aload_n 0, 1) := by decide +kernel
theorem dX11_about_73 : decode cX11_about 73 = .ok (.getfield 10, 3) := by decide +kernel
theorem dX11_about_76 : decode cX11_about 76 = .ok (.getfield 309, 3) := by decide +kernel
theorem dX11_about_79 : decode cX11_about 79 = .ok (.ireturn, 1) := by decide +kernel
theorem dX11_about_80 : decode cX11_about 80 = .ok (.aload_n 0, 1) := by decide +kernel
theorem dX11_about_81 : decode cX11_about 81 = .ok (.getfield 10, 3) := by decide +kernel
theorem dX11_about_84 : decode cX11_about 84 = .ok (.getfield 253, 3) := by decide +kernel
theorem dX11_about_87 : decode cX11_about 87 = .ok (.ireturn, 1) := by decide +kernel
theorem dX11_about_88 : decode cX11_about 88 = .ok (.aload_n 0, 1) := by decide +kernel
theorem dX11_about_89 : decode cX11_about 89 = .ok (.getfield 63, 3) := by decide +kernel
theorem dX11_about_92 : decode cX11_about 92 = .ok (.getfield 128, 3) := by decide +kernel
theorem dX11_about_95 : decode cX11_about 95 = .ok (.bipush 30, 2) := by decide +kernel
theorem dX11_about_97 : decode cX11_about 97 = .ok (.iaload, 1) := by decide +kernel
theorem dX11_about_98 : decode cX11_about 98 = .ok (.ireturn, 1) := by decide +kernel
theorem dX11_about_99 : decode cX11_about 99 = .ok (.aload_n 0, 1) := by decide +kernel
theorem dX11_about_100 : decode cX11_about 100 = .ok (.getfield 63, 3) := by decide +kernel
theorem dX11_about_103 : decode cX11_about 103 = .ok (.getfield 128, 3) := by decide +kernel
theorem dX11_about_106 : decode cX11_about 106 = .ok (.bipush 31, 2) := by decide +kernel
theorem dX11_about_108 : decode cX11_about 108 = .ok (.iaload, 1) := by decide +kernel
theorem dX11_about_109 : decode cX11_about 109 = .ok (.ireturn, 1) := by decide +kernel
theorem dX11_about_110 : decode cX11_about 110 = .ok (.aload_n 0, 1) := by decide +kernel
theorem dX11_about_111 : decode cX11_about 111 = .ok (.getfield 63, 3) := by decide +kernel
theorem dX11_about_114 : decode cX11_about 114 = .ok (.getfield 312, 3) := by decide +kernel
theorem dX11_about_117 : decode cX11_about 117 = .ok (.ireturn, 1) := by decide +kernel
theorem dX11_about_118 : decode cX11_about 118 = .ok (.aload_n 0, 1) := by decide +kernel
theorem dX11_about_119 : decode cX11_about 119 = .ok (.getfield 63, 3) := by decide +kernel
theorem dX11_about_122 : decode cX11_about 122 = .ok (.getfield 315, 3) := by decide +kernel
theorem dX11_about_125 : decode cX11_about 125 = .ok (.ireturn, 1) := by decide +kernel
theorem dX11_about_126 : decode cX11_about 126 = .ok (.aload_n 0, 1) := by decide +kernel
theorem dX11_about_127 : decode cX11_about 127 = .ok (.getfield 79, 3) := by decide +kernel
theorem dX11_about_130 : decode cX11_about 130 = .ok (.getfield 318, 3) := by decide +kernel
theorem dX11_about_133 : decode cX11_about 133 = .ok (.ireturn, 1) := by decide +kernel
theorem dX11_about_134 : decode cX11_about 134 = .ok (.aload_n 0, 1) := by decide +kernel
theorem dX11_about_135 : decode cX11_about 135 = .ok (.getfield 79, 3) := by decide +kernel
theorem dX11_about_138 : decode cX11_about 138 = .ok (.getfield 321, 3) := by decide +kernel
theorem dX11_about_141 : decode cX11_about 141 = .ok (.ireturn, 1) := by decide +kernel
theorem dX11_about_142 : decode cX11_about 142 = .ok (.aload_n 0, 1) := by decide +kernel
theorem dX11_about_143 : decode cX11_about 143 = .ok (.getfield 22, 3) := by decide +kernel
theorem dX11_about_146 : decode cX11_about 146 = .ok (.getfield 86, 3) := by decide +kernel
theorem dX11_about_149 : decode cX11_about 149 = .ok (.ireturn, 1) := by decide +kernel
theorem dX11_about_150 : decode cX11_about 150 = .ok (.aload_n 0, 1) := by decide +kernel
theorem dX11_about_151 : decode cX11_about 151 = .ok (.getfield 10, 3) := by decide +kernel
theorem dX11_about_154 : decode cX11_about 154 = .ok (.getfield 324, 3) := by decide +kernel
theorem dX11_about_157 : decode cX11_about 157 = .ok (.getfield 328, 3) := by decide +kernel
theorem dX11_about_160 : decode cX11_about 160 = .ok (.ireturn, 1) := by decide +kernel
theorem dX11_about_161 : decode cX11_about 161 = .ok (.aload_n 0, 1) := by decide +kernel
theorem dX11_about_162 : decode cX11_about 162 = .ok (.getfield 49, 3) := by decide +kernel
theorem dX11_about_165 : decode cX11_about 165 = .ok (.getfield 187, 3) := by decide +kernel
theorem dX11_about_168 : decode cX11_about 168 = .ok (.ireturn, 1) := by decide +kernel
theorem dX11_about_169 : decode cX11_about 169 = .ok (.iconst (-1), 1) := by decide +kernel
theorem dX11_about_170 : decode cX11_about 170 = .ok (.ireturn, 1) := by decide +kernel
set_option maxRecDepth 20000 in
theorem ggX11_walks_X4_countWalks : GoodIn wsX11_walks wsX4_countWalks := goodIn_r _ [6, 7, 8, 9, 10, 11, 12, 13, 14, 5, 15, 16, 17, 18, 19, 20, 21, 22, 23, 24, 25, 26, 27, 28, 29, 30, 31, 32, 33, 34, 35, 36, 37, 38, 39, 40, 41, 42, 53, 54, 55, 56, 57, 58, 59, 60, 61, 62, 63, 64, 65, 66, 67, 68, 69, 70, 71, 72, 73, 74, 75, 76, 77, 78, 79, 80, 81, 82, 83] (by decide +kernel) (by decide +kernel)
set_option maxRecDepth 20000 in
theorem gX11_walks_X4_countWalks : GoodIn wsX11_walks (wsV RX11 291 RX4 yX4_countWalks wsX4_countWalks) := goodIn_app (goodIn_of _ (by decide +kernel)) ggX11_walks_X4_countWalks
set_option maxRecDepth 20000 in
theorem ggX11_certain_X11_isMinute : GoodIn wsX11_certain wsX11_isMinute := goodIn_r _ [5] (by decide +kernel) (by decide +kernel)
set_option maxRecDepth 20000 in
theorem gX11_certain_X11_isMinute : GoodIn wsX11_certain (va_wsS RX11 275 yX11_isMinute wsX11_isMinute) := goodIn_app (goodIn_of _ (by decide +kernel)) ggX11_certain_X11_isMinute
set_option maxRecDepth 20000 in
theorem ggX11_certain_X4_countWalks : GoodIn wsX11_certain wsX4_countWalks := goodIn_r _ [10, 11, 12, 13, 14, 15, 16, 17, 18, 9, 19, 20, 21, 22, 23, 24, 25, 26, 27, 28, 29, 30, 31, 32, 33, 34, 35, 36, 37, 38, 39, 40, 41, 42, 43, 44, 45, 46, 65, 66, 67, 68, 69, 70, 71, 72, 73, 74, 75, 76, 77, 78, 79, 80, 81, 82, 83, 84, 85, 86, 87, 88, 89, 90, 91, 92, 93, 94, 95] (by decide +kernel) (by decide +kernel)
set_option maxRecDepth 20000 in
theorem gX11_certain_X4_countWalks : GoodIn wsX11_certain (wsV RX11 291 RX4 yX4_countWalks wsX4_countWalks) := goodIn_app (goodIn_of _ (by decide +kernel)) ggX11_certain_X4_countWalks
set_option maxRecDepth 20000 in
theorem ggX11_certain_X4_onlyRoom : GoodIn wsX11_certain wsX4_onlyRoom := goodIn_r _ [50, 11, 12, 13, 51, 52, 53, 9, 54, 14, 15, 65, 66, 67, 68, 69, 70, 71, 72, 73, 74, 75, 76, 77, 78, 79, 80, 81, 82, 83, 84, 85, 86, 87, 88, 89, 90, 91, 92, 93, 94, 95] (by decide +kernel) (by decide +kernel)
set_option maxRecDepth 20000 in
theorem gX11_certain_X4_onlyRoom : GoodIn wsX11_certain (wsV RX11 294 RX4 yX4_onlyRoom wsX4_onlyRoom) := goodIn_app (goodIn_of _ (by decide +kernel)) ggX11_certain_X4_onlyRoom
set_option maxRecDepth 20000 in
theorem ggX11_ask_X4_bestMinute : GoodIn wsX11_ask wsX4_bestMinute := goodIn_r _ [46, 47, 48, 49, 5, 50, 7, 8, 9, 51, 52, 53, 54, 55, 56, 57, 58, 10, 11, 70, 71, 72, 73, 74, 75, 76, 77, 78, 79, 80, 81, 82, 83, 84, 85, 86, 87, 88, 89, 90, 91, 92, 93, 94, 95, 96, 97, 98, 99, 100] (by decide +kernel) (by decide +kernel)
set_option maxRecDepth 20000 in
theorem gX11_ask_X4_bestMinute : GoodIn wsX11_ask (wsV RX11 297 RX4 yX4_bestMinute wsX4_bestMinute) := goodIn_app (goodIn_of _ (by decide +kernel)) ggX11_ask_X4_bestMinute
set_option maxRecDepth 20000 in
theorem ggX11_ask_X4_countWalks : GoodIn wsX11_ask wsX4_countWalks := goodIn_r _ [6, 7, 8, 9, 10, 11, 12, 13, 14, 5, 15, 16, 17, 18, 19, 20, 21, 22, 23, 24, 25, 26, 27, 28, 29, 30, 31, 32, 33, 34, 35, 36, 37, 38, 39, 40, 41, 42, 70, 71, 72, 73, 74, 75, 76, 77, 78, 79, 80, 81, 82, 83, 84, 85, 86, 87, 88, 89, 90, 91, 92, 93, 94, 95, 96, 97, 98, 99, 100] (by decide +kernel) (by decide +kernel)
set_option maxRecDepth 20000 in
theorem gX11_ask_X4_countWalks : GoodIn wsX11_ask (wsV RX11 291 RX4 yX4_countWalks wsX4_countWalks) := goodIn_app (goodIn_of _ (by decide +kernel)) ggX11_ask_X4_countWalks
set_option maxRecDepth 20000 in
theorem ggX11_ask_X4_mostLeft : GoodIn wsX11_ask wsX4_mostLeft := goodIn_r _ [50, 7, 8, 9, 51, 52, 53, 54, 55, 56, 57, 5, 58, 10, 11, 70, 71, 72, 73, 74, 75, 76, 77, 78, 79, 80, 81, 82, 83, 84, 85, 86, 87, 88, 89, 90, 91, 92, 93, 94, 95, 96, 97, 98, 99, 100] (by decide +kernel) (by decide +kernel)
set_option maxRecDepth 20000 in
theorem gX11_ask_X4_mostLeft : GoodIn wsX11_ask (wsV RX11 300 RX4 yX4_mostLeft wsX4_mostLeft) := goodIn_app (goodIn_of _ (by decide +kernel)) ggX11_ask_X4_mostLeft
set_option maxRecDepth 20000 in
theorem ggX11_image_X3_putInBox : GoodIn wsX11_image wsX3_putInBox := goodIn_r _ [6, 7, 8, 9, 10, 11, 12, 13, 24, 25, 26, 27, 28, 29, 30, 31, 32] (by decide +kernel) (by decide +kernel)
set_option maxRecDepth 20000 in
theorem gX11_image_X3_putInBox : GoodIn wsX11_image (wsV RX11 303 RX3 yX3_putInBox wsX3_putInBox) := goodIn_app (goodIn_of _ (by decide +kernel)) ggX11_image_X3_putInBox
set_option maxRecDepth 20000 in
theorem ggX11_back_X3_takeFromBox : GoodIn wsX11_back wsX3_takeFromBox := goodIn_r _ [6, 7, 8, 9, 10, 11, 12, 13, 14, 15, 16, 5, 17, 18, 19, 20, 21, 32, 33, 34, 35, 36, 37, 38, 39, 40] (by decide +kernel) (by decide +kernel)
set_option maxRecDepth 20000 in
theorem gX11_back_X3_takeFromBox : GoodIn wsX11_back (wsV RX11 306 RX3 yX3_takeFromBox wsX3_takeFromBox) := goodIn_app (goodIn_of _ (by decide +kernel)) ggX11_back_X3_takeFromBox
theorem iw_X11_walks_X11 : ∀ w ∈ wsX110, w ∈ wsX11_walks := fun _ h => List.mem_cons_of_mem _ (List.mem_append_left _ (List.mem_append_left _ (List.mem_append_left _ (List.mem_append_right _ h))))
theorem iw_X11_certain_X11 : ∀ w ∈ wsX110, w ∈ wsX11_certain := fun _ h => List.mem_cons_of_mem _ (List.mem_append_left _ (List.mem_append_left _ (List.mem_append_left _ (List.mem_append_right _ h))))
theorem iw_X11_ask_X11 : ∀ w ∈ wsX110, w ∈ wsX11_ask := fun _ h => List.mem_cons_of_mem _ (List.mem_append_left _ (List.mem_append_left _ (List.mem_append_left _ (List.mem_append_right _ h))))
theorem iw_X11_image_X11 : ∀ w ∈ wsX110, w ∈ wsX11_image := fun _ h => List.mem_cons_of_mem _ (List.mem_append_left _ (List.mem_append_right _ h))
theorem iw_X11_back_X11 : ∀ w ∈ wsX110, w ∈ wsX11_back := fun _ h => List.mem_cons_of_mem _ (List.mem_append_left _ (List.mem_append_right _ h))
theorem iw_X11_about_X1 : ∀ w ∈ wsX10, w ∈ wsX11_about := fun _ h => List.mem_cons_of_mem _ (List.mem_append_left _ (List.mem_append_right _ h))
theorem iw_X11_about_X11 : ∀ w ∈ wsX110, w ∈ wsX11_about := fun _ h => List.mem_cons_of_mem _ (List.mem_append_left _ (List.mem_append_left _ (List.mem_append_left _ (List.mem_append_left _ (List.mem_append_left _ (List.mem_append_left _ (List.mem_append_right _ h)))))))
theorem iw_X11_about_X3 : ∀ w ∈ wsX30, w ∈ wsX11_about := fun _ h => List.mem_cons_of_mem _ (List.mem_append_left _ (List.mem_append_left _ (List.mem_append_left _ (List.mem_append_left _ (List.mem_append_right _ h)))))
theorem iw_X11_about_X4 : ∀ w ∈ wsX40, w ∈ wsX11_about := fun _ h => List.mem_cons_of_mem _ (List.mem_append_left _ (List.mem_append_left _ (List.mem_append_left _ (List.mem_append_right _ h))))
theorem iw_X11_about_X5 : ∀ w ∈ wsX50, w ∈ wsX11_about := fun _ h => List.mem_cons_of_mem _ (List.mem_append_left _ (List.mem_append_left _ (List.mem_append_left _ (List.mem_append_left _ (List.mem_append_left _ (List.mem_append_right _ h))))))
theorem iw_X11_about_X7 : ∀ w ∈ wsX70, w ∈ wsX11_about := fun _ h => List.mem_cons_of_mem _ (List.mem_append_right _ h)
theorem iw_X11_about_X8 : ∀ w ∈ wsX80, w ∈ wsX11_about := fun _ h => List.mem_cons_of_mem _ (List.mem_append_left _ (List.mem_append_left _ (List.mem_append_right _ h)))
