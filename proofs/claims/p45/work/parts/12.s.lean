def wsX3_farOff : List Cond := .code yX3_farOff cX3_farOff 4 (some .int) :: ([.fieldLink RX3 30 "SoldHouse$Memory" "floor" "LSoldHouse$Floor;", .methodLink RX3 65 yX0_farOf, .instanceMethod yX0_farOf, .selects RX0 yX0_farOf yX0_farOf, .initialized RX0, .code yX0_farOf cX0_farOf 3 (some .int), .fieldLink RX0 15 "SoldHouse$Floor" "far" "[I"] ++ wsX30 ++ wsX00)
def wsX3_sureOf_r1 : List Cond := [Cond.fieldLink RX3 30 "SoldHouse$Memory" "floor" "LSoldHouse$Floor;", Cond.fieldLink RX3 34 "SoldHouse$Floor" "plan" "LSoldHouse$Plan;", Cond.fieldLink RX3 69 "SoldHouse$Plan" "sure" "LSoldHouse$Formula;", Cond.fieldLink RX3 73 "SoldHouse$Formula" "told" "Z", Cond.fieldLink RX3 79 "SoldHouse$Plan" "us" "[I", Cond.fieldLink RX3 82 "SoldHouse$Plan" "them" "[I", Cond.methodLink RX3 97 Lib.Math.min.name, Cond.static Lib.Math.min.name, Cond.initialized "java/lang/Math", Cond.code Lib.Math.min.name Lib.Math.min.code 2 (some .int), Cond.methodLink RX3 102 Lib.Math.max.name, Cond.static Lib.Math.max.name, Cond.code Lib.Math.max.name Lib.Math.max.code 2 (some .int), Cond.methodLink RX3 85 yX3_farOff, Cond.instanceMethod yX3_farOff, Cond.selects RX3 yX3_farOff yX3_farOff, Cond.initialized RX3, Cond.code yX3_farOff cX3_farOff 4 (some .int), Cond.methodLink RX3 65 yX0_farOf, Cond.instanceMethod yX0_farOf, Cond.selects RX0 yX0_farOf yX0_farOf, Cond.initialized RX0, Cond.code yX0_farOf cX0_farOf 3 (some .int), Cond.fieldLink RX0 15 "SoldHouse$Floor" "far" "[I"]
def wsX3_sureOf_r2 : List Cond := [Cond.methodLink RX3 89 yX1_know, Cond.instanceMethod yX1_know, Cond.selects RX1 yX1_know yX1_know, Cond.initialized RX1, Cond.code yX1_know cX1_know 6 none, Cond.fieldLink RX1 16 "SoldHouse$Formula" "known" "[I", Cond.methodLink RX3 93 yX1_work, Cond.instanceMethod yX1_work, Cond.selects RX1 yX1_work yX1_work, Cond.code yX1_work cX1_work 4 (some .int), Cond.fieldLink RX1 19 "SoldHouse$Formula" "size" "I", Cond.fieldLink RX1 9 "SoldHouse$Formula" "steps" "[I", Cond.fieldLink RX1 13 "SoldHouse$Formula" "stack" "[I", Cond.methodLink RX1 30 yX1_join, Cond.static yX1_join, Cond.code yX1_join cX1_join 3 (some .int)]
def wsX3_sureOf : List Cond := .code yX3_sureOf cX3_sureOf 5 (some .int) :: ((wsX3_sureOf_r1 ++ wsX3_sureOf_r2) ++ wsX30 ++ wsX00 ++ wsX50 ++ wsX10)
def wsX3_speak : List Cond := .code yX3_speak cX3_speak 3 none :: ([.fieldLink RX3 11 "SoldHouse$Memory" "now" "[I", .methodLink RX3 97 Lib.Math.min.name, .static Lib.Math.min.name, .initialized "java/lang/Math", .code Lib.Math.min.name Lib.Math.min.code 2 (some .int)] ++ wsX30)
def wsX3_bring : List Cond := .code yX3_bring cX3_bring 3 none :: ([.fieldLink RX3 11 "SoldHouse$Memory" "now" "[I"] ++ wsX30)
def wsX3_passDay_r1 : List Cond := [Cond.fieldLink RX3 30 "SoldHouse$Memory" "floor" "LSoldHouse$Floor;", Cond.fieldLink RX3 34 "SoldHouse$Floor" "plan" "LSoldHouse$Plan;", Cond.fieldLink RX3 105 "SoldHouse$Plan" "rooms" "I", Cond.methodLink RX3 102 Lib.Math.max.name, Cond.static Lib.Math.max.name, Cond.initialized "java/lang/Math", Cond.code Lib.Math.max.name Lib.Math.max.code 2 (some .int), Cond.fieldLink RX3 40 "SoldHouse$Plan" "things" "I", Cond.methodLink RX3 108 yX3_sureOf, Cond.instanceMethod yX3_sureOf, Cond.selects RX3 yX3_sureOf yX3_sureOf, Cond.initialized RX3, Cond.code yX3_sureOf cX3_sureOf 5 (some .int), Cond.fieldLink RX3 69 "SoldHouse$Plan" "sure" "LSoldHouse$Formula;", Cond.fieldLink RX3 73 "SoldHouse$Formula" "told" "Z", Cond.fieldLink RX3 79 "SoldHouse$Plan" "us" "[I", Cond.fieldLink RX3 82 "SoldHouse$Plan" "them" "[I", Cond.methodLink RX3 97 Lib.Math.min.name, Cond.static Lib.Math.min.name, Cond.code Lib.Math.min.name Lib.Math.min.code 2 (some .int), Cond.methodLink RX3 85 yX3_farOff, Cond.instanceMethod yX3_farOff, Cond.selects RX3 yX3_farOff yX3_farOff, Cond.code yX3_farOff cX3_farOff 4 (some .int)]
def wsX3_passDay_r2 : List Cond := [Cond.methodLink RX3 65 yX0_farOf, Cond.instanceMethod yX0_farOf, Cond.selects RX0 yX0_farOf yX0_farOf, Cond.initialized RX0, Cond.code yX0_farOf cX0_farOf 3 (some .int), Cond.fieldLink RX0 15 "SoldHouse$Floor" "far" "[I", Cond.methodLink RX3 89 yX1_know, Cond.instanceMethod yX1_know, Cond.selects RX1 yX1_know yX1_know, Cond.initialized RX1, Cond.code yX1_know cX1_know 6 none, Cond.fieldLink RX1 16 "SoldHouse$Formula" "known" "[I", Cond.methodLink RX3 93 yX1_work, Cond.instanceMethod yX1_work, Cond.selects RX1 yX1_work yX1_work, Cond.code yX1_work cX1_work 4 (some .int), Cond.fieldLink RX1 19 "SoldHouse$Formula" "size" "I", Cond.fieldLink RX1 9 "SoldHouse$Formula" "steps" "[I", Cond.fieldLink RX1 13 "SoldHouse$Formula" "stack" "[I", Cond.methodLink RX1 30 yX1_join, Cond.static yX1_join, Cond.code yX1_join cX1_join 3 (some .int)]
def wsX3_passDay : List Cond := .code yX3_passDay cX3_passDay 5 (some .int) :: ((wsX3_passDay_r1 ++ wsX3_passDay_r2) ++ wsX30 ++ wsX00 ++ wsX50 ++ wsX10)
def wsX3_mostMended : List Cond := .code yX3_mostMended cX3_mostMended 6 (some .int) :: ([.fieldLink RX3 30 "SoldHouse$Memory" "floor" "LSoldHouse$Floor;", .fieldLink RX3 34 "SoldHouse$Floor" "plan" "LSoldHouse$Plan;", .fieldLink RX3 40 "SoldHouse$Plan" "things" "I", .fieldLink RX3 11 "SoldHouse$Memory" "now" "[I", .methodLink RX3 85 yX3_farOff, .instanceMethod yX3_farOff, .selects RX3 yX3_farOff yX3_farOff, .initialized RX3, .code yX3_farOff cX3_farOff 4 (some .int), .methodLink RX3 65 yX0_farOf, .instanceMethod yX0_farOf, .selects RX0 yX0_farOf yX0_farOf, .initialized RX0, .code yX0_farOf cX0_farOf 3 (some .int), .fieldLink RX0 15 "SoldHouse$Floor" "far" "[I"] ++ wsX30 ++ wsX00 ++ wsX50)
def wsX3_commonOf : List Cond := .code yX3_commonOf cX3_commonOf 6 (some .int) :: ([])
def wsX3_oddsToStay_r1 : List Cond := [Cond.fieldLink RX3 11 "SoldHouse$Memory" "now" "[I", Cond.methodLink RX3 102 Lib.Math.max.name, Cond.static Lib.Math.max.name, Cond.initialized "java/lang/Math", Cond.code Lib.Math.max.name Lib.Math.max.code 2 (some .int), Cond.methodLink RX3 108 yX3_sureOf, Cond.instanceMethod yX3_sureOf, Cond.selects RX3 yX3_sureOf yX3_sureOf, Cond.initialized RX3, Cond.code yX3_sureOf cX3_sureOf 5 (some .int), Cond.fieldLink RX3 30 "SoldHouse$Memory" "floor" "LSoldHouse$Floor;", Cond.fieldLink RX3 34 "SoldHouse$Floor" "plan" "LSoldHouse$Plan;", Cond.fieldLink RX3 69 "SoldHouse$Plan" "sure" "LSoldHouse$Formula;", Cond.fieldLink RX3 73 "SoldHouse$Formula" "told" "Z", Cond.fieldLink RX3 79 "SoldHouse$Plan" "us" "[I", Cond.fieldLink RX3 82 "SoldHouse$Plan" "them" "[I", Cond.methodLink RX3 97 Lib.Math.min.name, Cond.static Lib.Math.min.name, Cond.code Lib.Math.min.name Lib.Math.min.code 2 (some .int), Cond.methodLink RX3 85 yX3_farOff, Cond.instanceMethod yX3_farOff, Cond.selects RX3 yX3_farOff yX3_farOff, Cond.code yX3_farOff cX3_farOff 4 (some .int), Cond.methodLink RX3 65 yX0_farOf]
def wsX3_oddsToStay_r2 : List Cond := [Cond.instanceMethod yX0_farOf, Cond.selects RX0 yX0_farOf yX0_farOf, Cond.initialized RX0, Cond.code yX0_farOf cX0_farOf 3 (some .int), Cond.fieldLink RX0 15 "SoldHouse$Floor" "far" "[I", Cond.methodLink RX3 89 yX1_know, Cond.instanceMethod yX1_know, Cond.selects RX1 yX1_know yX1_know, Cond.initialized RX1, Cond.code yX1_know cX1_know 6 none, Cond.fieldLink RX1 16 "SoldHouse$Formula" "known" "[I", Cond.methodLink RX3 93 yX1_work, Cond.instanceMethod yX1_work, Cond.selects RX1 yX1_work yX1_work, Cond.code yX1_work cX1_work 4 (some .int), Cond.fieldLink RX1 19 "SoldHouse$Formula" "size" "I", Cond.fieldLink RX1 9 "SoldHouse$Formula" "steps" "[I", Cond.fieldLink RX1 13 "SoldHouse$Formula" "stack" "[I", Cond.methodLink RX1 30 yX1_join, Cond.static yX1_join, Cond.code yX1_join cX1_join 3 (some .int), Cond.methodLink RX3 112 yX3_commonOf, Cond.static yX3_commonOf, Cond.code yX3_commonOf cX3_commonOf 6 (some .int)]
def wsX3_oddsToStay : List Cond := .code yX3_oddsToStay cX3_oddsToStay 7 (some .int) :: ((wsX3_oddsToStay_r1 ++ wsX3_oddsToStay_r2) ++ wsX30 ++ wsX00 ++ wsX50 ++ wsX10)
def wsX10_isOurs : List Cond := .code yX10_isOurs cX10_isOurs 2 (some .boolean) :: ([.fieldLink RX10 9 "SoldHouse$Trader" "memory" "LSoldHouse$Memory;", .fieldLink RX10 44 "SoldHouse$Memory" "now" "[I"] ++ wsX100 ++ wsX30)
def wsX10_ourGain : List Cond := .code yX10_ourGain cX10_ourGain 3 (some .int) :: ([.fieldLink RX10 9 "SoldHouse$Trader" "memory" "LSoldHouse$Memory;", .fieldLink RX10 15 "SoldHouse$Memory" "floor" "LSoldHouse$Floor;", .fieldLink RX10 21 "SoldHouse$Floor" "plan" "LSoldHouse$Plan;", .fieldLink RX10 37 "SoldHouse$Plan" "us" "[I"] ++ wsX100 ++ wsX30 ++ wsX00 ++ wsX50)
def wsX10_theirGain : List Cond := .code yX10_theirGain cX10_theirGain 3 (some .int) :: ([.fieldLink RX10 9 "SoldHouse$Trader" "memory" "LSoldHouse$Memory;", .fieldLink RX10 15 "SoldHouse$Memory" "floor" "LSoldHouse$Floor;", .fieldLink RX10 21 "SoldHouse$Floor" "plan" "LSoldHouse$Plan;", .fieldLink RX10 33 "SoldHouse$Plan" "them" "[I"] ++ wsX100 ++ wsX30 ++ wsX00 ++ wsX50)
def wsX10_gainOf : List Cond := .code yX10_gainOf cX10_gainOf 3 (some .int) :: ([.methodLink RX10 55 yX10_ourGain, .instanceMethod yX10_ourGain, .selects RX10 yX10_ourGain yX10_ourGain, .initialized RX10, .code yX10_ourGain cX10_ourGain 3 (some .int), .fieldLink RX10 9 "SoldHouse$Trader" "memory" "LSoldHouse$Memory;", .fieldLink RX10 15 "SoldHouse$Memory" "floor" "LSoldHouse$Floor;", .fieldLink RX10 21 "SoldHouse$Floor" "plan" "LSoldHouse$Plan;", .fieldLink RX10 37 "SoldHouse$Plan" "us" "[I", .methodLink RX10 58 yX10_theirGain, .instanceMethod yX10_theirGain, .selects RX10 yX10_theirGain yX10_theirGain, .code yX10_theirGain cX10_theirGain 3 (some .int), .fieldLink RX10 33 "SoldHouse$Plan" "them" "[I"] ++ wsX100 ++ wsX30 ++ wsX00 ++ wsX50)
def wsX10_isFair : List Cond := .code yX10_isFair cX10_isFair 4 (some .boolean) :: ([.fieldLink RX10 9 "SoldHouse$Trader" "memory" "LSoldHouse$Memory;", .fieldLink RX10 15 "SoldHouse$Memory" "floor" "LSoldHouse$Floor;", .fieldLink RX10 21 "SoldHouse$Floor" "plan" "LSoldHouse$Plan;", .fieldLink RX10 27 "SoldHouse$Plan" "things" "I", .methodLink RX10 40 yX10_isOurs, .instanceMethod yX10_isOurs, .selects RX10 yX10_isOurs yX10_isOurs, .initialized RX10, .code yX10_isOurs cX10_isOurs 2 (some .boolean), .fieldLink RX10 44 "SoldHouse$Memory" "now" "[I", .methodLink RX10 55 yX10_ourGain, .instanceMethod yX10_ourGain, .selects RX10 yX10_ourGain yX10_ourGain, .code yX10_ourGain cX10_ourGain 3 (some .int), .fieldLink RX10 37 "SoldHouse$Plan" "us" "[I", .methodLink RX10 58 yX10_theirGain, .instanceMethod yX10_theirGain, .selects RX10 yX10_theirGain yX10_theirGain, .code yX10_theirGain cX10_theirGain 3 (some .int), .fieldLink RX10 33 "SoldHouse$Plan" "them" "[I"] ++ wsX100 ++ wsX30 ++ wsX00 ++ wsX50)
def wsX10_bestPair_r1 : List Cond := [Cond.methodLink RX10 47 yX10_isFair, Cond.instanceMethod yX10_isFair, Cond.selects RX10 yX10_isFair yX10_isFair, Cond.initialized RX10, Cond.code yX10_isFair cX10_isFair 4 (some .boolean), Cond.fieldLink RX10 9 "SoldHouse$Trader" "memory" "LSoldHouse$Memory;", Cond.fieldLink RX10 15 "SoldHouse$Memory" "floor" "LSoldHouse$Floor;", Cond.fieldLink RX10 21 "SoldHouse$Floor" "plan" "LSoldHouse$Plan;", Cond.fieldLink RX10 27 "SoldHouse$Plan" "things" "I", Cond.methodLink RX10 40 yX10_isOurs, Cond.instanceMethod yX10_isOurs, Cond.selects RX10 yX10_isOurs yX10_isOurs, Cond.code yX10_isOurs cX10_isOurs 2 (some .boolean), Cond.fieldLink RX10 44 "SoldHouse$Memory" "now" "[I", Cond.methodLink RX10 55 yX10_ourGain, Cond.instanceMethod yX10_ourGain, Cond.selects RX10 yX10_ourGain yX10_ourGain, Cond.code yX10_ourGain cX10_ourGain 3 (some .int), Cond.fieldLink RX10 37 "SoldHouse$Plan" "us" "[I", Cond.methodLink RX10 58 yX10_theirGain, Cond.instanceMethod yX10_theirGain, Cond.selects RX10 yX10_theirGain yX10_theirGain, Cond.code yX10_theirGain cX10_theirGain 3 (some .int), Cond.fieldLink RX10 33 "SoldHouse$Plan" "them" "[I"]
def wsX10_bestPair_r2 : List Cond := [Cond.methodLink RX10 51 yX10_gainOf, Cond.instanceMethod yX10_gainOf, Cond.selects RX10 yX10_gainOf yX10_gainOf, Cond.code yX10_gainOf cX10_gainOf 3 (some .int)]
def wsX10_bestPair : List Cond := .code yX10_bestPair cX10_bestPair 6 (some .int) :: ((wsX10_bestPair_r1 ++ wsX10_bestPair_r2) ++ wsX100 ++ wsX30 ++ wsX00 ++ wsX50)
def wsX10_betterElsewhere : List Cond := .code yX10_betterElsewhere cX10_betterElsewhere 5 (some .int) :: ([.fieldLink RX10 9 "SoldHouse$Trader" "memory" "LSoldHouse$Memory;", .fieldLink RX10 15 "SoldHouse$Memory" "floor" "LSoldHouse$Floor;", .fieldLink RX10 21 "SoldHouse$Floor" "plan" "LSoldHouse$Plan;", .fieldLink RX10 27 "SoldHouse$Plan" "things" "I", .fieldLink RX10 33 "SoldHouse$Plan" "them" "[I", .fieldLink RX10 37 "SoldHouse$Plan" "us" "[I", .methodLink RX10 40 yX10_isOurs, .instanceMethod yX10_isOurs, .selects RX10 yX10_isOurs yX10_isOurs, .initialized RX10, .code yX10_isOurs cX10_isOurs 2 (some .boolean), .fieldLink RX10 44 "SoldHouse$Memory" "now" "[I"] ++ wsX100 ++ wsX30 ++ wsX00 ++ wsX50)
def wsX10_worthOf : List Cond := .code yX10_worthOf cX10_worthOf 5 (some .int) :: ([.fieldLink RX10 9 "SoldHouse$Trader" "memory" "LSoldHouse$Memory;", .fieldLink RX10 15 "SoldHouse$Memory" "floor" "LSoldHouse$Floor;", .fieldLink RX10 21 "SoldHouse$Floor" "plan" "LSoldHouse$Plan;", .fieldLink RX10 27 "SoldHouse$Plan" "things" "I", .fieldLink RX10 44 "SoldHouse$Memory" "now" "[I"] ++ wsX100 ++ wsX30 ++ wsX00 ++ wsX50)
def wsX4_note : List Cond := .code yX4_note cX4_note 4 (some .int) :: ([.fieldLink RX4 37 "SoldHouse$Night" "count" "I", .fieldLink RX4 11 "SoldHouse$Night" "minute" "[I", .fieldLink RX4 15 "SoldHouse$Night" "rooms" "[I", .fieldLink RX4 18 "SoldHouse$Night" "toldAt" "[I", .fieldLink RX4 41 "SoldHouse$Night" "time" "I", .fieldLink RX4 21 "SoldHouse$Night" "untoldAt" "[I"] ++ wsX40)
def wsX4_takeBack : List Cond := .code yX4_takeBack cX4_takeBack 2 (some .boolean) :: ([.fieldLink RX4 37 "SoldHouse$Night" "count" "I", .fieldLink RX4 21 "SoldHouse$Night" "untoldAt" "[I", .fieldLink RX4 41 "SoldHouse$Night" "time" "I"] ++ wsX40)
def wsX4_through : List Cond := .code yX4_through cX4_through 3 (some .int) :: ([.fieldLink RX4 27 "SoldHouse$Night" "into" "[I", .fieldLink RX4 30 "SoldHouse$Night" "onward" "[I"] ++ wsX40)
def wsX4_openRooms : List Cond := .code yX4_openRooms cX4_openRooms 4 none :: ([.fieldLink RX4 24 "SoldHouse$Night" "open" "[I", .fieldLink RX4 37 "SoldHouse$Night" "count" "I", .fieldLink RX4 21 "SoldHouse$Night" "untoldAt" "[I", .fieldLink RX4 18 "SoldHouse$Night" "toldAt" "[I", .fieldLink RX4 11 "SoldHouse$Night" "minute" "[I", .fieldLink RX4 15 "SoldHouse$Night" "rooms" "[I", .methodLink RX4 82 yJ7_fill_53178, .static yJ7_fill_53178, .initialized RJ7, .code yJ7_fill_53178 cJ7_fill_53178 4 none] ++ wsX40)
def wsX4_isOpen : List Cond := .code yX4_isOpen cX4_isOpen 3 (some .boolean) :: ([.fieldLink RX4 24 "SoldHouse$Night" "open" "[I"] ++ wsX40)
def wsX4_sumAround : List Cond := .code yX4_sumAround cX4_sumAround 7 (some .int) :: ([.fieldLink RX4 33 "SoldHouse$Night" "floor" "LSoldHouse$Floor;", .fieldLink RX4 92 "SoldHouse$Floor" "next" "[I", .fieldLink RX4 49 "SoldHouse$Floor" "plan" "LSoldHouse$Plan;", .fieldLink RX4 55 "SoldHouse$Plan" "rooms" "I"] ++ wsX40 ++ wsX00 ++ wsX50)
def wsX4_comingTo : List Cond := .code yX4_comingTo cX4_comingTo 3 (some .int) :: ([.fieldLink RX4 27 "SoldHouse$Night" "into" "[I", .methodLink RX4 88 yX4_sumAround, .instanceMethod yX4_sumAround, .selects RX4 yX4_sumAround yX4_sumAround, .initialized RX4, .code yX4_sumAround cX4_sumAround 7 (some .int), .fieldLink RX4 33 "SoldHouse$Night" "floor" "LSoldHouse$Floor;", .fieldLink RX4 92 "SoldHouse$Floor" "next" "[I", .fieldLink RX4 49 "SoldHouse$Floor" "plan" "LSoldHouse$Plan;", .fieldLink RX4 55 "SoldHouse$Plan" "rooms" "I"] ++ wsX40 ++ wsX00 ++ wsX50)
def wsX4_goingOn : List Cond := .code yX4_goingOn cX4_goingOn 3 (some .int) :: ([.fieldLink RX4 30 "SoldHouse$Night" "onward" "[I", .methodLink RX4 88 yX4_sumAround, .instanceMethod yX4_sumAround, .selects RX4 yX4_sumAround yX4_sumAround, .initialized RX4, .code yX4_sumAround cX4_sumAround 7 (some .int), .fieldLink RX4 33 "SoldHouse$Night" "floor" "LSoldHouse$Floor;", .fieldLink RX4 92 "SoldHouse$Floor" "next" "[I", .fieldLink RX4 49 "SoldHouse$Floor" "plan" "LSoldHouse$Plan;", .fieldLink RX4 55 "SoldHouse$Plan" "rooms" "I"] ++ wsX40 ++ wsX00 ++ wsX50)
theorem dX3_farOff_0 : decode cX3_farOff 0 = .ok (.aload_n 0, 1) := by decide +kernel
theorem dX3_farOff_1 : decode cX3_farOff 1 = .ok (.getfield 30, 3) := by decide +kernel
theorem dX3_farOff_4 : decode cX3_farOff 4 = .ok (.aload_n 1, 1) := by decide +kernel
theorem dX3_farOff_5 : decode cX3_farOff 5 = .ok (.iconst 0, 1) := by decide +kernel
theorem dX3_farOff_6 : decode cX3_farOff 6 = .ok (.iload_n 2, 1) := by decide +kernel
theorem dX3_farOff_7 : decode cX3_farOff 7 = .ok (.iadd, 1) := by decide +kernel
theorem dX3_farOff_8 : decode cX3_farOff 8 = .ok (.iaload, 1) := by decide +kernel
theorem dX3_farOff_9 : decode cX3_farOff 9 = .ok (.aload_n 1, 1) := by decide +kernel
theorem dX3_farOff_10 : decode cX3_farOff 10 = .ok (.bipush 6, 2) := by decide +kernel
theorem dX3_farOff_12 : decode cX3_farOff 12 = .ok (.iload_n 2, 1) := by decide +kernel
theorem dX3_farOff_13 : decode cX3_farOff 13 = .ok (.iadd, 1) := by decide +kernel
theorem dX3_farOff_14 : decode cX3_farOff 14 = .ok (.iaload, 1) := by decide +kernel
theorem dX3_farOff_15 : decode cX3_farOff 15 = .ok (.invokevirtual 65, 3) := by decide +kernel
theorem dX3_farOff_18 : decode cX3_farOff 18 = .ok (.istore_n 3, 1) := by decide +kernel
theorem dX3_farOff_19 : decode cX3_farOff 19 = .ok (.iload_n 3, 1) := by decide +kernel
theorem dX3_farOff_20 : decode cX3_farOff 20 = .ok (.iconst (-1), 1) := by decide +kernel
theorem dX3_farOff_21 : decode cX3_farOff 21 = .ok (.if_icmp .ne 8, 3) := by decide +kernel
theorem dX3_farOff_24 : decode cX3_farOff 24 = .ok (.bipush 9, 2) := by decide +kernel
theorem dX3_farOff_26 : decode cX3_farOff 26 = .ok (.goto 4, 3) := by decide +kernel
theorem dX3_farOff_29 : decode cX3_farOff 29 = .ok (.iload_n 3, 1) := by decide +kernel
theorem dX3_farOff_30 : decode cX3_farOff 30 = .ok (.ireturn, 1) := by decide +kernel
theorem dX3_sureOf_0 : decode cX3_sureOf 0 = .ok (.aload_n 0, 1) := by decide +kernel
theorem dX3_sureOf_1 : decode cX3_sureOf 1 = .ok (.getfield 30, 3) := by decide +kernel
theorem dX3_sureOf_4 : decode cX3_sureOf 4 = .ok (.getfield 34, 3) := by decide +kernel
theorem dX3_sureOf_7 : decode cX3_sureOf 7 = .ok (.getfield 69, 3) := by decide +kernel
theorem dX3_sureOf_10 : decode cX3_sureOf 10 = .ok (.astore 4, 2) := by decide +kernel
theorem dX3_sureOf_12 : decode cX3_sureOf 12 = .ok (.aload 4, 2) := by decide +kernel
theorem dX3_sureOf_14 : decode cX3_sureOf 14 = .ok (.getfield 73, 3) := by decide +kernel
theorem dX3_sureOf_17 : decode cX3_sureOf 17 = .ok (.ifCond .ne 6, 3) := by decide +kernel
theorem dX3_sureOf_20 : decode cX3_sureOf 20 = .ok (.bipush 100, 2) := by decide +kernel
theorem dX3_sureOf_22 : decode cX3_sureOf 22 = .ok (.ireturn, 1) := by decide +kernel
theorem dX3_sureOf_23 : decode cX3_sureOf 23 = .ok (.aload 4, 2) := by decide +kernel
theorem dX3_sureOf_25 : decode cX3_sureOf 25 = .ok (.aload_n 0, 1) := by decide +kernel
theorem dX3_sureOf_26 : decode cX3_sureOf 26 = .ok (.getfield 30, 3) := by decide +kernel
theorem dX3_sureOf_29 : decode cX3_sureOf 29 = .ok (.getfield 34, 3) := by decide +kernel
theorem dX3_sureOf_32 : decode cX3_sureOf 32 = .ok (.getfield 79, 3) := by decide +kernel
theorem dX3_sureOf_35 : decode cX3_sureOf 35 = .ok (.iload_n 2, 1) := by decide +kernel
theorem dX3_sureOf_36 : decode cX3_sureOf 36 = .ok (.iaload, 1) := by decide +kernel
theorem dX3_sureOf_37 : decode cX3_sureOf 37 = .ok (.aload_n 0, 1) := by decide +kernel
theorem dX3_sureOf_38 : decode cX3_sureOf 38 = .ok (.getfield 30, 3) := by decide +kernel
theorem dX3_sureOf_41 : decode cX3_sureOf 41 = .ok (.getfield 34, 3) := by decide +kernel
theorem dX3_sureOf_44 : decode cX3_sureOf 44 = .ok (.getfield 82, 3) := by decide +kernel
theorem dX3_sureOf_47 : decode cX3_sureOf 47 = .ok (.iload_n 2, 1) := by decide +kernel
theorem dX3_sureOf_48 : decode cX3_sureOf 48 = .ok (.iaload, 1) := by decide +kernel
theorem dX3_sureOf_49 : decode cX3_sureOf 49 = .ok (.aload_n 0, 1) := by decide +kernel
theorem dX3_sureOf_50 : decode cX3_sureOf 50 = .ok (.aload_n 1, 1) := by decide +kernel
theorem dX3_sureOf_51 : decode cX3_sureOf 51 = .ok (.iload_n 2, 1) := by decide +kernel
theorem dX3_sureOf_52 : decode cX3_sureOf 52 = .ok (.invokevirtual 85, 3) := by decide +kernel
theorem dX3_sureOf_55 : decode cX3_sureOf 55 = .ok (.aload_n 1, 1) := by decide +kernel
theorem dX3_sureOf_56 : decode cX3_sureOf 56 = .ok (.bipush 18, 2) := by decide +kernel
theorem dX3_sureOf_58 : decode cX3_sureOf 58 = .ok (.iload_n 2, 1) := by decide +kernel
theorem dX3_sureOf_59 : decode cX3_sureOf 59 = .ok (.iadd, 1) := by decide +kernel
theorem dX3_sureOf_60 : decode cX3_sureOf 60 = .ok (.iaload, 1) := by decide +kernel
theorem dX3_sureOf_61 : decode cX3_sureOf 61 = .ok (.iload_n 3, 1) := by decide +kernel
theorem dX3_sureOf_62 : decode cX3_sureOf 62 = .ok (.invokevirtual 89, 3) := by decide +kernel
theorem dX3_sureOf_65 : decode cX3_sureOf 65 = .ok (.iconst 0, 1) := by decide +kernel
theorem dX3_sureOf_66 : decode cX3_sureOf 66 = .ok (.bipush 100, 2) := by decide +kernel
theorem dX3_sureOf_68 : decode cX3_sureOf 68 = .ok (.aload 4, 2) := by decide +kernel
theorem dX3_sureOf_70 : decode cX3_sureOf 70 = .ok (.invokevirtual 93, 3) := by decide +kernel
theorem dX3_sureOf_73 : decode cX3_sureOf 73 = .ok (.invokestatic 97, 3) := by decide +kernel
theorem dX3_sureOf_76 : decode cX3_sureOf 76 = .ok (.invokestatic 102, 3) := by decide +kernel
theorem dX3_sureOf_79 : decode cX3_sureOf 79 = .ok (.ireturn, 1) := by decide +kernel
theorem dX3_speak_0 : decode cX3_speak 0 = .ok (.aload_n 0, 1) := by decide +kernel
theorem dX3_speak_1 : decode cX3_speak 1 = .ok (.getfield 11, 3) := by decide +kernel
theorem dX3_speak_4 : decode cX3_speak 4 = .ok (.bipush 24, 2) := by decide +kernel
theorem dX3_speak_6 : decode cX3_speak 6 = .ok (.iload_n 1, 1) := by decide +kernel
theorem dX3_speak_7 : decode cX3_speak 7 = .ok (.iadd, 1) := by decide +kernel
theorem dX3_speak_8 : decode cX3_speak 8 = .ok (.iaload, 1) := by decide +kernel
theorem dX3_speak_9 : decode cX3_speak 9 = .ok (.iload_n 2, 1) := by decide +kernel
theorem dX3_speak_10 : decode cX3_speak 10 = .ok (.if_icmp .eq 38, 3) := by decide +kernel
theorem dX3_speak_13 : decode cX3_speak 13 = .ok (.aload_n 0, 1) := by decide +kernel
theorem dX3_speak_14 : decode cX3_speak 14 = .ok (.getfield 11, 3) := by decide +kernel
theorem dX3_speak_17 : decode cX3_speak 17 = .ok (.bipush 18, 2) := by decide +kernel
theorem dX3_speak_19 : decode cX3_speak 19 = .ok (.iload_n 1, 1) := by decide +kernel
theorem dX3_speak_20 : decode cX3_speak 20 = .ok (.iadd, 1) := by decide +kernel
theorem dX3_speak_21 : decode cX3_speak 21 = .ok (.bipush 99, 2) := by decide +kernel
theorem dX3_speak_23 : decode cX3_speak 23 = .ok (.aload_n 0, 1) := by decide +kernel
theorem dX3_speak_24 : decode cX3_speak 24 = .ok (.getfield 11, 3) := by decide +kernel
theorem dX3_speak_27 : decode cX3_speak 27 = .ok (.bipush 18, 2) := by decide +kernel
theorem dX3_speak_29 : decode cX3_speak 29 = .ok (.iload_n 1, 1) := by decide +kernel
theorem dX3_speak_30 : decode cX3_speak 30 = .ok (.iadd, 1) := by decide +kernel
theorem dX3_speak_31 : decode cX3_speak 31 = .ok (.iaload, 1) := by decide +kernel
theorem dX3_speak_32 : decode cX3_speak 32 = .ok (.iconst 1, 1) := by decide +kernel
theorem dX3_speak_33 : decode cX3_speak 33 = .ok (.iadd, 1) := by decide +kernel
theorem dX3_speak_34 : decode cX3_speak 34 = .ok (.invokestatic 97, 3) := by decide +kernel
theorem dX3_speak_37 : decode cX3_speak 37 = .ok (.iastore, 1) := by decide +kernel
theorem dX3_speak_38 : decode cX3_speak 38 = .ok (.aload_n 0, 1) := by decide +kernel
theorem dX3_speak_39 : decode cX3_speak 39 = .ok (.getfield 11, 3) := by decide +kernel
theorem dX3_speak_42 : decode cX3_speak 42 = .ok (.bipush 24, 2) := by decide +kernel
theorem dX3_speak_44 : decode cX3_speak 44 = .ok (.iload_n 1, 1) := by decide +kernel
theorem dX3_speak_45 : decode cX3_speak 45 = .ok (.iadd, 1) := by decide +kernel
theorem dX3_speak_46 : decode cX3_speak 46 = .ok (.iload_n 2, 1) := by decide +kernel
theorem dX3_speak_47 : decode cX3_speak 47 = .ok (.iastore, 1) := by decide +kernel
theorem dX3_speak_48 : decode cX3_speak 48 = .ok (.return_, 1) := by decide +kernel
theorem dX3_bring_0 : decode cX3_bring 0 = .ok (.aload_n 0, 1) := by decide +kernel
theorem dX3_bring_1 : decode cX3_bring 1 = .ok (.getfield 11, 3) := by decide +kernel
theorem dX3_bring_4 : decode cX3_bring 4 = .ok (.iconst 0, 1) := by decide +kernel
theorem dX3_bring_5 : decode cX3_bring 5 = .ok (.iload_n 1, 1) := by decide +kernel
theorem dX3_bring_6 : decode cX3_bring 6 = .ok (.iadd, 1) := by decide +kernel
theorem dX3_bring_7 : decode cX3_bring 7 = .ok (.iload_n 2, 1) := by decide +kernel
theorem dX3_bring_8 : decode cX3_bring 8 = .ok (.iastore, 1) := by decide +kernel
theorem dX3_bring_9 : decode cX3_bring 9 = .ok (.aload_n 0, 1) := by decide +kernel
theorem dX3_bring_10 : decode cX3_bring 10 = .ok (.getfield 11, 3) := by decide +kernel
theorem dX3_bring_13 : decode cX3_bring 13 = .ok (.bipush 18, 2) := by decide +kernel
theorem dX3_bring_15 : decode cX3_bring 15 = .ok (.iload_n 1, 1) := by decide +kernel
theorem dX3_bring_16 : decode cX3_bring 16 = .ok (.iadd, 1) := by decide +kernel
theorem dX3_bring_17 : decode cX3_bring 17 = .ok (.iconst 0, 1) := by decide +kernel
theorem dX3_bring_18 : decode cX3_bring 18 = .ok (.iastore, 1) := by decide +kernel
theorem dX3_bring_19 : decode cX3_bring 19 = .ok (.aload_n 0, 1) := by decide +kernel
theorem dX3_bring_20 : decode cX3_bring 20 = .ok (.getfield 11, 3) := by decide +kernel
theorem dX3_bring_23 : decode cX3_bring 23 = .ok (.bipush 24, 2) := by decide +kernel
theorem dX3_bring_25 : decode cX3_bring 25 = .ok (.iload_n 1, 1) := by decide +kernel
theorem dX3_bring_26 : decode cX3_bring 26 = .ok (.iadd, 1) := by decide +kernel
theorem dX3_bring_27 : decode cX3_bring 27 = .ok (.iconst (-1), 1) := by decide +kernel
theorem dX3_bring_28 : decode cX3_bring 28 = .ok (.iastore, 1) := by decide +kernel
theorem dX3_bring_29 : decode cX3_bring 29 = .ok (.return_, 1) := by decide +kernel
theorem dX3_passDay_0 : decode cX3_passDay 0 = .ok (.iconst 0, 1) := by decide +kernel
theorem dX3_passDay_1 : decode cX3_passDay 1 = .ok (.istore_n 2, 1) := by decide +kernel
theorem dX3_passDay_2 : decode cX3_passDay 2 = .ok (.iconst 1, 1) := by decide +kernel
theorem dX3_passDay_3 : decode cX3_passDay 3 = .ok (.aload_n 0, 1) := by decide +kernel
theorem dX3_passDay_4 : decode cX3_passDay 4 = .ok (.getfield 30, 3) := by decide +kernel
theorem dX3_passDay_7 : decode cX3_passDay 7 = .ok (.getfield 34, 3) := by decide +kernel
theorem dX3_passDay_10 : decode cX3_passDay 10 = .ok (.getfield 105, 3) := by decide +kernel
theorem dX3_passDay_13 : decode cX3_passDay 13 = .ok (.invokestatic 102, 3) := by decide +kernel
theorem dX3_passDay_16 : decode cX3_passDay 16 = .ok (.istore_n 3, 1) := by decide +kernel
theorem dX3_passDay_17 : decode cX3_passDay 17 = .ok (.iconst 0, 1) := by decide +kernel
theorem dX3_passDay_18 : decode cX3_passDay 18 = .ok (.istore 4, 2) := by decide +kernel
theorem dX3_passDay_20 : decode cX3_passDay 20 = .ok (.iload 4, 2) := by decide +kernel
theorem dX3_passDay_22 : decode cX3_passDay 22 = .ok (.aload_n 0, 1) := by decide +kernel
theorem dX3_passDay_23 : decode cX3_passDay 23 = .ok (.getfield 30, 3) := by decide +kernel
theorem dX3_passDay_26 : decode cX3_passDay 26 = .ok (.getfield 34, 3) := by decide +kernel
theorem dX3_passDay_29 : decode cX3_passDay 29 = .ok (.getfield 40, 3) := by decide +kernel
theorem dX3_passDay_32 : decode cX3_passDay 32 = .ok (.if_icmp .ge 74, 3) := by decide +kernel
theorem dX3_passDay_35 : decode cX3_passDay 35 = .ok (.aload_n 1, 1) := by decide +kernel
theorem dX3_passDay_36 : decode cX3_passDay 36 = .ok (.bipush 31, 2) := by decide +kernel
theorem dX3_passDay_38 : decode cX3_passDay 38 = .ok (.aload_n 1, 1) := by decide +kernel
theorem dX3_passDay_39 : decode cX3_passDay 39 = .ok (.bipush 31, 2) := by decide +kernel
theorem dX3_passDay_41 : decode cX3_passDay 41 = .ok (.iaload, 1) := by decide +kernel
theorem dX3_passDay_42 : decode cX3_passDay 42 = .ok (.sipush 137, 3) := by decide +kernel
theorem dX3_passDay_45 : decode cX3_passDay 45 = .ok (.imul, 1) := by decide +kernel
theorem dX3_passDay_46 : decode cX3_passDay 46 = .ok (.bipush 71, 2) := by decide +kernel
theorem dX3_passDay_48 : decode cX3_passDay 48 = .ok (.iadd, 1) := by decide +kernel
theorem dX3_passDay_49 : decode cX3_passDay 49 = .ok (.sipush 1000, 3) := by decide +kernel
theorem dX3_passDay_52 : decode cX3_passDay 52 = .ok (.irem, 1) := by decide +kernel
theorem dX3_passDay_53 : decode cX3_passDay 53 = .ok (.iastore, 1) := by decide +kernel
theorem dX3_passDay_54 : decode cX3_passDay 54 = .ok (.aload_n 1, 1) := by decide +kernel
theorem dX3_passDay_55 : decode cX3_passDay 55 = .ok (.bipush 31, 2) := by decide +kernel
theorem dX3_passDay_57 : decode cX3_passDay 57 = .ok (.iaload, 1) := by decide +kernel
theorem dX3_passDay_58 : decode cX3_passDay 58 = .ok (.bipush 100, 2) := by decide +kernel
theorem dX3_passDay_60 : decode cX3_passDay 60 = .ok (.irem, 1) := by decide +kernel
theorem dX3_passDay_61 : decode cX3_passDay 61 = .ok (.aload_n 0, 1) := by decide +kernel
theorem dX3_passDay_62 : decode cX3_passDay 62 = .ok (.aload_n 1, 1) := by decide +kernel
theorem dX3_passDay_63 : decode cX3_passDay 63 = .ok (.iload 4, 2) := by decide +kernel
theorem dX3_passDay_65 : decode cX3_passDay 65 = .ok (.aload_n 1, 1) := by decide +kernel
theorem dX3_passDay_66 : decode cX3_passDay 66 = .ok (.bipush 30, 2) := by decide +kernel
theorem dX3_passDay_68 : decode cX3_passDay 68 = .ok (.iaload, 1) := by decide +kernel
theorem dX3_passDay_69 : decode cX3_passDay 69 = .ok (.invokevirtual 108, 3) := by decide +kernel
theorem dX3_passDay_72 : decode cX3_passDay 72 = .ok (.if_icmp .lt 28, 3) := by decide +kernel
theorem dX3_passDay_75 : decode cX3_passDay 75 = .ok (.aload_n 1, 1) := by decide +kernel
theorem dX3_passDay_76 : decode cX3_passDay 76 = .ok (.bipush 6, 2) := by decide +kernel
theorem dX3_passDay_78 : decode cX3_passDay 78 = .ok (.iload 4, 2) := by decide +kernel
theorem dX3_passDay_80 : decode cX3_passDay 80 = .ok (.iadd, 1) := by decide +kernel
theorem dX3_passDay_81 : decode cX3_passDay 81 = .ok (.aload_n 1, 1) := by decide +kernel
theorem dX3_passDay_82 : decode cX3_passDay 82 = .ok (.bipush 6, 2) := by decide +kernel
theorem dX3_passDay_84 : decode cX3_passDay 84 = .ok (.iload 4, 2) := by decide +kernel
theorem dX3_passDay_86 : decode cX3_passDay 86 = .ok (.iadd, 1) := by decide +kernel
theorem dX3_passDay_87 : decode cX3_passDay 87 = .ok (.iaload, 1) := by decide +kernel
theorem dX3_passDay_88 : decode cX3_passDay 88 = .ok (.iconst 1, 1) := by decide +kernel
theorem dX3_passDay_89 : decode cX3_passDay 89 = .ok (.iadd, 1) := by decide +kernel
theorem dX3_passDay_90 : decode cX3_passDay 90 = .ok (.iload_n 3, 1) := by decide +kernel
theorem dX3_passDay_91 : decode cX3_passDay 91 = .ok (.irem, 1) := by decide +kernel
theorem dX3_passDay_92 : decode cX3_passDay 92 = .ok (.iastore, 1) := by decide +kernel
theorem dX3_passDay_93 : decode cX3_passDay 93 = .ok (.iload_n 2, 1) := by decide +kernel
theorem dX3_passDay_94 : decode cX3_passDay 94 = .ok (.iconst 1, 1) := by decide +kernel
theorem dX3_passDay_95 : decode cX3_passDay 95 = .ok (.iload 4, 2) := by decide +kernel
theorem dX3_passDay_97 : decode cX3_passDay 97 = .ok (.ishl, 1) := by decide +kernel
theorem dX3_passDay_98 : decode cX3_passDay 98 = .ok (.ior, 1) := by decide +kernel
theorem dX3_passDay_99 : decode cX3_passDay 99 = .ok (.istore_n 2, 1) := by decide +kernel
theorem dX3_passDay_100 : decode cX3_passDay 100 = .ok (.iinc 4 1, 3) := by decide +kernel
theorem dX3_passDay_103 : decode cX3_passDay 103 = .ok (.goto (-83), 3) := by decide +kernel
theorem dX3_passDay_106 : decode cX3_passDay 106 = .ok (.aload_n 1, 1) := by decide +kernel
theorem dX3_passDay_107 : decode cX3_passDay 107 = .ok (.bipush 30, 2) := by decide +kernel
theorem dX3_passDay_109 : decode cX3_passDay 109 = .ok (.dup2, 1) := by decide +kernel
theorem dX3_passDay_110 : decode cX3_passDay 110 = .ok (.iaload, 1) := by decide +kernel
theorem dX3_passDay_111 : decode cX3_passDay 111 = .ok (.iconst 1, 1) := by decide +kernel
theorem dX3_passDay_112 : decode cX3_passDay 112 = .ok (.iadd, 1) := by decide +kernel
theorem dX3_passDay_113 : decode cX3_passDay 113 = .ok (.iastore, 1) := by decide +kernel
theorem dX3_passDay_114 : decode cX3_passDay 114 = .ok (.iload_n 2, 1) := by decide +kernel
theorem dX3_passDay_115 : decode cX3_passDay 115 = .ok (.ireturn, 1) := by decide +kernel
theorem dX3_mostMended_0 : decode cX3_mostMended 0 = .ok (.iload_n 1, 1) := by decide +kernel
theorem dX3_mostMended_1 : decode cX3_mostMended 1 = .ok (.istore_n 2, 1) := by decide +kernel
theorem dX3_mostMended_2 : decode cX3_mostMended 2 = .ok (.iconst 0, 1) := by decide +kernel
theorem dX3_mostMended_3 : decode cX3_mostMended 3 = .ok (.istore_n 3, 1) := by decide +kernel
theorem dX3_mostMended_4 : decode cX3_mostMended 4 = .ok (.iconst 0, 1) := by decide +kernel
theorem dX3_mostMended_5 : decode cX3_mostMended 5 = .ok (.istore 4, 2) := by decide +kernel
theorem dX3_mostMended_7 : decode cX3_mostMended 7 = .ok (.iload 4, 2) := by decide +kernel
theorem dX3_mostMended_9 : decode cX3_mostMended 9 = .ok (.bipush 8, 2) := by decide +kernel
theorem dX3_mostMended_11 : decode cX3_mostMended 11 = .ok (.if_icmp .ge 62, 3) := by decide +kernel
theorem dX3_mostMended_14 : decode cX3_mostMended 14 = .ok (.iconst 0, 1) := by decide +kernel
theorem dX3_mostMended_15 : decode cX3_mostMended 15 = .ok (.istore 5, 2) := by decide +kernel
theorem dX3_mostMended_17 : decode cX3_mostMended 17 = .ok (.iload 5, 2) := by decide +kernel
theorem dX3_mostMended_19 : decode cX3_mostMended 19 = .ok (.aload_n 0, 1) := by decide +kernel
theorem dX3_mostMended_20 : decode cX3_mostMended 20 = .ok (.getfield 30, 3) := by decide +kernel
theorem dX3_mostMended_23 : decode cX3_mostMended 23 = .ok (.getfield 34, 3) := by decide +kernel
theorem dX3_mostMended_26 : decode cX3_mostMended 26 = .ok (.getfield 40, 3) := by decide +kernel
theorem dX3_mostMended_29 : decode cX3_mostMended 29 = .ok (.if_icmp .ge 38, 3) := by decide +kernel
theorem dX3_mostMended_32 : decode cX3_mostMended 32 = .ok (.aload_n 0, 1) := by decide +kernel
theorem dX3_mostMended_33 : decode cX3_mostMended 33 = .ok (.aload_n 0, 1) := by decide +kernel
theorem dX3_mostMended_34 : decode cX3_mostMended 34 = .ok (.getfield 11, 3) := by decide +kernel
theorem dX3_mostMended_37 : decode cX3_mostMended 37 = .ok (.iload 5, 2) := by decide +kernel
theorem dX3_mostMended_39 : decode cX3_mostMended 39 = .ok (.invokevirtual 85, 3) := by decide +kernel
theorem dX3_mostMended_42 : decode cX3_mostMended 42 = .ok (.iload 4, 2) := by decide +kernel
theorem dX3_mostMended_44 : decode cX3_mostMended 44 = .ok (.if_icmp .ne 17, 3) := by decide +kernel
theorem dX3_mostMended_47 : decode cX3_mostMended 47 = .ok (.iload 4, 2) := by decide +kernel
theorem dX3_mostMended_49 : decode cX3_mostMended 49 = .ok (.iload_n 2, 1) := by decide +kernel
theorem dX3_mostMended_50 : decode cX3_mostMended 50 = .ok (.if_icmp .gt 11, 3) := by decide +kernel
theorem dX3_mostMended_53 : decode cX3_mostMended 53 = .ok (.iload_n 2, 1) := by decide +kernel
theorem dX3_mostMended_54 : decode cX3_mostMended 54 = .ok (.iload 4, 2) := by decide +kernel
theorem dX3_mostMended_56 : decode cX3_mostMended 56 = .ok (.isub, 1) := by decide +kernel
theorem dX3_mostMended_57 : decode cX3_mostMended 57 = .ok (.istore_n 2, 1) := by decide +kernel
theorem dX3_mostMended_58 : decode cX3_mostMended 58 = .ok (.iinc 3 1, 3) := by decide +kernel
theorem dX3_mostMended_61 : decode cX3_mostMended 61 = .ok (.iinc 5 1, 3) := by decide +kernel
theorem dX3_mostMended_64 : decode cX3_mostMended 64 = .ok (.goto (-47), 3) := by decide +kernel
theorem dX3_mostMended_67 : decode cX3_mostMended 67 = .ok (.iinc 4 1, 3) := by decide +kernel
theorem dX3_mostMended_70 : decode cX3_mostMended 70 = .ok (.goto (-63), 3) := by decide +kernel
theorem dX3_mostMended_73 : decode cX3_mostMended 73 = .ok (.iload_n 3, 1) := by decide +kernel
theorem dX3_mostMended_74 : decode cX3_mostMended 74 = .ok (.ireturn, 1) := by decide +kernel
theorem dX3_commonOf_0 : decode cX3_commonOf 0 = .ok (.iload_n 0, 1) := by decide +kernel
theorem dX3_commonOf_1 : decode cX3_commonOf 1 = .ok (.istore_n 2, 1) := by decide +kernel
theorem dX3_commonOf_2 : decode cX3_commonOf 2 = .ok (.iload_n 1, 1) := by decide +kernel
theorem dX3_commonOf_3 : decode cX3_commonOf 3 = .ok (.istore_n 3, 1) := by decide +kernel
theorem dX3_commonOf_4 : decode cX3_commonOf 4 = .ok (.iconst 0, 1) := by decide +kernel
theorem dX3_commonOf_5 : decode cX3_commonOf 5 = .ok (.istore 4, 2) := by decide +kernel
theorem dX3_commonOf_7 : decode cX3_commonOf 7 = .ok (.iload 4, 2) := by decide +kernel
theorem dX3_commonOf_9 : decode cX3_commonOf 9 = .ok (.bipush 64, 2) := by decide +kernel
theorem dX3_commonOf_11 : decode cX3_commonOf 11 = .ok (.if_icmp .ge 23, 3) := by decide +kernel
theorem dX3_commonOf_14 : decode cX3_commonOf 14 = .ok (.iload_n 3, 1) := by decide +kernel
theorem dX3_commonOf_15 : decode cX3_commonOf 15 = .ok (.ifCond .eq 19, 3) := by decide +kernel
theorem dX3_commonOf_18 : decode cX3_commonOf 18 = .ok (.iload_n 2, 1) := by decide +kernel
theorem dX3_commonOf_19 : decode cX3_commonOf 19 = .ok (.iload_n 3, 1) := by decide +kernel
theorem dX3_commonOf_20 : decode cX3_commonOf 20 = .ok (.irem, 1) := by decide +kernel
theorem dX3_commonOf_21 : decode cX3_commonOf 21 = .ok (.istore 5, 2) := by decide +kernel
theorem dX3_commonOf_23 : decode cX3_commonOf 23 = .ok (.iload_n 3, 1) := by decide +kernel
theorem dX3_commonOf_24 : decode cX3_commonOf 24 = .ok (.istore_n 2, 1) := by decide +kernel
theorem dX3_commonOf_25 : decode cX3_commonOf 25 = .ok (.iload 5, 2) := by decide +kernel
theorem dX3_commonOf_27 : decode cX3_commonOf 27 = .ok (.istore_n 3, 1) := by decide +kernel
theorem dX3_commonOf_28 : decode cX3_commonOf 28 = .ok (.iinc 4 1, 3) := by decide +kernel
theorem dX3_commonOf_31 : decode cX3_commonOf 31 = .ok (.goto (-24), 3) := by decide +kernel
theorem dX3_commonOf_34 : decode cX3_commonOf 34 = .ok (.iload_n 2, 1) := by decide +kernel
theorem dX3_commonOf_35 : decode cX3_commonOf 35 = .ok (.ireturn, 1) := by decide +kernel
theorem dX3_oddsToStay_0 : decode cX3_oddsToStay 0 = .ok (.iconst 1, 1) := by decide +kernel
theorem dX3_oddsToStay_1 : decode cX3_oddsToStay 1 = .ok (.istore 4, 2) := by decide +kernel
theorem dX3_oddsToStay_3 : decode cX3_oddsToStay 3 = .ok (.iconst 1, 1) := by decide +kernel
theorem dX3_oddsToStay_4 : decode cX3_oddsToStay 4 = .ok (.istore 5, 2) := by decide +kernel
theorem dX3_oddsToStay_6 : decode cX3_oddsToStay 6 = .ok (.iconst 0, 1) := by decide +kernel
theorem dX3_oddsToStay_7 : decode cX3_oddsToStay 7 = .ok (.istore 6, 2) := by decide +kernel
theorem dX3_oddsToStay_9 : decode cX3_oddsToStay 9 = .ok (.iload 6, 2) := by decide +kernel
theorem dX3_oddsToStay_11 : decode cX3_oddsToStay 11 = .ok (.iload_n 2, 1) := by decide +kernel
theorem dX3_oddsToStay_12 : decode cX3_oddsToStay 12 = .ok (.if_icmp .ge 40, 3) := by decide +kernel
theorem dX3_oddsToStay_15 : decode cX3_oddsToStay 15 = .ok (.iload 4, 2) := by decide +kernel
theorem dX3_oddsToStay_17 : decode cX3_oddsToStay 17 = .ok (.aload_n 0, 1) := by decide +kernel
theorem dX3_oddsToStay_18 : decode cX3_oddsToStay 18 = .ok (.aload_n 0, 1) := by decide +kernel
theorem dX3_oddsToStay_19 : decode cX3_oddsToStay 19 = .ok (.getfield 11, 3) := by decide +kernel
theorem dX3_oddsToStay_22 : decode cX3_oddsToStay 22 = .ok (.iload_n 1, 1) := by decide +kernel
theorem dX3_oddsToStay_23 : decode cX3_oddsToStay 23 = .ok (.aload_n 0, 1) := by decide +kernel
theorem dX3_oddsToStay_24 : decode cX3_oddsToStay 24 = .ok (.getfield 11, 3) := by decide +kernel
theorem dX3_oddsToStay_27 : decode cX3_oddsToStay 27 = .ok (.bipush 30, 2) := by decide +kernel
theorem dX3_oddsToStay_29 : decode cX3_oddsToStay 29 = .ok (.iaload, 1) := by decide +kernel
theorem dX3_oddsToStay_30 : decode cX3_oddsToStay 30 = .ok (.iload 6, 2) := by decide +kernel
theorem dX3_oddsToStay_32 : decode cX3_oddsToStay 32 = .ok (.iadd, 1) := by decide +kernel
theorem dX3_oddsToStay_33 : decode cX3_oddsToStay 33 = .ok (.invokevirtual 108, 3) := by decide +kernel
theorem dX3_oddsToStay_36 : decode cX3_oddsToStay 36 = .ok (.imul, 1) := by decide +kernel
theorem dX3_oddsToStay_37 : decode cX3_oddsToStay 37 = .ok (.istore 4, 2) := by decide +kernel
theorem dX3_oddsToStay_39 : decode cX3_oddsToStay 39 = .ok (.iload 5, 2) := by decide +kernel
theorem dX3_oddsToStay_41 : decode cX3_oddsToStay 41 = .ok (.bipush 100, 2) := by decide +kernel
theorem dX3_oddsToStay_43 : decode cX3_oddsToStay 43 = .ok (.imul, 1) := by decide +kernel
theorem dX3_oddsToStay_44 : decode cX3_oddsToStay 44 = .ok (.istore 5, 2) := by decide +kernel
theorem dX3_oddsToStay_46 : decode cX3_oddsToStay 46 = .ok (.iinc 6 1, 3) := by decide +kernel
theorem dX3_oddsToStay_49 : decode cX3_oddsToStay 49 = .ok (.goto (-40), 3) := by decide +kernel
theorem dX3_oddsToStay_52 : decode cX3_oddsToStay 52 = .ok (.iconst 1, 1) := by decide +kernel
theorem dX3_oddsToStay_53 : decode cX3_oddsToStay 53 = .ok (.iload 4, 2) := by decide +kernel
theorem dX3_oddsToStay_55 : decode cX3_oddsToStay 55 = .ok (.iload 5, 2) := by decide +kernel
theorem dX3_oddsToStay_57 : decode cX3_oddsToStay 57 = .ok (.invokestatic 112, 3) := by decide +kernel
theorem dX3_oddsToStay_60 : decode cX3_oddsToStay 60 = .ok (.invokestatic 102, 3) := by decide +kernel
theorem dX3_oddsToStay_63 : decode cX3_oddsToStay 63 = .ok (.istore 6, 2) := by decide +kernel
theorem dX3_oddsToStay_65 : decode cX3_oddsToStay 65 = .ok (.iload_n 3, 1) := by decide +kernel
theorem dX3_oddsToStay_66 : decode cX3_oddsToStay 66 = .ok (.ifCond .ne 11, 3) := by decide +kernel
theorem dX3_oddsToStay_69 : decode cX3_oddsToStay 69 = .ok (.iload 4, 2) := by decide +kernel
theorem dX3_oddsToStay_71 : decode cX3_oddsToStay 71 = .ok (.iload 6, 2) := by decide +kernel
theorem dX3_oddsToStay_73 : decode cX3_oddsToStay 73 = .ok (.idiv, 1) := by decide +kernel
theorem dX3_oddsToStay_74 : decode cX3_oddsToStay 74 = .ok (.goto 8, 3) := by decide +kernel
theorem dX3_oddsToStay_77 : decode cX3_oddsToStay 77 = .ok (.iload 5, 2) := by decide +kernel
theorem dX3_oddsToStay_79 : decode cX3_oddsToStay 79 = .ok (.iload 6, 2) := by decide +kernel
theorem dX3_oddsToStay_81 : decode cX3_oddsToStay 81 = .ok (.idiv, 1) := by decide +kernel
theorem dX3_oddsToStay_82 : decode cX3_oddsToStay 82 = .ok (.ireturn, 1) := by decide +kernel
theorem dX10_isOurs_0 : decode cX10_isOurs 0 = .ok (.aload_n 0, 1) := by decide +kernel
theorem dX10_isOurs_1 : decode cX10_isOurs 1 = .ok (.getfield 9, 3) := by decide +kernel
theorem dX10_isOurs_4 : decode cX10_isOurs 4 = .ok (.getfield 44, 3) := by decide +kernel
theorem dX10_isOurs_7 : decode cX10_isOurs 7 = .ok (.bipush 12, 2) := by decide +kernel
theorem dX10_isOurs_9 : decode cX10_isOurs 9 = .ok (.iload_n 1, 1) := by decide +kernel
theorem dX10_isOurs_10 : decode cX10_isOurs 10 = .ok (.iadd, 1) := by decide +kernel
theorem dX10_isOurs_11 : decode cX10_isOurs 11 = .ok (.iaload, 1) := by decide +kernel
theorem dX10_isOurs_12 : decode cX10_isOurs 12 = .ok (.iconst 1, 1) := by decide +kernel
theorem dX10_isOurs_13 : decode cX10_isOurs 13 = .ok (.if_icmp .ne 7, 3) := by decide +kernel
theorem dX10_isOurs_16 : decode cX10_isOurs 16 = .ok (.iconst 1, 1) := by decide +kernel
theorem dX10_isOurs_17 : decode cX10_isOurs 17 = .ok (.goto 4, 3) := by decide +kernel
theorem dX10_isOurs_20 : decode cX10_isOurs 20 = .ok (.iconst 0, 1) := by decide +kernel
theorem dX10_isOurs_21 : decode cX10_isOurs 21 = .ok (.ireturn, 1) := by decide +kernel
theorem dX10_ourGain_0 : decode cX10_ourGain 0 = .ok (.aload_n 0, 1) := by decide +kernel
theorem dX10_ourGain_1 : decode cX10_ourGain 1 = .ok (.getfield 9, 3) := by decide +kernel
theorem dX10_ourGain_4 : decode cX10_ourGain 4 = .ok (.getfield 15, 3) := by decide +kernel
theorem dX10_ourGain_7 : decode cX10_ourGain 7 = .ok (.getfield 21, 3) := by decide +kernel
theorem dX10_ourGain_10 : decode cX10_ourGain 10 = .ok (.getfield 37, 3) := by decide +kernel
theorem dX10_ourGain_13 : decode cX10_ourGain 13 = .ok (.iload_n 2, 1) := by decide +kernel
theorem dX10_ourGain_14 : decode cX10_ourGain 14 = .ok (.iaload, 1) := by decide +kernel
theorem dX10_ourGain_15 : decode cX10_ourGain 15 = .ok (.aload_n 0, 1) := by decide +kernel
theorem dX10_ourGain_16 : decode cX10_ourGain 16 = .ok (.getfield 9, 3) := by decide +kernel
theorem dX10_ourGain_19 : decode cX10_ourGain 19 = .ok (.getfield 15, 3) := by decide +kernel
theorem dX10_ourGain_22 : decode cX10_ourGain 22 = .ok (.getfield 21, 3) := by decide +kernel
theorem dX10_ourGain_25 : decode cX10_ourGain 25 = .ok (.getfield 37, 3) := by decide +kernel
theorem dX10_ourGain_28 : decode cX10_ourGain 28 = .ok (.iload_n 1, 1) := by decide +kernel
theorem dX10_ourGain_29 : decode cX10_ourGain 29 = .ok (.iaload, 1) := by decide +kernel
theorem dX10_ourGain_30 : decode cX10_ourGain 30 = .ok (.isub, 1) := by decide +kernel
theorem dX10_ourGain_31 : decode cX10_ourGain 31 = .ok (.ireturn, 1) := by decide +kernel
theorem dX10_theirGain_0 : decode cX10_theirGain 0 = .ok (.aload_n 0, 1) := by decide +kernel
theorem dX10_theirGain_1 : decode cX10_theirGain 1 = .ok (.getfield 9, 3) := by decide +kernel
theorem dX10_theirGain_4 : decode cX10_theirGain 4 = .ok (.getfield 15, 3) := by decide +kernel
theorem dX10_theirGain_7 : decode cX10_theirGain 7 = .ok (.getfield 21, 3) := by decide +kernel
theorem dX10_theirGain_10 : decode cX10_theirGain 10 = .ok (.getfield 33, 3) := by decide +kernel
theorem dX10_theirGain_13 : decode cX10_theirGain 13 = .ok (.iload_n 1, 1) := by decide +kernel
theorem dX10_theirGain_14 : decode cX10_theirGain 14 = .ok (.iaload, 1) := by decide +kernel
theorem dX10_theirGain_15 : decode cX10_theirGain 15 = .ok (.aload_n 0, 1) := by decide +kernel
theorem dX10_theirGain_16 : decode cX10_theirGain 16 = .ok (.getfield 9, 3) := by decide +kernel
theorem dX10_theirGain_19 : decode cX10_theirGain 19 = .ok (.getfield 15, 3) := by decide +kernel
theorem dX10_theirGain_22 : decode cX10_theirGain 22 = .ok (.getfield 21, 3) := by decide +kernel
theorem dX10_theirGain_25 : decode cX10_theirGain 25 = .ok (.getfield 33, 3) := by decide +kernel
theorem dX10_theirGain_28 : decode cX10_theirGain 28 = .ok (.iload_n 2, 1) := by decide +kernel
theorem dX10_theirGain_29 : decode cX10_theirGain 29 = .ok (.iaload, 1) := by decide +kernel
theorem dX10_theirGain_30 : decode cX10_theirGain 30 = .ok (.isub, 1) := by decide +kernel
theorem dX10_theirGain_31 : decode cX10_theirGain 31 = .ok (.ireturn, 1) := by decide +kernel
theorem dX10_gainOf_0 : decode cX10_gainOf 0 = .ok (.aload_n 0, 1) := by decide +kernel
theorem dX10_gainOf_1 : decode cX10_gainOf 1 = .ok (.iload_n 1, 1) := by decide +kernel
theorem dX10_gainOf_2 : decode cX10_gainOf 2 = .ok (.iload_n 2, 1) := by decide +kernel
theorem dX10_gainOf_3 : decode cX10_gainOf 3 = .ok (.invokevirtual 55, 3) := by decide +kernel
theorem dX10_gainOf_6 : decode cX10_gainOf 6 = .ok (.aload_n 0, 1) := by decide +kernel
theorem dX10_gainOf_7 : decode cX10_gainOf 7 = .ok (.iload_n 1, 1) := by decide +kernel
theorem dX10_gainOf_8 : decode cX10_gainOf 8 = .ok (.iload_n 2, 1) := by decide +kernel
theorem dX10_gainOf_9 : decode cX10_gainOf 9 = .ok (.invokevirtual 58, 3) := by decide +kernel
theorem dX10_gainOf_12 : decode cX10_gainOf 12 = .ok (.iadd, 1) := by decide +kernel
theorem dX10_gainOf_13 : decode cX10_gainOf 13 = .ok (.ireturn, 1) := by decide +kernel
theorem dX10_isFair_0 : decode cX10_isFair 0 = .ok (.aload_n 0, 1) := by decide +kernel
theorem dX10_isFair_1 : decode cX10_isFair 1 = .ok (.getfield 9, 3) := by decide +kernel
theorem dX10_isFair_4 : decode cX10_isFair 4 = .ok (.getfield 15, 3) := by decide +kernel
theorem dX10_isFair_7 : decode cX10_isFair 7 = .ok (.getfield 21, 3) := by decide +kernel
theorem dX10_isFair_10 : decode cX10_isFair 10 = .ok (.getfield 27, 3) := by decide +kernel
theorem dX10_isFair_13 : decode cX10_isFair 13 = .ok (.istore_n 3, 1) := by decide +kernel
theorem dX10_isFair_14 : decode cX10_isFair 14 = .ok (.iload_n 1, 1) := by decide +kernel
theorem dX10_isFair_15 : decode cX10_isFair 15 = .ok (.iload_n 3, 1) := by decide +kernel
theorem dX10_isFair_16 : decode cX10_isFair 16 = .ok (.if_icmp .ge 24, 3) := by decide +kernel
theorem dX10_isFair_19 : decode cX10_isFair 19 = .ok (.iload_n 2, 1) := by decide +kernel
theorem dX10_isFair_20 : decode cX10_isFair 20 = .ok (.iload_n 3, 1) := by decide +kernel
theorem dX10_isFair_21 : decode cX10_isFair 21 = .ok (.if_icmp .ge 19, 3) := by decide +kernel
theorem dX10_isFair_24 : decode cX10_isFair 24 = .ok (.aload_n 0, 1) := by decide +kernel
theorem dX10_isFair_25 : decode cX10_isFair 25 = .ok (.iload_n 1, 1) := by decide +kernel
theorem dX10_isFair_26 : decode cX10_isFair 26 = .ok (.invokevirtual 40, 3) := by decide +kernel
theorem dX10_isFair_29 : decode cX10_isFair 29 = .ok (.ifCond .eq 11, 3) := by decide +kernel
theorem dX10_isFair_32 : decode cX10_isFair 32 = .ok (.aload_n 0, 1) := by decide +kernel
theorem dX10_isFair_33 : decode cX10_isFair 33 = .ok (.iload_n 2, 1) := by decide +kernel
theorem dX10_isFair_34 : decode cX10_isFair 34 = .ok (.invokevirtual 40, 3) := by decide +kernel
theorem dX10_isFair_37 : decode cX10_isFair 37 = .ok (.ifCond .eq 5, 3) := by decide +kernel
theorem dX10_isFair_40 : decode cX10_isFair 40 = .ok (.iconst 0, 1) := by decide +kernel
theorem dX10_isFair_41 : decode cX10_isFair 41 = .ok (.ireturn, 1) := by decide +kernel
theorem dX10_isFair_42 : decode cX10_isFair 42 = .ok (.aload_n 0, 1) := by decide +kernel
theorem dX10_isFair_43 : decode cX10_isFair 43 = .ok (.iload_n 1, 1) := by decide +kernel
theorem dX10_isFair_44 : decode cX10_isFair 44 = .ok (.iload_n 2, 1) := by decide +kernel
theorem dX10_isFair_45 : decode cX10_isFair 45 = .ok (.invokevirtual 55, 3) := by decide +kernel
theorem dX10_isFair_48 : decode cX10_isFair 48 = .ok (.ifCond .lt 16, 3) := by decide +kernel
theorem dX10_isFair_51 : decode cX10_isFair 51 = .ok (.aload_n 0, 1) := by decide +kernel
theorem dX10_isFair_52 : decode cX10_isFair 52 = .ok (.iload_n 1, 1) := by decide +kernel
theorem dX10_isFair_53 : decode cX10_isFair 53 = .ok (.iload_n 2, 1) := by decide +kernel
theorem dX10_isFair_54 : decode cX10_isFair 54 = .ok (.invokevirtual 58, 3) := by decide +kernel
theorem dX10_isFair_57 : decode cX10_isFair 57 = .ok (.ifCond .lt 7, 3) := by decide +kernel
theorem dX10_isFair_60 : decode cX10_isFair 60 = .ok (.iconst 1, 1) := by decide +kernel
theorem dX10_isFair_61 : decode cX10_isFair 61 = .ok (.goto 4, 3) := by decide +kernel
theorem dX10_isFair_64 : decode cX10_isFair 64 = .ok (.iconst 0, 1) := by decide +kernel
theorem dX10_isFair_65 : decode cX10_isFair 65 = .ok (.ireturn, 1) := by decide +kernel
theorem dX10_bestPair_0 : decode cX10_bestPair 0 = .ok (.iconst (-1), 1) := by decide +kernel
theorem dX10_bestPair_1 : decode cX10_bestPair 1 = .ok (.istore_n 1, 1) := by decide +kernel
theorem dX10_bestPair_2 : decode cX10_bestPair 2 = .ok (.iconst (-1), 1) := by decide +kernel
theorem dX10_bestPair_3 : decode cX10_bestPair 3 = .ok (.istore_n 2, 1) := by decide +kernel
theorem dX10_bestPair_4 : decode cX10_bestPair 4 = .ok (.iconst 0, 1) := by decide +kernel
theorem dX10_bestPair_5 : decode cX10_bestPair 5 = .ok (.istore_n 3, 1) := by decide +kernel
theorem dX10_bestPair_6 : decode cX10_bestPair 6 = .ok (.iload_n 3, 1) := by decide +kernel
theorem dX10_bestPair_7 : decode cX10_bestPair 7 = .ok (.bipush 36, 2) := by decide +kernel
theorem dX10_bestPair_9 : decode cX10_bestPair 9 = .ok (.if_icmp .ge 55, 3) := by decide +kernel
theorem dX10_bestPair_12 : decode cX10_bestPair 12 = .ok (.iload_n 3, 1) := by decide +kernel
theorem dX10_bestPair_13 : decode cX10_bestPair 13 = .ok (.bipush 6, 2) := by decide +kernel
theorem dX10_bestPair_15 : decode cX10_bestPair 15 = .ok (.idiv, 1) := by decide +kernel
theorem dX10_bestPair_16 : decode cX10_bestPair 16 = .ok (.istore 4, 2) := by decide +kernel
theorem dX10_bestPair_18 : decode cX10_bestPair 18 = .ok (.iload_n 3, 1) := by decide +kernel
theorem dX10_bestPair_19 : decode cX10_bestPair 19 = .ok (.bipush 6, 2) := by decide +kernel
theorem dX10_bestPair_21 : decode cX10_bestPair 21 = .ok (.irem, 1) := by decide +kernel
theorem dX10_bestPair_22 : decode cX10_bestPair 22 = .ok (.istore 5, 2) := by decide +kernel
theorem dX10_bestPair_24 : decode cX10_bestPair 24 = .ok (.aload_n 0, 1) := by decide +kernel
theorem dX10_bestPair_25 : decode cX10_bestPair 25 = .ok (.iload 4, 2) := by decide +kernel
theorem dX10_bestPair_27 : decode cX10_bestPair 27 = .ok (.iload 5, 2) := by decide +kernel
theorem dX10_bestPair_29 : decode cX10_bestPair 29 = .ok (.invokevirtual 47, 3) := by decide +kernel
theorem dX10_bestPair_32 : decode cX10_bestPair 32 = .ok (.ifCond .eq 26, 3) := by decide +kernel
theorem dX10_bestPair_35 : decode cX10_bestPair 35 = .ok (.aload_n 0, 1) := by decide +kernel
theorem dX10_bestPair_36 : decode cX10_bestPair 36 = .ok (.iload 4, 2) := by decide +kernel
theorem dX10_bestPair_38 : decode cX10_bestPair 38 = .ok (.iload 5, 2) := by decide +kernel
theorem dX10_bestPair_40 : decode cX10_bestPair 40 = .ok (.invokevirtual 51, 3) := by decide +kernel
theorem dX10_bestPair_43 : decode cX10_bestPair 43 = .ok (.iload_n 2, 1) := by decide +kernel
theorem dX10_bestPair_44 : decode cX10_bestPair 44 = .ok (.if_icmp .le 14, 3) := by decide +kernel
theorem dX10_bestPair_47 : decode cX10_bestPair 47 = .ok (.aload_n 0, 1) := by decide +kernel
theorem dX10_bestPair_48 : decode cX10_bestPair 48 = .ok (.iload 4, 2) := by decide +kernel
theorem dX10_bestPair_50 : decode cX10_bestPair 50 = .ok (.iload 5, 2) := by decide +kernel
theorem dX10_bestPair_52 : decode cX10_bestPair 52 = .ok (.invokevirtual 51, 3) := by decide +kernel
theorem dX10_bestPair_55 : decode cX10_bestPair 55 = .ok (.istore_n 2, 1) := by decide +kernel
theorem dX10_bestPair_56 : decode cX10_bestPair 56 = .ok (.iload_n 3, 1) := by decide +kernel
theorem dX10_bestPair_57 : decode cX10_bestPair 57 = .ok (.istore_n 1, 1) := by decide +kernel
theorem dX10_bestPair_58 : decode cX10_bestPair 58 = .ok (.iinc 3 1, 3) := by decide +kernel
theorem dX10_bestPair_61 : decode cX10_bestPair 61 = .ok (.goto (-55), 3) := by decide +kernel
theorem dX10_bestPair_64 : decode cX10_bestPair 64 = .ok (.iload_n 1, 1) := by decide +kernel
theorem dX10_bestPair_65 : decode cX10_bestPair 65 = .ok (.ireturn, 1) := by decide +kernel
theorem dX10_betterElsewhere_0 : decode cX10_betterElsewhere 0 = .ok (.aload_n 0, 1) := by decide +kernel
theorem dX10_betterElsewhere_1 : decode cX10_betterElsewhere 1 = .ok (.getfield 9, 3) := by decide +kernel
theorem dX10_betterElsewhere_4 : decode cX10_betterElsewhere 4 = .ok (.getfield 15, 3) := by decide +kernel
theorem dX10_betterElsewhere_7 : decode cX10_betterElsewhere 7 = .ok (.getfield 21, 3) := by decide +kernel
theorem dX10_betterElsewhere_10 : decode cX10_betterElsewhere 10 = .ok (.astore_n 1, 1) := by decide +kernel
theorem dX10_betterElsewhere_11 : decode cX10_betterElsewhere 11 = .ok (.iconst 0, 1) := by decide +kernel
theorem dX10_betterElsewhere_12 : decode cX10_betterElsewhere 12 = .ok (.istore_n 2, 1) := by decide +kernel
theorem dX10_betterElsewhere_13 : decode cX10_betterElsewhere 13 = .ok (.iconst 0, 1) := by decide +kernel
theorem dX10_betterElsewhere_14 : decode cX10_betterElsewhere 14 = .ok (.istore_n 3, 1) := by decide +kernel
theorem dX10_betterElsewhere_15 : decode cX10_betterElsewhere 15 = .ok (.iload_n 3, 1) := by decide +kernel
theorem dX10_betterElsewhere_16 : decode cX10_betterElsewhere 16 = .ok (.aload_n 1, 1) := by decide +kernel
theorem dX10_betterElsewhere_17 : decode cX10_betterElsewhere 17 = .ok (.getfield 27, 3) := by decide +kernel
theorem dX10_betterElsewhere_20 : decode cX10_betterElsewhere 20 = .ok (.if_icmp .ge 51, 3) := by decide +kernel
theorem dX10_betterElsewhere_23 : decode cX10_betterElsewhere 23 = .ok (.aload_n 1, 1) := by decide +kernel
theorem dX10_betterElsewhere_24 : decode cX10_betterElsewhere 24 = .ok (.getfield 33, 3) := by decide +kernel
theorem dX10_betterElsewhere_27 : decode cX10_betterElsewhere 27 = .ok (.iload_n 3, 1) := by decide +kernel
theorem dX10_betterElsewhere_28 : decode cX10_betterElsewhere 28 = .ok (.iaload, 1) := by decide +kernel
theorem dX10_betterElsewhere_29 : decode cX10_betterElsewhere 29 = .ok (.aload_n 1, 1) := by decide +kernel
theorem dX10_betterElsewhere_30 : decode cX10_betterElsewhere 30 = .ok (.getfield 37, 3) := by decide +kernel
theorem dX10_betterElsewhere_33 : decode cX10_betterElsewhere 33 = .ok (.iload_n 3, 1) := by decide +kernel
theorem dX10_betterElsewhere_34 : decode cX10_betterElsewhere 34 = .ok (.iaload, 1) := by decide +kernel
theorem dX10_betterElsewhere_35 : decode cX10_betterElsewhere 35 = .ok (.isub, 1) := by decide +kernel
theorem dX10_betterElsewhere_36 : decode cX10_betterElsewhere 36 = .ok (.istore 4, 2) := by decide +kernel
theorem dX10_betterElsewhere_38 : decode cX10_betterElsewhere 38 = .ok (.aload_n 0, 1) := by decide +kernel
theorem dX10_betterElsewhere_39 : decode cX10_betterElsewhere 39 = .ok (.iload_n 3, 1) := by decide +kernel
theorem dX10_betterElsewhere_40 : decode cX10_betterElsewhere 40 = .ok (.invokevirtual 40, 3) := by decide +kernel
theorem dX10_betterElsewhere_43 : decode cX10_betterElsewhere 43 = .ok (.ifCond .eq 11, 3) := by decide +kernel
theorem dX10_betterElsewhere_46 : decode cX10_betterElsewhere 46 = .ok (.iload 4, 2) := by decide +kernel
theorem dX10_betterElsewhere_48 : decode cX10_betterElsewhere 48 = .ok (.ifCond .le 17, 3) := by decide +kernel
theorem dX10_betterElsewhere_51 : decode cX10_betterElsewhere 51 = .ok (.goto 8, 3) := by decide +kernel
theorem dX10_betterElsewhere_54 : decode cX10_betterElsewhere 54 = .ok (.iload 4, 2) := by decide +kernel
theorem dX10_betterElsewhere_56 : decode cX10_betterElsewhere 56 = .ok (.ifCond .ge 9, 3) := by decide +kernel
theorem dX10_betterElsewhere_59 : decode cX10_betterElsewhere 59 = .ok (.iload_n 2, 1) := by decide +kernel
theorem dX10_betterElsewhere_60 : decode cX10_betterElsewhere 60 = .ok (.iconst 1, 1) := by decide +kernel
theorem dX10_betterElsewhere_61 : decode cX10_betterElsewhere 61 = .ok (.iload_n 3, 1) := by decide +kernel
theorem dX10_betterElsewhere_62 : decode cX10_betterElsewhere 62 = .ok (.ishl, 1) := by decide +kernel
theorem dX10_betterElsewhere_63 : decode cX10_betterElsewhere 63 = .ok (.ior, 1) := by decide +kernel
theorem dX10_betterElsewhere_64 : decode cX10_betterElsewhere 64 = .ok (.istore_n 2, 1) := by decide +kernel
theorem dX10_betterElsewhere_65 : decode cX10_betterElsewhere 65 = .ok (.iinc 3 1, 3) := by decide +kernel
theorem dX10_betterElsewhere_68 : decode cX10_betterElsewhere 68 = .ok (.goto (-53), 3) := by decide +kernel
theorem dX10_betterElsewhere_71 : decode cX10_betterElsewhere 71 = .ok (.iload_n 2, 1) := by decide +kernel
theorem dX10_betterElsewhere_72 : decode cX10_betterElsewhere 72 = .ok (.ireturn, 1) := by decide +kernel
theorem dX10_worthOf_0 : decode cX10_worthOf 0 = .ok (.iconst 0, 1) := by decide +kernel
theorem dX10_worthOf_1 : decode cX10_worthOf 1 = .ok (.istore_n 3, 1) := by decide +kernel
theorem dX10_worthOf_2 : decode cX10_worthOf 2 = .ok (.iconst 0, 1) := by decide +kernel
theorem dX10_worthOf_3 : decode cX10_worthOf 3 = .ok (.istore 4, 2) := by decide +kernel
theorem dX10_worthOf_5 : decode cX10_worthOf 5 = .ok (.iload 4, 2) := by decide +kernel
theorem dX10_worthOf_7 : decode cX10_worthOf 7 = .ok (.aload_n 0, 1) := by decide +kernel
theorem dX10_worthOf_8 : decode cX10_worthOf 8 = .ok (.getfield 9, 3) := by decide +kernel
theorem dX10_worthOf_11 : decode cX10_worthOf 11 = .ok (.getfield 15, 3) := by decide +kernel
theorem dX10_worthOf_14 : decode cX10_worthOf 14 = .ok (.getfield 21, 3) := by decide +kernel
theorem dX10_worthOf_17 : decode cX10_worthOf 17 = .ok (.getfield 27, 3) := by decide +kernel
theorem dX10_worthOf_20 : decode cX10_worthOf 20 = .ok (.if_icmp .ge 33, 3) := by decide +kernel
theorem dX10_worthOf_23 : decode cX10_worthOf 23 = .ok (.aload_n 0, 1) := by decide +kernel
theorem dX10_worthOf_24 : decode cX10_worthOf 24 = .ok (.getfield 9, 3) := by decide +kernel
theorem dX10_worthOf_27 : decode cX10_worthOf 27 = .ok (.getfield 44, 3) := by decide +kernel
theorem dX10_worthOf_30 : decode cX10_worthOf 30 = .ok (.bipush 12, 2) := by decide +kernel
theorem dX10_worthOf_32 : decode cX10_worthOf 32 = .ok (.iload 4, 2) := by decide +kernel
theorem dX10_worthOf_34 : decode cX10_worthOf 34 = .ok (.iadd, 1) := by decide +kernel
theorem dX10_worthOf_35 : decode cX10_worthOf 35 = .ok (.iaload, 1) := by decide +kernel
theorem dX10_worthOf_36 : decode cX10_worthOf 36 = .ok (.iload_n 1, 1) := by decide +kernel
theorem dX10_worthOf_37 : decode cX10_worthOf 37 = .ok (.if_icmp .ne 10, 3) := by decide +kernel
theorem dX10_worthOf_40 : decode cX10_worthOf 40 = .ok (.iload_n 3, 1) := by decide +kernel
theorem dX10_worthOf_41 : decode cX10_worthOf 41 = .ok (.aload_n 2, 1) := by decide +kernel
theorem dX10_worthOf_42 : decode cX10_worthOf 42 = .ok (.iload 4, 2) := by decide +kernel
theorem dX10_worthOf_44 : decode cX10_worthOf 44 = .ok (.iaload, 1) := by decide +kernel
theorem dX10_worthOf_45 : decode cX10_worthOf 45 = .ok (.iadd, 1) := by decide +kernel
theorem dX10_worthOf_46 : decode cX10_worthOf 46 = .ok (.istore_n 3, 1) := by decide +kernel
theorem dX10_worthOf_47 : decode cX10_worthOf 47 = .ok (.iinc 4 1, 3) := by decide +kernel
theorem dX10_worthOf_50 : decode cX10_worthOf 50 = .ok (.goto (-45), 3) := by decide +kernel
theorem dX10_worthOf_53 : decode cX10_worthOf 53 = .ok (.iload_n 3, 1) := by decide +kernel
theorem dX10_worthOf_54 : decode cX10_worthOf 54 = .ok (.ireturn, 1) := by decide +kernel
theorem dX4_note_0 : decode cX4_note 0 = .ok (.aload_n 0, 1) := by decide +kernel
theorem dX4_note_1 : decode cX4_note 1 = .ok (.getfield 37, 3) := by decide +kernel
theorem dX4_note_4 : decode cX4_note 4 = .ok (.bipush 30, 2) := by decide +kernel
theorem dX4_note_6 : decode cX4_note 6 = .ok (.if_icmp .lt 5, 3) := by decide +kernel
theorem dX4_note_9 : decode cX4_note 9 = .ok (.iconst (-1), 1) := by decide +kernel
theorem dX4_note_10 : decode cX4_note 10 = .ok (.ireturn, 1) := by decide +kernel
theorem dX4_note_11 : decode cX4_note 11 = .ok (.aload_n 0, 1) := by decide +kernel
theorem dX4_note_12 : decode cX4_note 12 = .ok (.getfield 11, 3) := by decide +kernel
theorem dX4_note_15 : decode cX4_note 15 = .ok (.aload_n 0, 1) := by decide +kernel
theorem dX4_note_16 : decode cX4_note 16 = .ok (.getfield 37, 3) := by decide +kernel
theorem dX4_note_19 : decode cX4_note 19 = .ok (.iload_n 1, 1) := by decide +kernel
theorem dX4_note_20 : decode cX4_note 20 = .ok (.iastore, 1) := by decide +kernel
theorem dX4_note_21 : decode cX4_note 21 = .ok (.aload_n 0, 1) := by decide +kernel
theorem dX4_note_22 : decode cX4_note 22 = .ok (.getfield 15, 3) := by decide +kernel
theorem dX4_note_25 : decode cX4_note 25 = .ok (.aload_n 0, 1) := by decide +kernel
theorem dX4_note_26 : decode cX4_note 26 = .ok (.getfield 37, 3) := by decide +kernel
theorem dX4_note_29 : decode cX4_note 29 = .ok (.iload_n 3, 1) := by decide +kernel
theorem dX4_note_30 : decode cX4_note 30 = .ok (.ifCond .eq 7, 3) := by decide +kernel
theorem dX4_note_33 : decode cX4_note 33 = .ok (.iload_n 2, 1) := by decide +kernel
theorem dX4_note_34 : decode cX4_note 34 = .ok (.goto 6, 3) := by decide +kernel
theorem dX4_note_37 : decode cX4_note 37 = .ok (.iload_n 2, 1) := by decide +kernel
theorem dX4_note_38 : decode cX4_note 38 = .ok (.iconst (-1), 1) := by decide +kernel
theorem dX4_note_39 : decode cX4_note 39 = .ok (.ixor, 1) := by decide +kernel
theorem dX4_note_40 : decode cX4_note 40 = .ok (.iastore, 1) := by decide +kernel
theorem dX4_note_41 : decode cX4_note 41 = .ok (.aload_n 0, 1) := by decide +kernel
theorem dX4_note_42 : decode cX4_note 42 = .ok (.getfield 18, 3) := by decide +kernel
theorem dX4_note_45 : decode cX4_note 45 = .ok (.aload_n 0, 1) := by decide +kernel
theorem dX4_note_46 : decode cX4_note 46 = .ok (.getfield 37, 3) := by decide +kernel
theorem dX4_note_49 : decode cX4_note 49 = .ok (.aload_n 0, 1) := by decide +kernel
theorem dX4_note_50 : decode cX4_note 50 = .ok (.getfield 41, 3) := by decide +kernel
theorem dX4_note_53 : decode cX4_note 53 = .ok (.iastore, 1) := by decide +kernel
theorem dX4_note_54 : decode cX4_note 54 = .ok (.aload_n 0, 1) := by decide +kernel
theorem dX4_note_55 : decode cX4_note 55 = .ok (.getfield 21, 3) := by decide +kernel
theorem dX4_note_58 : decode cX4_note 58 = .ok (.aload_n 0, 1) := by decide +kernel
theorem dX4_note_59 : decode cX4_note 59 = .ok (.getfield 37, 3) := by decide +kernel
theorem dX4_note_62 : decode cX4_note 62 = .ok (.iconst (-1), 1) := by decide +kernel
theorem dX4_note_63 : decode cX4_note 63 = .ok (.iastore, 1) := by decide +kernel
theorem dX4_note_64 : decode cX4_note 64 = .ok (.aload_n 0, 1) := by decide +kernel
theorem dX4_note_65 : decode cX4_note 65 = .ok (.dup, 1) := by decide +kernel
theorem dX4_note_66 : decode cX4_note 66 = .ok (.getfield 37, 3) := by decide +kernel
theorem dX4_note_69 : decode cX4_note 69 = .ok (.iconst 1, 1) := by decide +kernel
theorem dX4_note_70 : decode cX4_note 70 = .ok (.iadd, 1) := by decide +kernel
theorem dX4_note_71 : decode cX4_note 71 = .ok (.putfield 37, 3) := by decide +kernel
theorem dX4_note_74 : decode cX4_note 74 = .ok (.aload_n 0, 1) := by decide +kernel
theorem dX4_note_75 : decode cX4_note 75 = .ok (.getfield 37, 3) := by decide +kernel
theorem dX4_note_78 : decode cX4_note 78 = .ok (.iconst 1, 1) := by decide +kernel
theorem dX4_note_79 : decode cX4_note 79 = .ok (.isub, 1) := by decide +kernel
theorem dX4_note_80 : decode cX4_note 80 = .ok (.ireturn, 1) := by decide +kernel
theorem dX4_takeBack_0 : decode cX4_takeBack 0 = .ok (.iload_n 1, 1) := by decide +kernel
theorem dX4_takeBack_1 : decode cX4_takeBack 1 = .ok (.ifCond .lt 21, 3) := by decide +kernel
theorem dX4_takeBack_4 : decode cX4_takeBack 4 = .ok (.iload_n 1, 1) := by decide +kernel
theorem dX4_takeBack_5 : decode cX4_takeBack 5 = .ok (.aload_n 0, 1) := by decide +kernel
theorem dX4_takeBack_6 : decode cX4_takeBack 6 = .ok (.getfield 37, 3) := by decide +kernel
theorem dX4_takeBack_9 : decode cX4_takeBack 9 = .ok (.if_icmp .ge 13, 3) := by decide +kernel
theorem dX4_takeBack_12 : decode cX4_takeBack 12 = .ok (.aload_n 0, 1) := by decide +kernel
theorem dX4_takeBack_13 : decode cX4_takeBack 13 = .ok (.getfield 21, 3) := by decide +kernel
theorem dX4_takeBack_16 : decode cX4_takeBack 16 = .ok (.iload_n 1, 1) := by decide +kernel
theorem dX4_takeBack_17 : decode cX4_takeBack 17 = .ok (.iaload, 1) := by decide +kernel
theorem dX4_takeBack_18 : decode cX4_takeBack 18 = .ok (.iconst (-1), 1) := by decide +kernel
theorem dX4_takeBack_19 : decode cX4_takeBack 19 = .ok (.if_icmp .eq 5, 3) := by decide +kernel
theorem dX4_takeBack_22 : decode cX4_takeBack 22 = .ok (.iconst 0, 1) := by decide +kernel
theorem dX4_takeBack_23 : decode cX4_takeBack 23 = .ok (.ireturn, 1) := by decide +kernel
theorem dX4_takeBack_24 : decode cX4_takeBack 24 = .ok (.aload_n 0, 1) := by decide +kernel
theorem dX4_takeBack_25 : decode cX4_takeBack 25 = .ok (.getfield 21, 3) := by decide +kernel
theorem dX4_takeBack_28 : decode cX4_takeBack 28 = .ok (.iload_n 1, 1) := by decide +kernel
theorem dX4_takeBack_29 : decode cX4_takeBack 29 = .ok (.aload_n 0, 1) := by decide +kernel
theorem dX4_takeBack_30 : decode cX4_takeBack 30 = .ok (.getfield 41, 3) := by decide +kernel
theorem dX4_takeBack_33 : decode cX4_takeBack 33 = .ok (.iastore, 1) := by decide +kernel
theorem dX4_takeBack_34 : decode cX4_takeBack 34 = .ok (.iconst 1, 1) := by decide +kernel
theorem dX4_takeBack_35 : decode cX4_takeBack 35 = .ok (.ireturn, 1) := by decide +kernel
theorem dX4_through_0 : decode cX4_through 0 = .ok (.aload_n 0, 1) := by decide +kernel
theorem dX4_through_1 : decode cX4_through 1 = .ok (.getfield 27, 3) := by decide +kernel
theorem dX4_through_4 : decode cX4_through 4 = .ok (.iload_n 1, 1) := by decide +kernel
theorem dX4_through_5 : decode cX4_through 5 = .ok (.bipush 8, 2) := by decide +kernel
theorem dX4_through_7 : decode cX4_through 7 = .ok (.imul, 1) := by decide +kernel
theorem dX4_through_8 : decode cX4_through 8 = .ok (.iload_n 2, 1) := by decide +kernel
theorem dX4_through_9 : decode cX4_through 9 = .ok (.iadd, 1) := by decide +kernel
theorem dX4_through_10 : decode cX4_through 10 = .ok (.iaload, 1) := by decide +kernel
theorem dX4_through_11 : decode cX4_through 11 = .ok (.aload_n 0, 1) := by decide +kernel
theorem dX4_through_12 : decode cX4_through 12 = .ok (.getfield 30, 3) := by decide +kernel
theorem dX4_through_15 : decode cX4_through 15 = .ok (.iload_n 1, 1) := by decide +kernel
theorem dX4_through_16 : decode cX4_through 16 = .ok (.bipush 8, 2) := by decide +kernel
theorem dX4_through_18 : decode cX4_through 18 = .ok (.imul, 1) := by decide +kernel
theorem dX4_through_19 : decode cX4_through 19 = .ok (.iload_n 2, 1) := by decide +kernel
theorem dX4_through_20 : decode cX4_through 20 = .ok (.iadd, 1) := by decide +kernel
theorem dX4_through_21 : decode cX4_through 21 = .ok (.iaload, 1) := by decide +kernel
theorem dX4_through_22 : decode cX4_through 22 = .ok (.imul, 1) := by decide +kernel
theorem dX4_through_23 : decode cX4_through 23 = .ok (.ireturn, 1) := by decide +kernel
theorem dX4_openRooms_0 : decode cX4_openRooms 0 = .ok (.aload_n 0, 1) := by decide +kernel
theorem dX4_openRooms_1 : decode cX4_openRooms 1 = .ok (.getfield 24, 3) := by decide +kernel
theorem dX4_openRooms_4 : decode cX4_openRooms 4 = .ok (.iconst (-1), 1) := by decide +kernel
theorem dX4_openRooms_5 : decode cX4_openRooms 5 = .ok (.invokestatic 82, 3) := by decide +kernel
theorem dX4_openRooms_8 : decode cX4_openRooms 8 = .ok (.iconst 0, 1) := by decide +kernel
theorem dX4_openRooms_9 : decode cX4_openRooms 9 = .ok (.istore_n 2, 1) := by decide +kernel
theorem dX4_openRooms_10 : decode cX4_openRooms 10 = .ok (.iload_n 2, 1) := by decide +kernel
theorem dX4_openRooms_11 : decode cX4_openRooms 11 = .ok (.aload_n 0, 1) := by decide +kernel
theorem dX4_openRooms_12 : decode cX4_openRooms 12 = .ok (.getfield 37, 3) := by decide +kernel
theorem dX4_openRooms_15 : decode cX4_openRooms 15 = .ok (.if_icmp .ge 69, 3) := by decide +kernel
theorem dX4_openRooms_18 : decode cX4_openRooms 18 = .ok (.aload_n 0, 1) := by decide +kernel
theorem dX4_openRooms_19 : decode cX4_openRooms 19 = .ok (.getfield 21, 3) := by decide +kernel
theorem dX4_openRooms_22 : decode cX4_openRooms 22 = .ok (.iload_n 2, 1) := by decide +kernel
theorem dX4_openRooms_23 : decode cX4_openRooms 23 = .ok (.iaload, 1) := by decide +kernel
theorem dX4_openRooms_24 : decode cX4_openRooms 24 = .ok (.iconst (-1), 1) := by decide +kernel
theorem dX4_openRooms_25 : decode cX4_openRooms 25 = .ok (.if_icmp .eq 17, 3) := by decide +kernel
theorem dX4_openRooms_28 : decode cX4_openRooms 28 = .ok (.aload_n 0, 1) := by decide +kernel
theorem dX4_openRooms_29 : decode cX4_openRooms 29 = .ok (.getfield 21, 3) := by decide +kernel
theorem dX4_openRooms_32 : decode cX4_openRooms 32 = .ok (.iload_n 2, 1) := by decide +kernel
theorem dX4_openRooms_33 : decode cX4_openRooms 33 = .ok (.iaload, 1) := by decide +kernel
theorem dX4_openRooms_34 : decode cX4_openRooms 34 = .ok (.iload_n 1, 1) := by decide +kernel
theorem dX4_openRooms_35 : decode cX4_openRooms 35 = .ok (.if_icmp .gt 7, 3) := by decide +kernel
theorem dX4_openRooms_38 : decode cX4_openRooms 38 = .ok (.iconst 1, 1) := by decide +kernel
theorem dX4_openRooms_39 : decode cX4_openRooms 39 = .ok (.goto 4, 3) := by decide +kernel
theorem dX4_openRooms_42 : decode cX4_openRooms 42 = .ok (.iconst 0, 1) := by decide +kernel
theorem dX4_openRooms_43 : decode cX4_openRooms 43 = .ok (.istore_n 3, 1) := by decide +kernel
theorem dX4_openRooms_44 : decode cX4_openRooms 44 = .ok (.aload_n 0, 1) := by decide +kernel
theorem dX4_openRooms_45 : decode cX4_openRooms 45 = .ok (.getfield 18, 3) := by decide +kernel
theorem dX4_openRooms_48 : decode cX4_openRooms 48 = .ok (.iload_n 2, 1) := by decide +kernel
theorem dX4_openRooms_49 : decode cX4_openRooms 49 = .ok (.iaload, 1) := by decide +kernel
theorem dX4_openRooms_50 : decode cX4_openRooms 50 = .ok (.iload_n 1, 1) := by decide +kernel
theorem dX4_openRooms_51 : decode cX4_openRooms 51 = .ok (.if_icmp .gt 27, 3) := by decide +kernel
theorem dX4_openRooms_54 : decode cX4_openRooms 54 = .ok (.iload_n 3, 1) := by decide +kernel
theorem dX4_openRooms_55 : decode cX4_openRooms 55 = .ok (.ifCond .ne 23, 3) := by decide +kernel
theorem dX4_openRooms_58 : decode cX4_openRooms 58 = .ok (.aload_n 0, 1) := by decide +kernel
theorem dX4_openRooms_59 : decode cX4_openRooms 59 = .ok (.getfield 24, 3) := by decide +kernel
theorem dX4_openRooms_62 : decode cX4_openRooms 62 = .ok (.aload_n 0, 1) := by decide +kernel
theorem dX4_openRooms_63 : decode cX4_openRooms 63 = .ok (.getfield 11, 3) := by decide +kernel
theorem dX4_openRooms_66 : decode cX4_openRooms 66 = .ok (.iload_n 2, 1) := by decide +kernel
theorem dX4_openRooms_67 : decode cX4_openRooms 67 = .ok (.iaload, 1) := by decide +kernel
theorem dX4_openRooms_68 : decode cX4_openRooms 68 = .ok (.dup2, 1) := by decide +kernel
theorem dX4_openRooms_69 : decode cX4_openRooms 69 = .ok (.iaload, 1) := by decide +kernel
theorem dX4_openRooms_70 : decode cX4_openRooms 70 = .ok (.aload_n 0, 1) := by decide +kernel
theorem dX4_openRooms_71 : decode cX4_openRooms 71 = .ok (.getfield 15, 3) := by decide +kernel
theorem dX4_openRooms_74 : decode cX4_openRooms 74 = .ok (.iload_n 2, 1) := by decide +kernel
theorem dX4_openRooms_75 : decode cX4_openRooms 75 = .ok (.iaload, 1) := by decide +kernel
theorem dX4_openRooms_76 : decode cX4_openRooms 76 = .ok (.iand, 1) := by decide +kernel
theorem dX4_openRooms_77 : decode cX4_openRooms 77 = .ok (.iastore, 1) := by decide +kernel
theorem dX4_openRooms_78 : decode cX4_openRooms 78 = .ok (.iinc 2 1, 3) := by decide +kernel
theorem dX4_openRooms_81 : decode cX4_openRooms 81 = .ok (.goto (-71), 3) := by decide +kernel
theorem dX4_openRooms_84 : decode cX4_openRooms 84 = .ok (.return_, 1) := by decide +kernel
theorem dX4_isOpen_0 : decode cX4_isOpen 0 = .ok (.aload_n 0, 1) := by decide +kernel
theorem dX4_isOpen_1 : decode cX4_isOpen 1 = .ok (.getfield 24, 3) := by decide +kernel
theorem dX4_isOpen_4 : decode cX4_isOpen 4 = .ok (.iload_n 1, 1) := by decide +kernel
theorem dX4_isOpen_5 : decode cX4_isOpen 5 = .ok (.iaload, 1) := by decide +kernel
theorem dX4_isOpen_6 : decode cX4_isOpen 6 = .ok (.iload_n 2, 1) := by decide +kernel
theorem dX4_isOpen_7 : decode cX4_isOpen 7 = .ok (.ishr, 1) := by decide +kernel
theorem dX4_isOpen_8 : decode cX4_isOpen 8 = .ok (.iconst 1, 1) := by decide +kernel
theorem dX4_isOpen_9 : decode cX4_isOpen 9 = .ok (.iand, 1) := by decide +kernel
theorem dX4_isOpen_10 : decode cX4_isOpen 10 = .ok (.iconst 1, 1) := by decide +kernel
theorem dX4_isOpen_11 : decode cX4_isOpen 11 = .ok (.if_icmp .ne 7, 3) := by decide +kernel
theorem dX4_isOpen_14 : decode cX4_isOpen 14 = .ok (.iconst 1, 1) := by decide +kernel
theorem dX4_isOpen_15 : decode cX4_isOpen 15 = .ok (.goto 4, 3) := by decide +kernel
theorem dX4_isOpen_18 : decode cX4_isOpen 18 = .ok (.iconst 0, 1) := by decide +kernel
theorem dX4_isOpen_19 : decode cX4_isOpen 19 = .ok (.ireturn, 1) := by decide +kernel
theorem dX4_sumAround_0 : decode cX4_sumAround 0 = .ok (.aload_n 0, 1) := by decide +kernel
theorem dX4_sumAround_1 : decode cX4_sumAround 1 = .ok (.getfield 33, 3) := by decide +kernel
theorem dX4_sumAround_4 : decode cX4_sumAround 4 = .ok (.getfield 92, 3) := by decide +kernel
theorem dX4_sumAround_7 : decode cX4_sumAround 7 = .ok (.iload_n 3, 1) := by decide +kernel
theorem dX4_sumAround_8 : decode cX4_sumAround 8 = .ok (.iaload, 1) := by decide +kernel
theorem dX4_sumAround_9 : decode cX4_sumAround 9 = .ok (.iconst 1, 1) := by decide +kernel
theorem dX4_sumAround_10 : decode cX4_sumAround 10 = .ok (.iload_n 3, 1) := by decide +kernel
theorem dX4_sumAround_11 : decode cX4_sumAround 11 = .ok (.ishl, 1) := by decide +kernel
theorem dX4_sumAround_12 : decode cX4_sumAround 12 = .ok (.ior, 1) := by decide +kernel
theorem dX4_sumAround_13 : decode cX4_sumAround 13 = .ok (.istore 4, 2) := by decide +kernel
theorem dX4_sumAround_15 : decode cX4_sumAround 15 = .ok (.iconst 0, 1) := by decide +kernel
theorem dX4_sumAround_16 : decode cX4_sumAround 16 = .ok (.istore 5, 2) := by decide +kernel
theorem dX4_sumAround_18 : decode cX4_sumAround 18 = .ok (.iconst 0, 1) := by decide +kernel
theorem dX4_sumAround_19 : decode cX4_sumAround 19 = .ok (.istore 6, 2) := by decide +kernel
theorem dX4_sumAround_21 : decode cX4_sumAround 21 = .ok (.iload 6, 2) := by decide +kernel
theorem dX4_sumAround_23 : decode cX4_sumAround 23 = .ok (.aload_n 0, 1) := by decide +kernel
theorem dX4_sumAround_24 : decode cX4_sumAround 24 = .ok (.getfield 33, 3) := by decide +kernel
theorem dX4_sumAround_27 : decode cX4_sumAround 27 = .ok (.getfield 49, 3) := by decide +kernel
theorem dX4_sumAround_30 : decode cX4_sumAround 30 = .ok (.getfield 55, 3) := by decide +kernel
theorem dX4_sumAround_33 : decode cX4_sumAround 33 = .ok (.if_icmp .ge 34, 3) := by decide +kernel
theorem dX4_sumAround_36 : decode cX4_sumAround 36 = .ok (.iload 4, 2) := by decide +kernel
theorem dX4_sumAround_38 : decode cX4_sumAround 38 = .ok (.iload 6, 2) := by decide +kernel
theorem dX4_sumAround_40 : decode cX4_sumAround 40 = .ok (.ishr, 1) := by decide +kernel
theorem dX4_sumAround_41 : decode cX4_sumAround 41 = .ok (.iconst 1, 1) := by decide +kernel
theorem dX4_sumAround_42 : decode cX4_sumAround 42 = .ok (.iand, 1) := by decide +kernel
theorem dX4_sumAround_43 : decode cX4_sumAround 43 = .ok (.iconst 1, 1) := by decide +kernel
theorem dX4_sumAround_44 : decode cX4_sumAround 44 = .ok (.if_icmp .ne 17, 3) := by decide +kernel
theorem dX4_sumAround_47 : decode cX4_sumAround 47 = .ok (.iload 5, 2) := by decide +kernel
theorem dX4_sumAround_49 : decode cX4_sumAround 49 = .ok (.aload_n 1, 1) := by decide +kernel
theorem dX4_sumAround_50 : decode cX4_sumAround 50 = .ok (.iload_n 2, 1) := by decide +kernel
theorem dX4_sumAround_51 : decode cX4_sumAround 51 = .ok (.bipush 8, 2) := by decide +kernel
theorem dX4_sumAround_53 : decode cX4_sumAround 53 = .ok (.imul, 1) := by decide +kernel
theorem dX4_sumAround_54 : decode cX4_sumAround 54 = .ok (.iload 6, 2) := by decide +kernel
theorem dX4_sumAround_56 : decode cX4_sumAround 56 = .ok (.iadd, 1) := by decide +kernel
theorem dX4_sumAround_57 : decode cX4_sumAround 57 = .ok (.iaload, 1) := by decide +kernel
theorem dX4_sumAround_58 : decode cX4_sumAround 58 = .ok (.iadd, 1) := by decide +kernel
theorem dX4_sumAround_59 : decode cX4_sumAround 59 = .ok (.istore 5, 2) := by decide +kernel
theorem dX4_sumAround_61 : decode cX4_sumAround 61 = .ok (.iinc 6 1, 3) := by decide +kernel
theorem dX4_sumAround_64 : decode cX4_sumAround 64 = .ok (.goto (-43), 3) := by decide +kernel
theorem dX4_sumAround_67 : decode cX4_sumAround 67 = .ok (.iload 5, 2) := by decide +kernel
theorem dX4_sumAround_69 : decode cX4_sumAround 69 = .ok (.ireturn, 1) := by decide +kernel
theorem dX4_comingTo_0 : decode cX4_comingTo 0 = .ok (.iload_n 1, 1) := by decide +kernel
theorem dX4_comingTo_1 : decode cX4_comingTo 1 = .ok (.ifCond .ne 7, 3) := by decide +kernel
theorem dX4_comingTo_4 : decode cX4_comingTo 4 = .ok (.iconst 1, 1) := by decide +kernel
theorem dX4_comingTo_5 : decode cX4_comingTo 5 = .ok (.goto 15, 3) := by decide +kernel
theorem dX4_comingTo_8 : decode cX4_comingTo 8 = .ok (.aload_n 0, 1) := by decide +kernel
theorem dX4_comingTo_9 : decode cX4_comingTo 9 = .ok (.aload_n 0, 1) := by decide +kernel
theorem dX4_comingTo_10 : decode cX4_comingTo 10 = .ok (.getfield 27, 3) := by decide +kernel
theorem dX4_comingTo_13 : decode cX4_comingTo 13 = .ok (.iload_n 1, 1) := by decide +kernel
theorem dX4_comingTo_14 : decode cX4_comingTo 14 = .ok (.iconst 1, 1) := by decide +kernel
theorem dX4_comingTo_15 : decode cX4_comingTo 15 = .ok (.isub, 1) := by decide +kernel
theorem dX4_comingTo_16 : decode cX4_comingTo 16 = .ok (.iload_n 2, 1) := by decide +kernel
theorem dX4_comingTo_17 : decode cX4_comingTo 17 = .ok (.invokevirtual 88, 3) := by decide +kernel
theorem dX4_comingTo_20 : decode cX4_comingTo 20 = .ok (.ireturn, 1) := by decide +kernel
theorem dX4_goingOn_0 : decode cX4_goingOn 0 = .ok (.iload_n 1, 1) := by decide +kernel
theorem dX4_goingOn_1 : decode cX4_goingOn 1 = .ok (.bipush 7, 2) := by decide +kernel
theorem dX4_goingOn_3 : decode cX4_goingOn 3 = .ok (.if_icmp .ne 7, 3) := by decide +kernel
theorem dX4_goingOn_6 : decode cX4_goingOn 6 = .ok (.iconst 1, 1) := by decide +kernel
theorem dX4_goingOn_7 : decode cX4_goingOn 7 = .ok (.goto 15, 3) := by decide +kernel
theorem dX4_goingOn_10 : decode cX4_goingOn 10 = .ok (.aload_n 0, 1) := by decide +kernel
theorem dX4_goingOn_11 : decode cX4_goingOn 11 = .ok (.aload_n 0, 1) := by decide +kernel
theorem dX4_goingOn_12 : decode cX4_goingOn 12 = .ok (.getfield 30, 3) := by decide +kernel
theorem dX4_goingOn_15 : decode cX4_goingOn 15 = .ok (.iload_n 1, 1) := by decide +kernel
theorem dX4_goingOn_16 : decode cX4_goingOn 16 = .ok (.iconst 1, 1) := by decide +kernel
theorem dX4_goingOn_17 : decode cX4_goingOn 17 = .ok (.iadd, 1) := by decide +kernel
theorem dX4_goingOn_18 : decode cX4_goingOn 18 = .ok (.iload_n 2, 1) := by decide +kernel
theorem dX4_goingOn_19 : decode cX4_goingOn 19 = .ok (.invokevirtual 88, 3) := by decide +kernel
theorem dX4_goingOn_22 : decode cX4_goingOn 22 = .ok (.ireturn, 1) := by decide +kernel
set_option maxRecDepth 20000 in
theorem ggX3_farOff_X0_farOf : GoodIn wsX3_farOff wsX0_farOf := goodIn_r _ [6, 7, 17, 18, 19, 20, 21] (by decide +kernel) (by decide +kernel)
set_option maxRecDepth 20000 in
theorem gX3_farOff_X0_farOf : GoodIn wsX3_farOff (wsV RX3 65 RX0 yX0_farOf wsX0_farOf) := goodIn_app (goodIn_of _ (by decide +kernel)) ggX3_farOff_X0_farOf
set_option maxRecDepth 20000 in
theorem ggX3_sureOf_X1_know : GoodIn wsX3_sureOf wsX1_know := goodIn_r _ [29, 30, 71, 72, 73, 74, 75, 76] (by decide +kernel) (by decide +kernel)
set_option maxRecDepth 20000 in
theorem gX3_sureOf_X1_know : GoodIn wsX3_sureOf (wsV RX3 89 RX1 yX1_know wsX1_know) := goodIn_app (goodIn_of _ (by decide +kernel)) ggX3_sureOf_X1_know
set_option maxRecDepth 20000 in
theorem ggX3_sureOf_X1_work : GoodIn wsX3_sureOf wsX1_work := goodIn_r _ [34, 35, 36, 37, 30, 38, 39, 28, 40, 71, 72, 73, 74, 75, 76] (by decide +kernel) (by decide +kernel)
set_option maxRecDepth 20000 in
theorem gX3_sureOf_X1_work : GoodIn wsX3_sureOf (wsV RX3 93 RX1 yX1_work wsX1_work) := goodIn_app (goodIn_of _ (by decide +kernel)) ggX3_sureOf_X1_work
set_option maxRecDepth 20000 in
theorem ggX3_sureOf_X3_farOff : GoodIn wsX3_sureOf wsX3_farOff := goodIn_r _ [18, 1, 19, 20, 21, 22, 23, 24, 41, 42, 43, 44, 45, 46, 47, 48, 49, 50, 51, 52, 53, 54] (by decide +kernel) (by decide +kernel)
set_option maxRecDepth 20000 in
theorem gX3_sureOf_X3_farOff : GoodIn wsX3_sureOf (wsV RX3 85 RX3 yX3_farOff wsX3_farOff) := goodIn_app (goodIn_of _ (by decide +kernel)) ggX3_sureOf_X3_farOff
set_option maxRecDepth 20000 in
theorem ggX3_passDay_X3_sureOf : GoodIn wsX3_passDay wsX3_sureOf := goodIn_r _ [13, 1, 2, 14, 15, 16, 17, 18, 19, 6, 20, 4, 5, 7, 21, 22, 23, 12, 24, 25, 26, 27, 28, 29, 30, 31, 32, 33, 34, 35, 36, 37, 38, 39, 40, 41, 42, 43, 44, 45, 46, 47, 48, 49, 50, 51, 52, 53, 54, 55, 56, 57, 58, 59, 60, 61, 62, 63, 64, 65, 66, 67, 68, 69, 70, 71, 72, 73, 74, 75, 76, 77, 78, 79, 80, 81, 82] (by decide +kernel) (by decide +kernel)
set_option maxRecDepth 20000 in
theorem gX3_passDay_X3_sureOf : GoodIn wsX3_passDay (wsV RX3 108 RX3 yX3_sureOf wsX3_sureOf) := goodIn_app (goodIn_of _ (by decide +kernel)) ggX3_passDay_X3_sureOf
set_option maxRecDepth 20000 in
theorem ggX3_mostMended_X3_farOff : GoodIn wsX3_mostMended wsX3_farOff := goodIn_r _ [9, 1, 10, 11, 12, 13, 14, 15, 16, 17, 18, 19, 20, 21, 22, 23, 24, 25, 26, 27, 28, 29] (by decide +kernel) (by decide +kernel)
set_option maxRecDepth 20000 in
theorem gX3_mostMended_X3_farOff : GoodIn wsX3_mostMended (wsV RX3 85 RX3 yX3_farOff wsX3_farOff) := goodIn_app (goodIn_of _ (by decide +kernel)) ggX3_mostMended_X3_farOff
set_option maxRecDepth 20000 in
theorem ggX3_oddsToStay_X3_commonOf : GoodIn wsX3_oddsToStay wsX3_commonOf := goodIn_r _ [48] (by decide +kernel) (by decide +kernel)
set_option maxRecDepth 20000 in
theorem gX3_oddsToStay_X3_commonOf : GoodIn wsX3_oddsToStay (va_wsS RX3 112 yX3_commonOf wsX3_commonOf) := goodIn_app (goodIn_of _ (by decide +kernel)) ggX3_oddsToStay_X3_commonOf
set_option maxRecDepth 20000 in
theorem ggX3_oddsToStay_X3_sureOf : GoodIn wsX3_oddsToStay wsX3_sureOf := goodIn_r _ [10, 11, 12, 13, 14, 15, 16, 17, 18, 4, 19, 2, 3, 5, 20, 21, 22, 9, 23, 24, 25, 26, 27, 28, 29, 30, 31, 32, 33, 34, 35, 36, 37, 38, 39, 40, 41, 42, 43, 44, 45, 49, 50, 51, 52, 53, 54, 55, 56, 57, 58, 59, 60, 61, 62, 63, 64, 65, 66, 67, 68, 69, 70, 71, 72, 73, 74, 75, 76, 77, 78, 79, 80, 81, 82, 83, 84] (by decide +kernel) (by decide +kernel)
set_option maxRecDepth 20000 in
theorem gX3_oddsToStay_X3_sureOf : GoodIn wsX3_oddsToStay (wsV RX3 108 RX3 yX3_sureOf wsX3_sureOf) := goodIn_app (goodIn_of _ (by decide +kernel)) ggX3_oddsToStay_X3_sureOf
set_option maxRecDepth 20000 in
theorem ggX10_gainOf_X10_ourGain : GoodIn wsX10_gainOf wsX10_ourGain := goodIn_r _ [5, 6, 7, 8, 9, 15, 16, 17, 18, 19, 20, 21, 22, 23, 24, 25, 26, 27, 28, 29, 30, 31, 32, 33, 34, 35, 36, 37, 38, 39, 40, 41, 42, 43, 44, 45] (by decide +kernel) (by decide +kernel)
set_option maxRecDepth 20000 in
theorem gX10_gainOf_X10_ourGain : GoodIn wsX10_gainOf (wsV RX10 55 RX10 yX10_ourGain wsX10_ourGain) := goodIn_app (goodIn_of _ (by decide +kernel)) ggX10_gainOf_X10_ourGain
set_option maxRecDepth 20000 in
theorem ggX10_gainOf_X10_theirGain : GoodIn wsX10_gainOf wsX10_theirGain := goodIn_r _ [13, 6, 7, 8, 14, 15, 16, 17, 18, 19, 20, 21, 22, 23, 24, 25, 26, 27, 28, 29, 30, 31, 32, 33, 34, 35, 36, 37, 38, 39, 40, 41, 42, 43, 44, 45] (by decide +kernel) (by decide +kernel)
set_option maxRecDepth 20000 in
theorem gX10_gainOf_X10_theirGain : GoodIn wsX10_gainOf (wsV RX10 58 RX10 yX10_theirGain wsX10_theirGain) := goodIn_app (goodIn_of _ (by decide +kernel)) ggX10_gainOf_X10_theirGain
set_option maxRecDepth 20000 in
theorem ggX10_isFair_X10_isOurs : GoodIn wsX10_isFair wsX10_isOurs := goodIn_r _ [9, 1, 10, 21, 22, 23, 24, 25, 26, 27, 28, 29, 30] (by decide +kernel) (by decide +kernel)
set_option maxRecDepth 20000 in
theorem gX10_isFair_X10_isOurs : GoodIn wsX10_isFair (wsV RX10 40 RX10 yX10_isOurs wsX10_isOurs) := goodIn_app (goodIn_of _ (by decide +kernel)) ggX10_isFair_X10_isOurs
set_option maxRecDepth 20000 in
theorem ggX10_isFair_X10_ourGain : GoodIn wsX10_isFair wsX10_ourGain := goodIn_r _ [14, 1, 2, 3, 15, 21, 22, 23, 24, 25, 26, 27, 28, 29, 30, 31, 32, 33, 34, 35, 36, 37, 38, 39, 40, 41, 42, 43, 44, 45, 46, 47, 48, 49, 50, 51] (by decide +kernel) (by decide +kernel)
set_option maxRecDepth 20000 in
theorem gX10_isFair_X10_ourGain : GoodIn wsX10_isFair (wsV RX10 55 RX10 yX10_ourGain wsX10_ourGain) := goodIn_app (goodIn_of _ (by decide +kernel)) ggX10_isFair_X10_ourGain
set_option maxRecDepth 20000 in
theorem ggX10_isFair_X10_theirGain : GoodIn wsX10_isFair wsX10_theirGain := goodIn_r _ [19, 1, 2, 3, 20, 21, 22, 23, 24, 25, 26, 27, 28, 29, 30, 31, 32, 33, 34, 35, 36, 37, 38, 39, 40, 41, 42, 43, 44, 45, 46, 47, 48, 49, 50, 51] (by decide +kernel) (by decide +kernel)
set_option maxRecDepth 20000 in
theorem gX10_isFair_X10_theirGain : GoodIn wsX10_isFair (wsV RX10 58 RX10 yX10_theirGain wsX10_theirGain) := goodIn_app (goodIn_of _ (by decide +kernel)) ggX10_isFair_X10_theirGain
set_option maxRecDepth 20000 in
theorem ggX10_bestPair_X10_gainOf : GoodIn wsX10_bestPair wsX10_gainOf := goodIn_r _ [28, 15, 16, 17, 4, 18, 6, 7, 8, 19, 20, 21, 22, 23, 24, 29, 30, 31, 32, 33, 34, 35, 36, 37, 38, 39, 40, 41, 42, 43, 44, 45, 46, 47, 48, 49, 50, 51, 52, 53, 54, 55, 56, 57, 58, 59] (by decide +kernel) (by decide +kernel)
set_option maxRecDepth 20000 in
theorem gX10_bestPair_X10_gainOf : GoodIn wsX10_bestPair (wsV RX10 51 RX10 yX10_gainOf wsX10_gainOf) := goodIn_app (goodIn_of _ (by decide +kernel)) ggX10_bestPair_X10_gainOf
set_option maxRecDepth 20000 in
theorem ggX10_bestPair_X10_isFair : GoodIn wsX10_bestPair wsX10_isFair := goodIn_r _ [5, 6, 7, 8, 9, 10, 11, 12, 4, 13, 14, 15, 16, 17, 18, 19, 20, 21, 22, 23, 24, 29, 30, 31, 32, 33, 34, 35, 36, 37, 38, 39, 40, 41, 42, 43, 44, 45, 46, 47, 48, 49, 50, 51, 52, 53, 54, 55, 56, 57, 58, 59] (by decide +kernel) (by decide +kernel)
set_option maxRecDepth 20000 in
theorem gX10_bestPair_X10_isFair : GoodIn wsX10_bestPair (wsV RX10 47 RX10 yX10_isFair wsX10_isFair) := goodIn_app (goodIn_of _ (by decide +kernel)) ggX10_bestPair_X10_isFair
set_option maxRecDepth 20000 in
theorem ggX10_betterElsewhere_X10_isOurs : GoodIn wsX10_betterElsewhere wsX10_isOurs := goodIn_r _ [11, 1, 12, 13, 14, 15, 16, 17, 18, 19, 20, 21, 22] (by decide +kernel) (by decide +kernel)
set_option maxRecDepth 20000 in
theorem gX10_betterElsewhere_X10_isOurs : GoodIn wsX10_betterElsewhere (wsV RX10 40 RX10 yX10_isOurs wsX10_isOurs) := goodIn_app (goodIn_of _ (by decide +kernel)) ggX10_betterElsewhere_X10_isOurs
set_option maxRecDepth 20000 in
theorem ggX4_openRooms_J7_fill_53178 : GoodIn wsX4_openRooms wsJ7_fill_53178 := goodIn_r _ [10] (by decide +kernel) (by decide +kernel)
set_option maxRecDepth 20000 in
theorem gX4_openRooms_J7_fill_53178 : GoodIn wsX4_openRooms (va_wsS RX4 82 yJ7_fill_53178 wsJ7_fill_53178) := goodIn_app (goodIn_of _ (by decide +kernel)) ggX4_openRooms_J7_fill_53178
set_option maxRecDepth 20000 in
theorem ggX4_comingTo_X4_sumAround : GoodIn wsX4_comingTo wsX4_sumAround := goodIn_r _ [6, 7, 8, 9, 10, 11, 12, 13, 14, 15, 16, 17, 18, 19, 20, 21, 22, 23, 24, 25, 26, 27, 28, 29, 30, 31, 32, 33, 34, 35, 36, 37, 38, 39, 40, 41] (by decide +kernel) (by decide +kernel)
set_option maxRecDepth 20000 in
theorem gX4_comingTo_X4_sumAround : GoodIn wsX4_comingTo (wsV RX4 88 RX4 yX4_sumAround wsX4_sumAround) := goodIn_app (goodIn_of _ (by decide +kernel)) ggX4_comingTo_X4_sumAround
set_option maxRecDepth 20000 in
theorem ggX4_goingOn_X4_sumAround : GoodIn wsX4_goingOn wsX4_sumAround := goodIn_r _ [6, 7, 8, 9, 10, 11, 12, 13, 14, 15, 16, 17, 18, 19, 20, 21, 22, 23, 24, 25, 26, 27, 28, 29, 30, 31, 32, 33, 34, 35, 36, 37, 38, 39, 40, 41] (by decide +kernel) (by decide +kernel)
set_option maxRecDepth 20000 in
theorem gX4_goingOn_X4_sumAround : GoodIn wsX4_goingOn (wsV RX4 88 RX4 yX4_sumAround wsX4_sumAround) := goodIn_app (goodIn_of _ (by decide +kernel)) ggX4_goingOn_X4_sumAround
theorem iw_X3_farOff_X3 : ∀ w ∈ wsX30, w ∈ wsX3_farOff := fun _ h => List.mem_cons_of_mem _ (List.mem_append_left _ (List.mem_append_right _ h))
theorem iw_X3_sureOf_X0 : ∀ w ∈ wsX00, w ∈ wsX3_sureOf := fun _ h => List.mem_cons_of_mem _ (List.mem_append_left _ (List.mem_append_left _ (List.mem_append_right _ h)))
theorem iw_X3_sureOf_X1 : ∀ w ∈ wsX10, w ∈ wsX3_sureOf := fun _ h => List.mem_cons_of_mem _ (List.mem_append_right _ h)
theorem iw_X3_sureOf_X3 : ∀ w ∈ wsX30, w ∈ wsX3_sureOf := fun _ h => List.mem_cons_of_mem _ (List.mem_append_left _ (List.mem_append_left _ (List.mem_append_left _ (List.mem_append_right _ h))))
theorem iw_X3_sureOf_X5 : ∀ w ∈ wsX50, w ∈ wsX3_sureOf := fun _ h => List.mem_cons_of_mem _ (List.mem_append_left _ (List.mem_append_right _ h))
theorem iw_X3_speak_X3 : ∀ w ∈ wsX30, w ∈ wsX3_speak := fun _ h => List.mem_cons_of_mem _ (List.mem_append_right _ h)
theorem iw_X3_bring_X3 : ∀ w ∈ wsX30, w ∈ wsX3_bring := fun _ h => List.mem_cons_of_mem _ (List.mem_append_right _ h)
theorem iw_X3_passDay_X0 : ∀ w ∈ wsX00, w ∈ wsX3_passDay := fun _ h => List.mem_cons_of_mem _ (List.mem_append_left _ (List.mem_append_left _ (List.mem_append_right _ h)))
theorem iw_X3_passDay_X3 : ∀ w ∈ wsX30, w ∈ wsX3_passDay := fun _ h => List.mem_cons_of_mem _ (List.mem_append_left _ (List.mem_append_left _ (List.mem_append_left _ (List.mem_append_right _ h))))
theorem iw_X3_passDay_X5 : ∀ w ∈ wsX50, w ∈ wsX3_passDay := fun _ h => List.mem_cons_of_mem _ (List.mem_append_left _ (List.mem_append_right _ h))
theorem iw_X3_mostMended_X0 : ∀ w ∈ wsX00, w ∈ wsX3_mostMended := fun _ h => List.mem_cons_of_mem _ (List.mem_append_left _ (List.mem_append_right _ h))
theorem iw_X3_mostMended_X3 : ∀ w ∈ wsX30, w ∈ wsX3_mostMended := fun _ h => List.mem_cons_of_mem _ (List.mem_append_left _ (List.mem_append_left _ (List.mem_append_right _ h)))
theorem iw_X3_mostMended_X5 : ∀ w ∈ wsX50, w ∈ wsX3_mostMended := fun _ h => List.mem_cons_of_mem _ (List.mem_append_right _ h)
theorem iw_X3_oddsToStay_X3 : ∀ w ∈ wsX30, w ∈ wsX3_oddsToStay := fun _ h => List.mem_cons_of_mem _ (List.mem_append_left _ (List.mem_append_left _ (List.mem_append_left _ (List.mem_append_right _ h))))
theorem iw_X10_isOurs_X10 : ∀ w ∈ wsX100, w ∈ wsX10_isOurs := fun _ h => List.mem_cons_of_mem _ (List.mem_append_left _ (List.mem_append_right _ h))
theorem iw_X10_isOurs_X3 : ∀ w ∈ wsX30, w ∈ wsX10_isOurs := fun _ h => List.mem_cons_of_mem _ (List.mem_append_right _ h)
theorem iw_X10_ourGain_X0 : ∀ w ∈ wsX00, w ∈ wsX10_ourGain := fun _ h => List.mem_cons_of_mem _ (List.mem_append_left _ (List.mem_append_right _ h))
theorem iw_X10_ourGain_X10 : ∀ w ∈ wsX100, w ∈ wsX10_ourGain := fun _ h => List.mem_cons_of_mem _ (List.mem_append_left _ (List.mem_append_left _ (List.mem_append_left _ (List.mem_append_right _ h))))
theorem iw_X10_ourGain_X3 : ∀ w ∈ wsX30, w ∈ wsX10_ourGain := fun _ h => List.mem_cons_of_mem _ (List.mem_append_left _ (List.mem_append_left _ (List.mem_append_right _ h)))
theorem iw_X10_ourGain_X5 : ∀ w ∈ wsX50, w ∈ wsX10_ourGain := fun _ h => List.mem_cons_of_mem _ (List.mem_append_right _ h)
theorem iw_X10_theirGain_X0 : ∀ w ∈ wsX00, w ∈ wsX10_theirGain := fun _ h => List.mem_cons_of_mem _ (List.mem_append_left _ (List.mem_append_right _ h))
theorem iw_X10_theirGain_X10 : ∀ w ∈ wsX100, w ∈ wsX10_theirGain := fun _ h => List.mem_cons_of_mem _ (List.mem_append_left _ (List.mem_append_left _ (List.mem_append_left _ (List.mem_append_right _ h))))
theorem iw_X10_theirGain_X3 : ∀ w ∈ wsX30, w ∈ wsX10_theirGain := fun _ h => List.mem_cons_of_mem _ (List.mem_append_left _ (List.mem_append_left _ (List.mem_append_right _ h)))
theorem iw_X10_theirGain_X5 : ∀ w ∈ wsX50, w ∈ wsX10_theirGain := fun _ h => List.mem_cons_of_mem _ (List.mem_append_right _ h)
theorem iw_X10_isFair_X0 : ∀ w ∈ wsX00, w ∈ wsX10_isFair := fun _ h => List.mem_cons_of_mem _ (List.mem_append_left _ (List.mem_append_right _ h))
theorem iw_X10_isFair_X10 : ∀ w ∈ wsX100, w ∈ wsX10_isFair := fun _ h => List.mem_cons_of_mem _ (List.mem_append_left _ (List.mem_append_left _ (List.mem_append_left _ (List.mem_append_right _ h))))
theorem iw_X10_isFair_X3 : ∀ w ∈ wsX30, w ∈ wsX10_isFair := fun _ h => List.mem_cons_of_mem _ (List.mem_append_left _ (List.mem_append_left _ (List.mem_append_right _ h)))
theorem iw_X10_isFair_X5 : ∀ w ∈ wsX50, w ∈ wsX10_isFair := fun _ h => List.mem_cons_of_mem _ (List.mem_append_right _ h)
theorem iw_X10_betterElsewhere_X0 : ∀ w ∈ wsX00, w ∈ wsX10_betterElsewhere := fun _ h => List.mem_cons_of_mem _ (List.mem_append_left _ (List.mem_append_right _ h))
theorem iw_X10_betterElsewhere_X10 : ∀ w ∈ wsX100, w ∈ wsX10_betterElsewhere := fun _ h => List.mem_cons_of_mem _ (List.mem_append_left _ (List.mem_append_left _ (List.mem_append_left _ (List.mem_append_right _ h))))
theorem iw_X10_betterElsewhere_X3 : ∀ w ∈ wsX30, w ∈ wsX10_betterElsewhere := fun _ h => List.mem_cons_of_mem _ (List.mem_append_left _ (List.mem_append_left _ (List.mem_append_right _ h)))
theorem iw_X10_betterElsewhere_X5 : ∀ w ∈ wsX50, w ∈ wsX10_betterElsewhere := fun _ h => List.mem_cons_of_mem _ (List.mem_append_right _ h)
theorem iw_X10_worthOf_X0 : ∀ w ∈ wsX00, w ∈ wsX10_worthOf := fun _ h => List.mem_cons_of_mem _ (List.mem_append_left _ (List.mem_append_right _ h))
theorem iw_X10_worthOf_X10 : ∀ w ∈ wsX100, w ∈ wsX10_worthOf := fun _ h => List.mem_cons_of_mem _ (List.mem_append_left _ (List.mem_append_left _ (List.mem_append_left _ (List.mem_append_right _ h))))
theorem iw_X10_worthOf_X3 : ∀ w ∈ wsX30, w ∈ wsX10_worthOf := fun _ h => List.mem_cons_of_mem _ (List.mem_append_left _ (List.mem_append_left _ (List.mem_append_right _ h)))
theorem iw_X10_worthOf_X5 : ∀ w ∈ wsX50, w ∈ wsX10_worthOf := fun _ h => List.mem_cons_of_mem _ (List.mem_append_right _ h)
theorem iw_X4_note_X4 : ∀ w ∈ wsX40, w ∈ wsX4_note := fun _ h => List.mem_cons_of_mem _ (List.mem_append_right _ h)
theorem iw_X4_takeBack_X4 : ∀ w ∈ wsX40, w ∈ wsX4_takeBack := fun _ h => List.mem_cons_of_mem _ (List.mem_append_right _ h)
theorem iw_X4_through_X4 : ∀ w ∈ wsX40, w ∈ wsX4_through := fun _ h => List.mem_cons_of_mem _ (List.mem_append_right _ h)
theorem iw_X4_openRooms_X4 : ∀ w ∈ wsX40, w ∈ wsX4_openRooms := fun _ h => List.mem_cons_of_mem _ (List.mem_append_right _ h)
theorem iw_X4_isOpen_X4 : ∀ w ∈ wsX40, w ∈ wsX4_isOpen := fun _ h => List.mem_cons_of_mem _ (List.mem_append_right _ h)
theorem iw_X4_sumAround_X0 : ∀ w ∈ wsX00, w ∈ wsX4_sumAround := fun _ h => List.mem_cons_of_mem _ (List.mem_append_left _ (List.mem_append_right _ h))
theorem iw_X4_sumAround_X4 : ∀ w ∈ wsX40, w ∈ wsX4_sumAround := fun _ h => List.mem_cons_of_mem _ (List.mem_append_left _ (List.mem_append_left _ (List.mem_append_right _ h)))
theorem iw_X4_sumAround_X5 : ∀ w ∈ wsX50, w ∈ wsX4_sumAround := fun _ h => List.mem_cons_of_mem _ (List.mem_append_right _ h)
theorem iw_X4_comingTo_X4 : ∀ w ∈ wsX40, w ∈ wsX4_comingTo := fun _ h => List.mem_cons_of_mem _ (List.mem_append_left _ (List.mem_append_left _ (List.mem_append_right _ h)))
theorem iw_X4_goingOn_X4 : ∀ w ∈ wsX40, w ∈ wsX4_goingOn := fun _ h => List.mem_cons_of_mem _ (List.mem_append_left _ (List.mem_append_left _ (List.mem_append_right _ h)))
