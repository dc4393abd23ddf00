def wsX9_begin_r1 : List Cond := [Cond.fieldLink RX9 35 "SoldHouse$Tokens" "behind" "I", Cond.methodLink RX9 39 yX9_advance, Cond.instanceMethod yX9_advance, Cond.selects RX9 yX9_advance yX9_advance, Cond.initialized RX9, Cond.code yX9_advance cX9_advance 1 none, Cond.fieldLink RX9 15 "SoldHouse$Tokens" "tape" "LSoldHouse$Tape;", Cond.fieldLink RX9 42 "SoldHouse$Tape" "size" "I", Cond.fieldLink RX9 47 "SoldHouse$Tape" "bytes" "[B", Cond.fieldLink RX9 55 "SoldHouse$Tokens" "place" "I", Cond.fieldLink RX9 58 "SoldHouse$Tokens" "kind" "I", Cond.methodLink RX9 51 yX9_isBlank, Cond.static yX9_isBlank, Cond.code yX9_isBlank cX9_isBlank 1 (some .boolean), Cond.methodLink RX9 61 yX9_isLetter, Cond.static yX9_isLetter, Cond.code yX9_isLetter cX9_isLetter 1 (some .boolean), Cond.methodLink RX9 64 yX9_readWord, Cond.instanceMethod yX9_readWord, Cond.selects RX9 yX9_readWord yX9_readWord, Cond.code yX9_readWord cX9_readWord 1 none, Cond.fieldLink RX9 79 "SoldHouse$Tokens" "word" "J", Cond.fieldLink RX9 76 "SoldHouse$Tokens" "value" "I", Cond.methodLink RX9 31 yX9_withLetter]
def wsX9_begin_r2 : List Cond := [Cond.static yX9_withLetter, Cond.code yX9_withLetter cX9_withLetter 3 (some .long), Cond.constantLong RX9 92 (32), Cond.methodLink RX9 83 yX9_numberOfOwn, Cond.instanceMethod yX9_numberOfOwn, Cond.selects RX9 yX9_numberOfOwn yX9_numberOfOwn, Cond.code yX9_numberOfOwn cX9_numberOfOwn 2 (some .int), Cond.fieldLink RX9 11 "SoldHouse$Tokens" "own" "[J", Cond.methodLink RX9 67 yX9_isDigit, Cond.static yX9_isDigit, Cond.code yX9_isDigit cX9_isDigit 1 (some .boolean), Cond.methodLink RX9 70 yX9_readNumber, Cond.instanceMethod yX9_readNumber, Cond.selects RX9 yX9_readNumber yX9_readNumber, Cond.code yX9_readNumber cX9_readNumber 2 none, Cond.methodLink RX9 73 yX9_readSign, Cond.instanceMethod yX9_readSign, Cond.selects RX9 yX9_readSign yX9_readSign, Cond.code yX9_readSign cX9_readSign 1 none, Cond.methodLink RX9 88 yJ0_indexOf_0f7a4, Cond.instanceMethod yJ0_indexOf_0f7a4, Cond.selects RJ0 yJ0_indexOf_0f7a4 yJ0_indexOf_0f7a4, Cond.initialized RJ0, Cond.code yJ0_indexOf_0f7a4 cJ0_indexOf_0f7a4 2 (some .int)]
def wsX9_begin_r3 : List Cond := [Cond.methodLink RJ0 633 yJ0_indexOf_7cf53, Cond.instanceMethod yJ0_indexOf_7cf53, Cond.selects RJ0 yJ0_indexOf_7cf53 yJ0_indexOf_7cf53, Cond.code yJ0_indexOf_7cf53 cJ0_indexOf_7cf53 3 (some .int), Cond.fieldLink RJ0 9 "java/lang/String" "value" "[B", Cond.methodLink RJ0 492 yJ0_isLatin1_aae02, Cond.instanceMethod yJ0_isLatin1_aae02, Cond.selects RJ0 yJ0_isLatin1_aae02 yJ0_isLatin1_aae02, Cond.code yJ0_isLatin1_aae02 cJ0_isLatin1_aae02 1 (some .boolean), Cond.fieldLink RJ0 38 "java/lang/String" "COMPACT_STRINGS" "Z", Cond.fieldLink RJ0 15 "java/lang/String" "coder" "B", Cond.methodLink RJ0 505 yJ0_length_8abf5, Cond.instanceMethod yJ0_length_8abf5, Cond.selects RJ0 yJ0_length_8abf5 yJ0_length_8abf5, Cond.code yJ0_length_8abf5 cJ0_length_8abf5 1 (some .int), Cond.methodLink RJ0 335 yJ0_coder_7d493, Cond.instanceMethod yJ0_coder_7d493, Cond.selects RJ0 yJ0_coder_7d493 yJ0_coder_7d493, Cond.code yJ0_coder_7d493 cJ0_coder_7d493 1 (some .byte), Cond.methodLink RJ0 637 yJ1_indexOf_4cfef, Cond.static yJ1_indexOf_4cfef, Cond.initialized RJ1, Cond.code yJ1_indexOf_4cfef cJ1_indexOf_4cfef 4 (some .int), Cond.methodLink RJ1 92 Lib.Math.max.name]
def wsX9_begin_r4 : List Cond := [Cond.static Lib.Math.max.name, Cond.initialized "java/lang/Math", Cond.code Lib.Math.max.name Lib.Math.max.code 2 (some .int), Cond.methodLink RJ1 38 Lib.Math.min.name, Cond.static Lib.Math.min.name, Cond.code Lib.Math.min.name Lib.Math.min.code 2 (some .int), Cond.methodLink RJ1 88 yJ1_canEncode_9a6ad, Cond.static yJ1_canEncode_9a6ad, Cond.code yJ1_canEncode_9a6ad cJ1_canEncode_9a6ad 1 (some .boolean), Cond.methodLink RJ1 95 yJ1_indexOfChar_4cfef, Cond.static yJ1_indexOfChar_4cfef, Cond.code yJ1_indexOfChar_4cfef cJ1_indexOfChar_4cfef 6 (some .int), Cond.methodLink RJ0 640 yJ2_indexOf_4cfef, Cond.static yJ2_indexOf_4cfef, Cond.initialized RJ2, Cond.code yJ2_indexOf_4cfef cJ2_indexOf_4cfef 4 (some .int), Cond.methodLink RJ2 224 Lib.Math.max.name, Cond.methodLink RJ2 183 Lib.Math.min.name, Cond.constant RJ2 227 (65536), Cond.methodLink RJ2 228 yJ2_indexOfChar_4cfef, Cond.static yJ2_indexOfChar_4cfef, Cond.code yJ2_indexOfChar_4cfef cJ2_indexOfChar_4cfef 4 (some .int), Cond.methodLink RJ2 96 yJ2_checkBoundsBeginEnd_d044e, Cond.static yJ2_checkBoundsBeginEnd_d044e]
def wsX9_begin_r5 : List Cond := [Cond.code yJ2_checkBoundsBeginEnd_d044e cJ2_checkBoundsBeginEnd_d044e 3 none, Cond.methodLink RJ2 48 yJ2_length_9d52b, Cond.static yJ2_length_9d52b, Cond.code yJ2_length_9d52b cJ2_length_9d52b 1 (some .int), Cond.methodLink RJ2 241 yJ0_checkBoundsBeginEnd_23922, Cond.static yJ0_checkBoundsBeginEnd_23922, Cond.code yJ0_checkBoundsBeginEnd_23922 cJ0_checkBoundsBeginEnd_23922 3 none, Cond.fieldLink RJ0 1053 "jdk/internal/util/Preconditions" "SIOOBE_FORMATTER" "Ljava/util/function/BiFunction;", Cond.methodLink RJ0 1062 yJ3_checkFromToIndex_8c36e, Cond.static yJ3_checkFromToIndex_8c36e, Cond.initialized RJ3, Cond.code yJ3_checkFromToIndex_8c36e cJ3_checkFromToIndex_8c36e 4 (some .int), Cond.methodLink RJ2 244 yJ2_indexOfCharUnsafe_4cfef, Cond.static yJ2_indexOfCharUnsafe_4cfef, Cond.code yJ2_indexOfCharUnsafe_4cfef cJ2_indexOfCharUnsafe_4cfef 5 (some .int), Cond.methodLink RJ2 71 yJ2_getChar_3b067, Cond.static yJ2_getChar_3b067, Cond.code yJ2_getChar_3b067 cJ2_getChar_3b067 2 (some .char), Cond.fieldLink RJ2 44 "java/lang/StringUTF16" "$assertionsDisabled" "Z", Cond.fieldLink RJ2 59 "java/lang/StringUTF16" "HI_BYTE_SHIFT" "I", Cond.fieldLink RJ2 63 "java/lang/StringUTF16" "LO_BYTE_SHIFT" "I", Cond.methodLink RJ2 232 yJ2_indexOfSupplementary_4cfef, Cond.static yJ2_indexOfSupplementary_4cfef, Cond.code yJ2_indexOfSupplementary_4cfef cJ2_indexOfSupplementary_4cfef 7 (some .int)]
def wsX9_begin_r6 : List Cond := [Cond.methodLink RJ2 164 yJ11_isValidCodePoint_9a6ad, Cond.static yJ11_isValidCodePoint_9a6ad, Cond.initialized RJ11, Cond.code yJ11_isValidCodePoint_9a6ad cJ11_isValidCodePoint_9a6ad 2 (some .boolean), Cond.methodLink RJ2 157 yJ11_highSurrogate_5068e, Cond.static yJ11_highSurrogate_5068e, Cond.code yJ11_highSurrogate_5068e cJ11_highSurrogate_5068e 1 (some .char), Cond.constant RJ11 110 (55232), Cond.methodLink RJ2 161 yJ11_lowSurrogate_5068e, Cond.static yJ11_lowSurrogate_5068e, Cond.code yJ11_lowSurrogate_5068e cJ11_lowSurrogate_5068e 1 (some .char), Cond.constant RJ11 76 (56320)]
def wsX9_begin : List Cond := .code yX9_begin cX9_begin 1 none :: ((wsX9_begin_r1 ++ (wsX9_begin_r2 ++ (wsX9_begin_r3 ++ (wsX9_begin_r4 ++ (wsX9_begin_r5 ++ wsX9_begin_r6))))) ++ wsX90 ++ wsX80)
def wsX3_keepAct : List Cond := .code yX3_keepAct cX3_keepAct 1 none :: ([.fieldLink RX3 128 "SoldHouse$Memory" "undone" "I", .fieldLink RX3 131 "SoldHouse$Memory" "done" "I", .fieldLink RX3 134 "SoldHouse$Memory" "oldest" "I", .fieldLink RX3 11 "SoldHouse$Memory" "now" "[I", .fieldLink RX3 20 "SoldHouse$Memory" "kept" "[[I", .methodLink RX3 115 arraycopyName, .native arraycopyName, .static arraycopyName, .initialized "java/lang/System"] ++ wsX30)
def wsX3_stepBack : List Cond := .code yX3_stepBack cX3_stepBack 1 (some .boolean) :: ([.fieldLink RX3 131 "SoldHouse$Memory" "done" "I", .fieldLink RX3 128 "SoldHouse$Memory" "undone" "I", .fieldLink RX3 20 "SoldHouse$Memory" "kept" "[[I", .fieldLink RX3 134 "SoldHouse$Memory" "oldest" "I", .fieldLink RX3 11 "SoldHouse$Memory" "now" "[I", .methodLink RX3 115 arraycopyName, .native arraycopyName, .static arraycopyName, .initialized "java/lang/System"] ++ wsX30)
def wsX3_stepOn : List Cond := .code yX3_stepOn cX3_stepOn 1 (some .boolean) :: ([.fieldLink RX3 128 "SoldHouse$Memory" "undone" "I", .fieldLink RX3 131 "SoldHouse$Memory" "done" "I", .fieldLink RX3 20 "SoldHouse$Memory" "kept" "[[I", .fieldLink RX3 134 "SoldHouse$Memory" "oldest" "I", .fieldLink RX3 11 "SoldHouse$Memory" "now" "[I", .methodLink RX3 115 arraycopyName, .native arraycopyName, .static arraycopyName, .initialized "java/lang/System"] ++ wsX30)
def wsX3_forgetActs : List Cond := .code yX3_forgetActs cX3_forgetActs 1 none :: ([.fieldLink RX3 134 "SoldHouse$Memory" "oldest" "I", .fieldLink RX3 131 "SoldHouse$Memory" "done" "I", .fieldLink RX3 128 "SoldHouse$Memory" "undone" "I", .fieldLink RX3 11 "SoldHouse$Memory" "now" "[I", .fieldLink RX3 20 "SoldHouse$Memory" "kept" "[[I", .methodLink RX3 115 arraycopyName, .native arraycopyName, .static arraycopyName, .initialized "java/lang/System"] ++ wsX30)
def wsX3_begin : List Cond := .code yX3_begin cX3_begin 3 none :: ([.fieldLink RX3 30 "SoldHouse$Memory" "floor" "LSoldHouse$Floor;", .fieldLink RX3 34 "SoldHouse$Floor" "plan" "LSoldHouse$Plan;", .fieldLink RX3 40 "SoldHouse$Plan" "things" "I", .fieldLink RX3 11 "SoldHouse$Memory" "now" "[I", .fieldLink RX3 46 "SoldHouse$Plan" "in" "[I", .fieldLink RX3 49 "SoldHouse$Plan" "was" "[I", .fieldLink RX3 52 "SoldHouse$Plan" "ours" "[I", .fieldLink RX3 55 "SoldHouse$Plan" "draw" "I", .fieldLink RX3 26 "SoldHouse$Memory" "full" "[Z", .methodLink RX3 58 yX3_forgetActs, .instanceMethod yX3_forgetActs, .selects RX3 yX3_forgetActs yX3_forgetActs, .initialized RX3, .code yX3_forgetActs cX3_forgetActs 1 none, .fieldLink RX3 134 "SoldHouse$Memory" "oldest" "I", .fieldLink RX3 131 "SoldHouse$Memory" "done" "I", .fieldLink RX3 128 "SoldHouse$Memory" "undone" "I", .fieldLink RX3 20 "SoldHouse$Memory" "kept" "[[I", .methodLink RX3 115 arraycopyName, .native arraycopyName, .static arraycopyName, .initialized "java/lang/System"] ++ wsX30 ++ wsX00 ++ wsX50)
def wsX3_putInBox : List Cond := .code yX3_putInBox cX3_putInBox 2 (some .int) :: ([.fieldLink RX3 11 "SoldHouse$Memory" "now" "[I", .fieldLink RX3 23 "SoldHouse$Memory" "box" "[[I", .methodLink RX3 115 arraycopyName, .native arraycopyName, .static arraycopyName, .initialized "java/lang/System", .fieldLink RX3 26 "SoldHouse$Memory" "full" "[Z"] ++ wsX30)
def wsX3_takeFromBox : List Cond := .code yX3_takeFromBox cX3_takeFromBox 2 (some .int) :: ([.fieldLink RX3 26 "SoldHouse$Memory" "full" "[Z", .fieldLink RX3 23 "SoldHouse$Memory" "box" "[[I", .fieldLink RX3 11 "SoldHouse$Memory" "now" "[I", .methodLink RX3 115 arraycopyName, .native arraycopyName, .static arraycopyName, .initialized "java/lang/System", .methodLink RX3 58 yX3_forgetActs, .instanceMethod yX3_forgetActs, .selects RX3 yX3_forgetActs yX3_forgetActs, .initialized RX3, .code yX3_forgetActs cX3_forgetActs 1 none, .fieldLink RX3 134 "SoldHouse$Memory" "oldest" "I", .fieldLink RX3 131 "SoldHouse$Memory" "done" "I", .fieldLink RX3 128 "SoldHouse$Memory" "undone" "I", .fieldLink RX3 20 "SoldHouse$Memory" "kept" "[[I"] ++ wsX30)
def wsX3_daysTillLost_r1 : List Cond := [Cond.fieldLink RX3 30 "SoldHouse$Memory" "floor" "LSoldHouse$Floor;", Cond.fieldLink RX3 34 "SoldHouse$Floor" "plan" "LSoldHouse$Plan;", Cond.fieldLink RX3 40 "SoldHouse$Plan" "things" "I", Cond.fieldLink RX3 11 "SoldHouse$Memory" "now" "[I", Cond.fieldLink RX3 15 "SoldHouse$Memory" "ahead" "[I", Cond.methodLink RX3 115 arraycopyName, Cond.native arraycopyName, Cond.static arraycopyName, Cond.initialized "java/lang/System", Cond.methodLink RX3 125 yX3_rightThings, Cond.instanceMethod yX3_rightThings, Cond.selects RX3 yX3_rightThings yX3_rightThings, Cond.initialized RX3, Cond.code yX3_rightThings cX3_rightThings 4 (some .int), Cond.methodLink RX3 61 yX3_isRight, Cond.instanceMethod yX3_isRight, Cond.selects RX3 yX3_isRight yX3_isRight, Cond.code yX3_isRight cX3_isRight 3 (some .boolean), Cond.methodLink RX3 121 yX3_passDay, Cond.instanceMethod yX3_passDay, Cond.selects RX3 yX3_passDay yX3_passDay, Cond.code yX3_passDay cX3_passDay 5 (some .int), Cond.fieldLink RX3 105 "SoldHouse$Plan" "rooms" "I", Cond.methodLink RX3 102 Lib.Math.max.name]
def wsX3_daysTillLost_r2 : List Cond := [Cond.static Lib.Math.max.name, Cond.initialized "java/lang/Math", Cond.code Lib.Math.max.name Lib.Math.max.code 2 (some .int), Cond.methodLink RX3 108 yX3_sureOf, Cond.instanceMethod yX3_sureOf, Cond.selects RX3 yX3_sureOf yX3_sureOf, Cond.code yX3_sureOf cX3_sureOf 5 (some .int), Cond.fieldLink RX3 69 "SoldHouse$Plan" "sure" "LSoldHouse$Formula;", Cond.fieldLink RX3 73 "SoldHouse$Formula" "told" "Z", Cond.fieldLink RX3 79 "SoldHouse$Plan" "us" "[I", Cond.fieldLink RX3 82 "SoldHouse$Plan" "them" "[I", Cond.methodLink RX3 97 Lib.Math.min.name, Cond.static Lib.Math.min.name, Cond.code Lib.Math.min.name Lib.Math.min.code 2 (some .int), Cond.methodLink RX3 85 yX3_farOff, Cond.instanceMethod yX3_farOff, Cond.selects RX3 yX3_farOff yX3_farOff, Cond.code yX3_farOff cX3_farOff 4 (some .int), Cond.methodLink RX3 65 yX0_farOf, Cond.instanceMethod yX0_farOf, Cond.selects RX0 yX0_farOf yX0_farOf, Cond.initialized RX0, Cond.code yX0_farOf cX0_farOf 3 (some .int), Cond.fieldLink RX0 15 "SoldHouse$Floor" "far" "[I"]
def wsX3_daysTillLost_r3 : List Cond := [Cond.methodLink RX3 89 yX1_know, Cond.instanceMethod yX1_know, Cond.selects RX1 yX1_know yX1_know, Cond.initialized RX1, Cond.code yX1_know cX1_know 6 none, Cond.fieldLink RX1 16 "SoldHouse$Formula" "known" "[I", Cond.methodLink RX3 93 yX1_work, Cond.instanceMethod yX1_work, Cond.selects RX1 yX1_work yX1_work, Cond.code yX1_work cX1_work 4 (some .int), Cond.fieldLink RX1 19 "SoldHouse$Formula" "size" "I", Cond.fieldLink RX1 9 "SoldHouse$Formula" "steps" "[I", Cond.fieldLink RX1 13 "SoldHouse$Formula" "stack" "[I", Cond.methodLink RX1 30 yX1_join, Cond.static yX1_join, Cond.code yX1_join cX1_join 3 (some .int)]
def wsX3_daysTillLost : List Cond := .code yX3_daysTillLost cX3_daysTillLost 2 (some .int) :: ((wsX3_daysTillLost_r1 ++ (wsX3_daysTillLost_r2 ++ wsX3_daysTillLost_r3)) ++ wsX30 ++ wsX00 ++ wsX50 ++ wsX10)
def wsX3_thoughtBehind_r1 : List Cond := [Cond.fieldLink RX3 11 "SoldHouse$Memory" "now" "[I", Cond.fieldLink RX3 15 "SoldHouse$Memory" "ahead" "[I", Cond.methodLink RX3 115 arraycopyName, Cond.native arraycopyName, Cond.static arraycopyName, Cond.initialized "java/lang/System", Cond.methodLink RX3 121 yX3_passDay, Cond.instanceMethod yX3_passDay, Cond.selects RX3 yX3_passDay yX3_passDay, Cond.initialized RX3, Cond.code yX3_passDay cX3_passDay 5 (some .int), Cond.fieldLink RX3 30 "SoldHouse$Memory" "floor" "LSoldHouse$Floor;", Cond.fieldLink RX3 34 "SoldHouse$Floor" "plan" "LSoldHouse$Plan;", Cond.fieldLink RX3 105 "SoldHouse$Plan" "rooms" "I", Cond.methodLink RX3 102 Lib.Math.max.name, Cond.static Lib.Math.max.name, Cond.initialized "java/lang/Math", Cond.code Lib.Math.max.name Lib.Math.max.code 2 (some .int), Cond.fieldLink RX3 40 "SoldHouse$Plan" "things" "I", Cond.methodLink RX3 108 yX3_sureOf, Cond.instanceMethod yX3_sureOf, Cond.selects RX3 yX3_sureOf yX3_sureOf, Cond.code yX3_sureOf cX3_sureOf 5 (some .int), Cond.fieldLink RX3 69 "SoldHouse$Plan" "sure" "LSoldHouse$Formula;"]
def wsX3_thoughtBehind_r2 : List Cond := [Cond.fieldLink RX3 73 "SoldHouse$Formula" "told" "Z", Cond.fieldLink RX3 79 "SoldHouse$Plan" "us" "[I", Cond.fieldLink RX3 82 "SoldHouse$Plan" "them" "[I", Cond.methodLink RX3 97 Lib.Math.min.name, Cond.static Lib.Math.min.name, Cond.code Lib.Math.min.name Lib.Math.min.code 2 (some .int), Cond.methodLink RX3 85 yX3_farOff, Cond.instanceMethod yX3_farOff, Cond.selects RX3 yX3_farOff yX3_farOff, Cond.code yX3_farOff cX3_farOff 4 (some .int), Cond.methodLink RX3 65 yX0_farOf, Cond.instanceMethod yX0_farOf, Cond.selects RX0 yX0_farOf yX0_farOf, Cond.initialized RX0, Cond.code yX0_farOf cX0_farOf 3 (some .int), Cond.fieldLink RX0 15 "SoldHouse$Floor" "far" "[I", Cond.methodLink RX3 89 yX1_know, Cond.instanceMethod yX1_know, Cond.selects RX1 yX1_know yX1_know, Cond.initialized RX1, Cond.code yX1_know cX1_know 6 none, Cond.fieldLink RX1 16 "SoldHouse$Formula" "known" "[I", Cond.methodLink RX3 93 yX1_work, Cond.instanceMethod yX1_work]
def wsX3_thoughtBehind_r3 : List Cond := [Cond.selects RX1 yX1_work yX1_work, Cond.code yX1_work cX1_work 4 (some .int), Cond.fieldLink RX1 19 "SoldHouse$Formula" "size" "I", Cond.fieldLink RX1 9 "SoldHouse$Formula" "steps" "[I", Cond.fieldLink RX1 13 "SoldHouse$Formula" "stack" "[I", Cond.methodLink RX1 30 yX1_join, Cond.static yX1_join, Cond.code yX1_join cX1_join 3 (some .int)]
def wsX3_thoughtBehind : List Cond := .code yX3_thoughtBehind cX3_thoughtBehind 4 (some .int) :: ((wsX3_thoughtBehind_r1 ++ (wsX3_thoughtBehind_r2 ++ wsX3_thoughtBehind_r3)) ++ wsX30 ++ wsX00 ++ wsX50 ++ wsX10)
def wsX10_mostPairs_r1 : List Cond := [Cond.fieldLink RX10 9 "SoldHouse$Trader" "memory" "LSoldHouse$Memory;", Cond.fieldLink RX10 15 "SoldHouse$Memory" "floor" "LSoldHouse$Floor;", Cond.fieldLink RX10 21 "SoldHouse$Floor" "plan" "LSoldHouse$Plan;", Cond.fieldLink RX10 27 "SoldHouse$Plan" "things" "I", Cond.methodLink RX10 64 Lib.Math.max.name, Cond.static Lib.Math.max.name, Cond.initialized "java/lang/Math", Cond.code Lib.Math.max.name Lib.Math.max.code 2 (some .int), Cond.methodLink RX10 61 yX10_mostPairs, Cond.instanceMethod yX10_mostPairs, Cond.selects RX10 yX10_mostPairs yX10_mostPairs, Cond.initialized RX10, Cond.methodLink RX10 47 yX10_isFair, Cond.instanceMethod yX10_isFair, Cond.selects RX10 yX10_isFair yX10_isFair, Cond.code yX10_isFair cX10_isFair 4 (some .boolean), Cond.methodLink RX10 40 yX10_isOurs, Cond.instanceMethod yX10_isOurs, Cond.selects RX10 yX10_isOurs yX10_isOurs, Cond.code yX10_isOurs cX10_isOurs 2 (some .boolean), Cond.fieldLink RX10 44 "SoldHouse$Memory" "now" "[I", Cond.methodLink RX10 55 yX10_ourGain, Cond.instanceMethod yX10_ourGain, Cond.selects RX10 yX10_ourGain yX10_ourGain]
def wsX10_mostPairs_r2 : List Cond := [Cond.code yX10_ourGain cX10_ourGain 3 (some .int), Cond.fieldLink RX10 37 "SoldHouse$Plan" "us" "[I", Cond.methodLink RX10 58 yX10_theirGain, Cond.instanceMethod yX10_theirGain, Cond.selects RX10 yX10_theirGain yX10_theirGain, Cond.code yX10_theirGain cX10_theirGain 3 (some .int), Cond.fieldLink RX10 33 "SoldHouse$Plan" "them" "[I"]
def wsX10_mostPairs : List Cond := .code yX10_mostPairs cX10_mostPairs 6 (some .int) :: ((wsX10_mostPairs_r1 ++ wsX10_mostPairs_r2) ++ wsX100 ++ wsX30 ++ wsX00 ++ wsX50)
def wsX10_mostTrades_r1 : List Cond := [Cond.methodLink RX10 61 yX10_mostPairs, Cond.instanceMethod yX10_mostPairs, Cond.selects RX10 yX10_mostPairs yX10_mostPairs, Cond.initialized RX10, Cond.code yX10_mostPairs cX10_mostPairs 6 (some .int), Cond.fieldLink RX10 9 "SoldHouse$Trader" "memory" "LSoldHouse$Memory;", Cond.fieldLink RX10 15 "SoldHouse$Memory" "floor" "LSoldHouse$Floor;", Cond.fieldLink RX10 21 "SoldHouse$Floor" "plan" "LSoldHouse$Plan;", Cond.fieldLink RX10 27 "SoldHouse$Plan" "things" "I", Cond.methodLink RX10 64 Lib.Math.max.name, Cond.static Lib.Math.max.name, Cond.initialized "java/lang/Math", Cond.code Lib.Math.max.name Lib.Math.max.code 2 (some .int), Cond.methodLink RX10 47 yX10_isFair, Cond.instanceMethod yX10_isFair, Cond.selects RX10 yX10_isFair yX10_isFair, Cond.code yX10_isFair cX10_isFair 4 (some .boolean), Cond.methodLink RX10 40 yX10_isOurs, Cond.instanceMethod yX10_isOurs, Cond.selects RX10 yX10_isOurs yX10_isOurs, Cond.code yX10_isOurs cX10_isOurs 2 (some .boolean), Cond.fieldLink RX10 44 "SoldHouse$Memory" "now" "[I", Cond.methodLink RX10 55 yX10_ourGain, Cond.instanceMethod yX10_ourGain]
def wsX10_mostTrades_r2 : List Cond := [Cond.selects RX10 yX10_ourGain yX10_ourGain, Cond.code yX10_ourGain cX10_ourGain 3 (some .int), Cond.fieldLink RX10 37 "SoldHouse$Plan" "us" "[I", Cond.methodLink RX10 58 yX10_theirGain, Cond.instanceMethod yX10_theirGain, Cond.selects RX10 yX10_theirGain yX10_theirGain, Cond.code yX10_theirGain cX10_theirGain 3 (some .int), Cond.fieldLink RX10 33 "SoldHouse$Plan" "them" "[I"]
def wsX10_mostTrades : List Cond := .code yX10_mostTrades cX10_mostTrades 1 (some .int) :: ((wsX10_mostTrades_r1 ++ wsX10_mostTrades_r2) ++ wsX100 ++ wsX30 ++ wsX00 ++ wsX50)
def wsX6_refuse : List Cond := .code yX6_refuse cX6_refuse 2 (some .boolean) :: ([.fieldLink RX6 20 "SoldHouse$Reader" "tokens" "LSoldHouse$Tokens;", .fieldLink RX6 34 "SoldHouse$Tokens" "kind" "I", .fieldLink RX6 28 "SoldHouse$Reader" "fault" "I", .fieldLink RX6 205 "SoldHouse$Tokens" "place" "I", .fieldLink RX6 9 "SoldHouse$Reader" "faultPlace" "I"] ++ wsX60 ++ wsX90)
def wsX6_readSign_r1 : List Cond := [Cond.fieldLink RX6 20 "SoldHouse$Reader" "tokens" "LSoldHouse$Tokens;", Cond.methodLink RX6 187 yX9_isSign, Cond.instanceMethod yX9_isSign, Cond.selects RX9 yX9_isSign yX9_isSign, Cond.initialized RX9, Cond.code yX9_isSign cX9_isSign 2 (some .boolean), Cond.fieldLink RX9 58 "SoldHouse$Tokens" "kind" "I", Cond.fieldLink RX9 76 "SoldHouse$Tokens" "value" "I", Cond.methodLink RX6 56 yX6_refuse, Cond.instanceMethod yX6_refuse, Cond.selects RX6 yX6_refuse yX6_refuse, Cond.initialized RX6, Cond.code yX6_refuse cX6_refuse 2 (some .boolean), Cond.fieldLink RX6 34 "SoldHouse$Tokens" "kind" "I", Cond.fieldLink RX6 28 "SoldHouse$Reader" "fault" "I", Cond.fieldLink RX6 205 "SoldHouse$Tokens" "place" "I", Cond.fieldLink RX6 9 "SoldHouse$Reader" "faultPlace" "I", Cond.methodLink RX6 69 yX9_advance, Cond.instanceMethod yX9_advance, Cond.selects RX9 yX9_advance yX9_advance, Cond.code yX9_advance cX9_advance 1 none, Cond.fieldLink RX9 35 "SoldHouse$Tokens" "behind" "I", Cond.fieldLink RX9 15 "SoldHouse$Tokens" "tape" "LSoldHouse$Tape;", Cond.fieldLink RX9 42 "SoldHouse$Tape" "size" "I"]
def wsX6_readSign_r2 : List Cond := [Cond.fieldLink RX9 47 "SoldHouse$Tape" "bytes" "[B", Cond.fieldLink RX9 55 "SoldHouse$Tokens" "place" "I", Cond.methodLink RX9 51 yX9_isBlank, Cond.static yX9_isBlank, Cond.code yX9_isBlank cX9_isBlank 1 (some .boolean), Cond.methodLink RX9 61 yX9_isLetter, Cond.static yX9_isLetter, Cond.code yX9_isLetter cX9_isLetter 1 (some .boolean), Cond.methodLink RX9 64 yX9_readWord, Cond.instanceMethod yX9_readWord, Cond.selects RX9 yX9_readWord yX9_readWord, Cond.code yX9_readWord cX9_readWord 1 none, Cond.fieldLink RX9 79 "SoldHouse$Tokens" "word" "J", Cond.methodLink RX9 31 yX9_withLetter, Cond.static yX9_withLetter, Cond.code yX9_withLetter cX9_withLetter 3 (some .long), Cond.constantLong RX9 92 (32), Cond.methodLink RX9 83 yX9_numberOfOwn, Cond.instanceMethod yX9_numberOfOwn, Cond.selects RX9 yX9_numberOfOwn yX9_numberOfOwn, Cond.code yX9_numberOfOwn cX9_numberOfOwn 2 (some .int), Cond.fieldLink RX9 11 "SoldHouse$Tokens" "own" "[J", Cond.methodLink RX9 67 yX9_isDigit, Cond.static yX9_isDigit]
def wsX6_readSign_r3 : List Cond := [Cond.code yX9_isDigit cX9_isDigit 1 (some .boolean), Cond.methodLink RX9 70 yX9_readNumber, Cond.instanceMethod yX9_readNumber, Cond.selects RX9 yX9_readNumber yX9_readNumber, Cond.code yX9_readNumber cX9_readNumber 2 none, Cond.methodLink RX9 73 yX9_readSign, Cond.instanceMethod yX9_readSign, Cond.selects RX9 yX9_readSign yX9_readSign, Cond.code yX9_readSign cX9_readSign 1 none, Cond.methodLink RX9 88 yJ0_indexOf_0f7a4, Cond.instanceMethod yJ0_indexOf_0f7a4, Cond.selects RJ0 yJ0_indexOf_0f7a4 yJ0_indexOf_0f7a4, Cond.initialized RJ0, Cond.code yJ0_indexOf_0f7a4 cJ0_indexOf_0f7a4 2 (some .int), Cond.methodLink RJ0 633 yJ0_indexOf_7cf53, Cond.instanceMethod yJ0_indexOf_7cf53, Cond.selects RJ0 yJ0_indexOf_7cf53 yJ0_indexOf_7cf53, Cond.code yJ0_indexOf_7cf53 cJ0_indexOf_7cf53 3 (some .int), Cond.fieldLink RJ0 9 "java/lang/String" "value" "[B", Cond.methodLink RJ0 492 yJ0_isLatin1_aae02, Cond.instanceMethod yJ0_isLatin1_aae02, Cond.selects RJ0 yJ0_isLatin1_aae02 yJ0_isLatin1_aae02, Cond.code yJ0_isLatin1_aae02 cJ0_isLatin1_aae02 1 (some .boolean), Cond.fieldLink RJ0 38 "java/lang/String" "COMPACT_STRINGS" "Z"]
def wsX6_readSign_r4 : List Cond := [Cond.fieldLink RJ0 15 "java/lang/String" "coder" "B", Cond.methodLink RJ0 505 yJ0_length_8abf5, Cond.instanceMethod yJ0_length_8abf5, Cond.selects RJ0 yJ0_length_8abf5 yJ0_length_8abf5, Cond.code yJ0_length_8abf5 cJ0_length_8abf5 1 (some .int), Cond.methodLink RJ0 335 yJ0_coder_7d493, Cond.instanceMethod yJ0_coder_7d493, Cond.selects RJ0 yJ0_coder_7d493 yJ0_coder_7d493, Cond.code yJ0_coder_7d493 cJ0_coder_7d493 1 (some .byte), Cond.methodLink RJ0 637 yJ1_indexOf_4cfef, Cond.static yJ1_indexOf_4cfef, Cond.initialized RJ1, Cond.code yJ1_indexOf_4cfef cJ1_indexOf_4cfef 4 (some .int), Cond.methodLink RJ1 92 Lib.Math.max.name, Cond.static Lib.Math.max.name, Cond.initialized "java/lang/Math", Cond.code Lib.Math.max.name Lib.Math.max.code 2 (some .int), Cond.methodLink RJ1 38 Lib.Math.min.name, Cond.static Lib.Math.min.name, Cond.code Lib.Math.min.name Lib.Math.min.code 2 (some .int), Cond.methodLink RJ1 88 yJ1_canEncode_9a6ad, Cond.static yJ1_canEncode_9a6ad, Cond.code yJ1_canEncode_9a6ad cJ1_canEncode_9a6ad 1 (some .boolean), Cond.methodLink RJ1 95 yJ1_indexOfChar_4cfef]
def wsX6_readSign_r5 : List Cond := [Cond.static yJ1_indexOfChar_4cfef, Cond.code yJ1_indexOfChar_4cfef cJ1_indexOfChar_4cfef 6 (some .int), Cond.methodLink RJ0 640 yJ2_indexOf_4cfef, Cond.static yJ2_indexOf_4cfef, Cond.initialized RJ2, Cond.code yJ2_indexOf_4cfef cJ2_indexOf_4cfef 4 (some .int), Cond.methodLink RJ2 224 Lib.Math.max.name, Cond.methodLink RJ2 183 Lib.Math.min.name, Cond.constant RJ2 227 (65536), Cond.methodLink RJ2 228 yJ2_indexOfChar_4cfef, Cond.static yJ2_indexOfChar_4cfef, Cond.code yJ2_indexOfChar_4cfef cJ2_indexOfChar_4cfef 4 (some .int), Cond.methodLink RJ2 96 yJ2_checkBoundsBeginEnd_d044e, Cond.static yJ2_checkBoundsBeginEnd_d044e, Cond.code yJ2_checkBoundsBeginEnd_d044e cJ2_checkBoundsBeginEnd_d044e 3 none, Cond.methodLink RJ2 48 yJ2_length_9d52b, Cond.static yJ2_length_9d52b, Cond.code yJ2_length_9d52b cJ2_length_9d52b 1 (some .int), Cond.methodLink RJ2 241 yJ0_checkBoundsBeginEnd_23922, Cond.static yJ0_checkBoundsBeginEnd_23922, Cond.code yJ0_checkBoundsBeginEnd_23922 cJ0_checkBoundsBeginEnd_23922 3 none, Cond.fieldLink RJ0 1053 "jdk/internal/util/Preconditions" "SIOOBE_FORMATTER" "Ljava/util/function/BiFunction;", Cond.methodLink RJ0 1062 yJ3_checkFromToIndex_8c36e, Cond.static yJ3_checkFromToIndex_8c36e]
def wsX6_readSign_r6 : List Cond := [Cond.initialized RJ3, Cond.code yJ3_checkFromToIndex_8c36e cJ3_checkFromToIndex_8c36e 4 (some .int), Cond.methodLink RJ2 244 yJ2_indexOfCharUnsafe_4cfef, Cond.static yJ2_indexOfCharUnsafe_4cfef, Cond.code yJ2_indexOfCharUnsafe_4cfef cJ2_indexOfCharUnsafe_4cfef 5 (some .int), Cond.methodLink RJ2 71 yJ2_getChar_3b067, Cond.static yJ2_getChar_3b067, Cond.code yJ2_getChar_3b067 cJ2_getChar_3b067 2 (some .char), Cond.fieldLink RJ2 44 "java/lang/StringUTF16" "$assertionsDisabled" "Z", Cond.fieldLink RJ2 59 "java/lang/StringUTF16" "HI_BYTE_SHIFT" "I", Cond.fieldLink RJ2 63 "java/lang/StringUTF16" "LO_BYTE_SHIFT" "I", Cond.methodLink RJ2 232 yJ2_indexOfSupplementary_4cfef, Cond.static yJ2_indexOfSupplementary_4cfef, Cond.code yJ2_indexOfSupplementary_4cfef cJ2_indexOfSupplementary_4cfef 7 (some .int), Cond.methodLink RJ2 164 yJ11_isValidCodePoint_9a6ad, Cond.static yJ11_isValidCodePoint_9a6ad, Cond.initialized RJ11, Cond.code yJ11_isValidCodePoint_9a6ad cJ11_isValidCodePoint_9a6ad 2 (some .boolean), Cond.methodLink RJ2 157 yJ11_highSurrogate_5068e, Cond.static yJ11_highSurrogate_5068e, Cond.code yJ11_highSurrogate_5068e cJ11_highSurrogate_5068e 1 (some .char), Cond.constant RJ11 110 (55232), Cond.methodLink RJ2 161 yJ11_lowSurrogate_5068e, Cond.static yJ11_lowSurrogate_5068e]
def wsX6_readSign_r7 : List Cond := [Cond.code yJ11_lowSurrogate_5068e cJ11_lowSurrogate_5068e 1 (some .char), Cond.constant RJ11 76 (56320)]
def wsX6_readSign : List Cond := .code yX6_readSign cX6_readSign 2 (some .boolean) :: ((wsX6_readSign_r1 ++ (wsX6_readSign_r2 ++ (wsX6_readSign_r3 ++ (wsX6_readSign_r4 ++ (wsX6_readSign_r5 ++ (wsX6_readSign_r6 ++ wsX6_readSign_r7)))))) ++ wsX60 ++ wsX90 ++ wsX80)
def wsX6_knownRoom_r1 : List Cond := [Cond.fieldLink RX6 20 "SoldHouse$Reader" "tokens" "LSoldHouse$Tokens;", Cond.fieldLink RX6 24 "SoldHouse$Reader" "plan" "LSoldHouse$Plan;", Cond.fieldLink RX6 75 "SoldHouse$Tokens" "word" "J", Cond.methodLink RX6 72 yX9_isName, Cond.instanceMethod yX9_isName, Cond.selects RX9 yX9_isName yX9_isName, Cond.initialized RX9, Cond.code yX9_isName cX9_isName 1 (some .boolean), Cond.fieldLink RX9 58 "SoldHouse$Tokens" "kind" "I", Cond.fieldLink RX9 76 "SoldHouse$Tokens" "value" "I", Cond.methodLink RX6 56 yX6_refuse, Cond.instanceMethod yX6_refuse, Cond.selects RX6 yX6_refuse yX6_refuse, Cond.initialized RX6, Cond.code yX6_refuse cX6_refuse 2 (some .boolean), Cond.fieldLink RX6 34 "SoldHouse$Tokens" "kind" "I", Cond.fieldLink RX6 28 "SoldHouse$Reader" "fault" "I", Cond.fieldLink RX6 205 "SoldHouse$Tokens" "place" "I", Cond.fieldLink RX6 9 "SoldHouse$Reader" "faultPlace" "I", Cond.methodLink RX6 79 yX5_roomNamed, Cond.instanceMethod yX5_roomNamed, Cond.selects RX5 yX5_roomNamed yX5_roomNamed, Cond.initialized RX5, Cond.code yX5_roomNamed cX5_roomNamed 4 (some .int)]
def wsX6_knownRoom_r2 : List Cond := [Cond.fieldLink RX5 50 "SoldHouse$Plan" "rooms" "I", Cond.fieldLink RX5 9 "SoldHouse$Plan" "roomName" "[J"]
def wsX6_knownRoom : List Cond := .code yX6_knownRoom cX6_knownRoom 2 (some .int) :: ((wsX6_knownRoom_r1 ++ wsX6_knownRoom_r2) ++ wsX60 ++ wsX90 ++ wsX50)
def wsX6_readNumberBehind_r1 : List Cond := [Cond.fieldLink RX6 20 "SoldHouse$Reader" "tokens" "LSoldHouse$Tokens;", Cond.fieldLink RX6 34 "SoldHouse$Tokens" "kind" "I", Cond.fieldLink RX6 37 "SoldHouse$Tokens" "value" "I", Cond.methodLink RX6 128 yX9_isOwn, Cond.instanceMethod yX9_isOwn, Cond.selects RX9 yX9_isOwn yX9_isOwn, Cond.initialized RX9, Cond.code yX9_isOwn cX9_isOwn 2 (some .boolean), Cond.fieldLink RX9 58 "SoldHouse$Tokens" "kind" "I", Cond.fieldLink RX9 76 "SoldHouse$Tokens" "value" "I", Cond.methodLink RX6 69 yX9_advance, Cond.instanceMethod yX9_advance, Cond.selects RX9 yX9_advance yX9_advance, Cond.code yX9_advance cX9_advance 1 none, Cond.fieldLink RX9 35 "SoldHouse$Tokens" "behind" "I", Cond.fieldLink RX9 15 "SoldHouse$Tokens" "tape" "LSoldHouse$Tape;", Cond.fieldLink RX9 42 "SoldHouse$Tape" "size" "I", Cond.fieldLink RX9 47 "SoldHouse$Tape" "bytes" "[B", Cond.fieldLink RX9 55 "SoldHouse$Tokens" "place" "I", Cond.methodLink RX9 51 yX9_isBlank, Cond.static yX9_isBlank, Cond.code yX9_isBlank cX9_isBlank 1 (some .boolean), Cond.methodLink RX9 61 yX9_isLetter, Cond.static yX9_isLetter]
def wsX6_readNumberBehind_r2 : List Cond := [Cond.code yX9_isLetter cX9_isLetter 1 (some .boolean), Cond.methodLink RX9 64 yX9_readWord, Cond.instanceMethod yX9_readWord, Cond.selects RX9 yX9_readWord yX9_readWord, Cond.code yX9_readWord cX9_readWord 1 none, Cond.fieldLink RX9 79 "SoldHouse$Tokens" "word" "J", Cond.methodLink RX9 31 yX9_withLetter, Cond.static yX9_withLetter, Cond.code yX9_withLetter cX9_withLetter 3 (some .long), Cond.constantLong RX9 92 (32), Cond.methodLink RX9 83 yX9_numberOfOwn, Cond.instanceMethod yX9_numberOfOwn, Cond.selects RX9 yX9_numberOfOwn yX9_numberOfOwn, Cond.code yX9_numberOfOwn cX9_numberOfOwn 2 (some .int), Cond.fieldLink RX9 11 "SoldHouse$Tokens" "own" "[J", Cond.methodLink RX9 67 yX9_isDigit, Cond.static yX9_isDigit, Cond.code yX9_isDigit cX9_isDigit 1 (some .boolean), Cond.methodLink RX9 70 yX9_readNumber, Cond.instanceMethod yX9_readNumber, Cond.selects RX9 yX9_readNumber yX9_readNumber, Cond.code yX9_readNumber cX9_readNumber 2 none, Cond.methodLink RX9 73 yX9_readSign, Cond.instanceMethod yX9_readSign]
def wsX6_readNumberBehind_r3 : List Cond := [Cond.selects RX9 yX9_readSign yX9_readSign, Cond.code yX9_readSign cX9_readSign 1 none, Cond.methodLink RX9 88 yJ0_indexOf_0f7a4, Cond.instanceMethod yJ0_indexOf_0f7a4, Cond.selects RJ0 yJ0_indexOf_0f7a4 yJ0_indexOf_0f7a4, Cond.initialized RJ0, Cond.code yJ0_indexOf_0f7a4 cJ0_indexOf_0f7a4 2 (some .int), Cond.methodLink RJ0 633 yJ0_indexOf_7cf53, Cond.instanceMethod yJ0_indexOf_7cf53, Cond.selects RJ0 yJ0_indexOf_7cf53 yJ0_indexOf_7cf53, Cond.code yJ0_indexOf_7cf53 cJ0_indexOf_7cf53 3 (some .int), Cond.fieldLink RJ0 9 "java/lang/String" "value" "[B", Cond.methodLink RJ0 492 yJ0_isLatin1_aae02, Cond.instanceMethod yJ0_isLatin1_aae02, Cond.selects RJ0 yJ0_isLatin1_aae02 yJ0_isLatin1_aae02, Cond.code yJ0_isLatin1_aae02 cJ0_isLatin1_aae02 1 (some .boolean), Cond.fieldLink RJ0 38 "java/lang/String" "COMPACT_STRINGS" "Z", Cond.fieldLink RJ0 15 "java/lang/String" "coder" "B", Cond.methodLink RJ0 505 yJ0_length_8abf5, Cond.instanceMethod yJ0_length_8abf5, Cond.selects RJ0 yJ0_length_8abf5 yJ0_length_8abf5, Cond.code yJ0_length_8abf5 cJ0_length_8abf5 1 (some .int), Cond.methodLink RJ0 335 yJ0_coder_7d493, Cond.instanceMethod yJ0_coder_7d493]
def wsX6_readNumberBehind_r4 : List Cond := [Cond.selects RJ0 yJ0_coder_7d493 yJ0_coder_7d493, Cond.code yJ0_coder_7d493 cJ0_coder_7d493 1 (some .byte), Cond.methodLink RJ0 637 yJ1_indexOf_4cfef, Cond.static yJ1_indexOf_4cfef, Cond.initialized RJ1, Cond.code yJ1_indexOf_4cfef cJ1_indexOf_4cfef 4 (some .int), Cond.methodLink RJ1 92 Lib.Math.max.name, Cond.static Lib.Math.max.name, Cond.initialized "java/lang/Math", Cond.code Lib.Math.max.name Lib.Math.max.code 2 (some .int), Cond.methodLink RJ1 38 Lib.Math.min.name, Cond.static Lib.Math.min.name, Cond.code Lib.Math.min.name Lib.Math.min.code 2 (some .int), Cond.methodLink RJ1 88 yJ1_canEncode_9a6ad, Cond.static yJ1_canEncode_9a6ad, Cond.code yJ1_canEncode_9a6ad cJ1_canEncode_9a6ad 1 (some .boolean), Cond.methodLink RJ1 95 yJ1_indexOfChar_4cfef, Cond.static yJ1_indexOfChar_4cfef, Cond.code yJ1_indexOfChar_4cfef cJ1_indexOfChar_4cfef 6 (some .int), Cond.methodLink RJ0 640 yJ2_indexOf_4cfef, Cond.static yJ2_indexOf_4cfef, Cond.initialized RJ2, Cond.code yJ2_indexOf_4cfef cJ2_indexOf_4cfef 4 (some .int), Cond.methodLink RJ2 224 Lib.Math.max.name]
def wsX6_readNumberBehind_r5 : List Cond := [Cond.methodLink RJ2 183 Lib.Math.min.name, Cond.constant RJ2 227 (65536), Cond.methodLink RJ2 228 yJ2_indexOfChar_4cfef, Cond.static yJ2_indexOfChar_4cfef, Cond.code yJ2_indexOfChar_4cfef cJ2_indexOfChar_4cfef 4 (some .int), Cond.methodLink RJ2 96 yJ2_checkBoundsBeginEnd_d044e, Cond.static yJ2_checkBoundsBeginEnd_d044e, Cond.code yJ2_checkBoundsBeginEnd_d044e cJ2_checkBoundsBeginEnd_d044e 3 none, Cond.methodLink RJ2 48 yJ2_length_9d52b, Cond.static yJ2_length_9d52b, Cond.code yJ2_length_9d52b cJ2_length_9d52b 1 (some .int), Cond.methodLink RJ2 241 yJ0_checkBoundsBeginEnd_23922, Cond.static yJ0_checkBoundsBeginEnd_23922, Cond.code yJ0_checkBoundsBeginEnd_23922 cJ0_checkBoundsBeginEnd_23922 3 none, Cond.fieldLink RJ0 1053 "jdk/internal/util/Preconditions" "SIOOBE_FORMATTER" "Ljava/util/function/BiFunction;", Cond.methodLink RJ0 1062 yJ3_checkFromToIndex_8c36e, Cond.static yJ3_checkFromToIndex_8c36e, Cond.initialized RJ3, Cond.code yJ3_checkFromToIndex_8c36e cJ3_checkFromToIndex_8c36e 4 (some .int), Cond.methodLink RJ2 244 yJ2_indexOfCharUnsafe_4cfef, Cond.static yJ2_indexOfCharUnsafe_4cfef, Cond.code yJ2_indexOfCharUnsafe_4cfef cJ2_indexOfCharUnsafe_4cfef 5 (some .int), Cond.methodLink RJ2 71 yJ2_getChar_3b067, Cond.static yJ2_getChar_3b067]
def wsX6_readNumberBehind_r6 : List Cond := [Cond.code yJ2_getChar_3b067 cJ2_getChar_3b067 2 (some .char), Cond.fieldLink RJ2 44 "java/lang/StringUTF16" "$assertionsDisabled" "Z", Cond.fieldLink RJ2 59 "java/lang/StringUTF16" "HI_BYTE_SHIFT" "I", Cond.fieldLink RJ2 63 "java/lang/StringUTF16" "LO_BYTE_SHIFT" "I", Cond.methodLink RJ2 232 yJ2_indexOfSupplementary_4cfef, Cond.static yJ2_indexOfSupplementary_4cfef, Cond.code yJ2_indexOfSupplementary_4cfef cJ2_indexOfSupplementary_4cfef 7 (some .int), Cond.methodLink RJ2 164 yJ11_isValidCodePoint_9a6ad, Cond.static yJ11_isValidCodePoint_9a6ad, Cond.initialized RJ11, Cond.code yJ11_isValidCodePoint_9a6ad cJ11_isValidCodePoint_9a6ad 2 (some .boolean), Cond.methodLink RJ2 157 yJ11_highSurrogate_5068e, Cond.static yJ11_highSurrogate_5068e, Cond.code yJ11_highSurrogate_5068e cJ11_highSurrogate_5068e 1 (some .char), Cond.constant RJ11 110 (55232), Cond.methodLink RJ2 161 yJ11_lowSurrogate_5068e, Cond.static yJ11_lowSurrogate_5068e, Cond.code yJ11_lowSurrogate_5068e cJ11_lowSurrogate_5068e 1 (some .char), Cond.constant RJ11 76 (56320), Cond.methodLink RX6 56 yX6_refuse, Cond.instanceMethod yX6_refuse, Cond.selects RX6 yX6_refuse yX6_refuse, Cond.initialized RX6, Cond.code yX6_refuse cX6_refuse 2 (some .boolean)]
def wsX6_readNumberBehind_r7 : List Cond := [Cond.fieldLink RX6 28 "SoldHouse$Reader" "fault" "I", Cond.fieldLink RX6 205 "SoldHouse$Tokens" "place" "I", Cond.fieldLink RX6 9 "SoldHouse$Reader" "faultPlace" "I"]
def wsX6_readNumberBehind : List Cond := .code yX6_readNumberBehind cX6_readNumberBehind 4 (some .int) :: ((wsX6_readNumberBehind_r1 ++ (wsX6_readNumberBehind_r2 ++ (wsX6_readNumberBehind_r3 ++ (wsX6_readNumberBehind_r4 ++ (wsX6_readNumberBehind_r5 ++ (wsX6_readNumberBehind_r6 ++ wsX6_readNumberBehind_r7)))))) ++ wsX60 ++ wsX90 ++ wsX80)
def wsX6_product : List Cond := .code yX6_product cX6_product 1 (some .int) :: ([.fieldLink RX6 20 "SoldHouse$Reader" "tokens" "LSoldHouse$Tokens;", .fieldLink RX6 34 "SoldHouse$Tokens" "kind" "I", .fieldLink RX6 37 "SoldHouse$Tokens" "value" "I"] ++ wsX60 ++ wsX90)
def wsX6_relation : List Cond := .code yX6_relation cX6_relation 1 (some .int) :: ([.fieldLink RX6 20 "SoldHouse$Reader" "tokens" "LSoldHouse$Tokens;", .fieldLink RX6 34 "SoldHouse$Tokens" "kind" "I", .fieldLink RX6 37 "SoldHouse$Tokens" "value" "I"] ++ wsX60 ++ wsX90)
theorem dX9_begin_0 : decode cX9_begin 0 = .ok (.aload_n 0, 1) := by decide +kernel
theorem dX9_begin_1 : decode cX9_begin 1 = .ok (.iconst 0, 1) := by decide +kernel
theorem dX9_begin_2 : decode cX9_begin 2 = .ok (.putfield 35, 3) := by decide +kernel
theorem dX9_begin_5 : decode cX9_begin 5 = .ok (.aload_n 0, 1) := by decide +kernel
theorem dX9_begin_6 : decode cX9_begin 6 = .ok (.invokevirtual 39, 3) := by decide +kernel
theorem dX9_begin_9 : decode cX9_begin 9 = .ok (.return_, 1) := by decide +kernel
theorem dX3_keepAct_0 : decode cX3_keepAct 0 = .ok (.aload_n 0, 1) := by decide +kernel
theorem dX3_keepAct_1 : decode cX3_keepAct 1 = .ok (.iconst 0, 1) := by decide +kernel
theorem dX3_keepAct_2 : decode cX3_keepAct 2 = .ok (.putfield 128, 3) := by decide +kernel
theorem dX3_keepAct_5 : decode cX3_keepAct 5 = .ok (.aload_n 0, 1) := by decide +kernel
theorem dX3_keepAct_6 : decode cX3_keepAct 6 = .ok (.getfield 131, 3) := by decide +kernel
theorem dX3_keepAct_9 : decode cX3_keepAct 9 = .ok (.bipush 40, 2) := by decide +kernel
theorem dX3_keepAct_11 : decode cX3_keepAct 11 = .ok (.if_icmp .ge 16, 3) := by decide +kernel
theorem dX3_keepAct_14 : decode cX3_keepAct 14 = .ok (.aload_n 0, 1) := by decide +kernel
theorem dX3_keepAct_15 : decode cX3_keepAct 15 = .ok (.dup, 1) := by decide +kernel
theorem dX3_keepAct_16 : decode cX3_keepAct 16 = .ok (.getfield 131, 3) := by decide +kernel
theorem dX3_keepAct_19 : decode cX3_keepAct 19 = .ok (.iconst 1, 1) := by decide +kernel
theorem dX3_keepAct_20 : decode cX3_keepAct 20 = .ok (.iadd, 1) := by decide +kernel
theorem dX3_keepAct_21 : decode cX3_keepAct 21 = .ok (.putfield 131, 3) := by decide +kernel
theorem dX3_keepAct_24 : decode cX3_keepAct 24 = .ok (.goto 16, 3) := by decide +kernel
theorem dX3_keepAct_27 : decode cX3_keepAct 27 = .ok (.aload_n 0, 1) := by decide +kernel
theorem dX3_keepAct_28 : decode cX3_keepAct 28 = .ok (.aload_n 0, 1) := by decide +kernel
theorem dX3_keepAct_29 : decode cX3_keepAct 29 = .ok (.getfield 134, 3) := by decide +kernel
theorem dX3_keepAct_32 : decode cX3_keepAct 32 = .ok (.iconst 1, 1) := by decide +kernel
theorem dX3_keepAct_33 : decode cX3_keepAct 33 = .ok (.iadd, 1) := by decide +kernel
theorem dX3_keepAct_34 : decode cX3_keepAct 34 = .ok (.bipush 41, 2) := by decide +kernel
theorem dX3_keepAct_36 : decode cX3_keepAct 36 = .ok (.irem, 1) := by decide +kernel
theorem dX3_keepAct_37 : decode cX3_keepAct 37 = .ok (.putfield 134, 3) := by decide +kernel
theorem dX3_keepAct_40 : decode cX3_keepAct 40 = .ok (.aload_n 0, 1) := by decide +kernel
theorem dX3_keepAct_41 : decode cX3_keepAct 41 = .ok (.getfield 11, 3) := by decide +kernel
theorem dX3_keepAct_44 : decode cX3_keepAct 44 = .ok (.iconst 0, 1) := by decide +kernel
theorem dX3_keepAct_45 : decode cX3_keepAct 45 = .ok (.aload_n 0, 1) := by decide +kernel
theorem dX3_keepAct_46 : decode cX3_keepAct 46 = .ok (.getfield 20, 3) := by decide +kernel
theorem dX3_keepAct_49 : decode cX3_keepAct 49 = .ok (.aload_n 0, 1) := by decide +kernel
theorem dX3_keepAct_50 : decode cX3_keepAct 50 = .ok (.getfield 134, 3) := by decide +kernel
theorem dX3_keepAct_53 : decode cX3_keepAct 53 = .ok (.aload_n 0, 1) := by decide +kernel
theorem dX3_keepAct_54 : decode cX3_keepAct 54 = .ok (.getfield 131, 3) := by decide +kernel
theorem dX3_keepAct_57 : decode cX3_keepAct 57 = .ok (.iadd, 1) := by decide +kernel
theorem dX3_keepAct_58 : decode cX3_keepAct 58 = .ok (.bipush 41, 2) := by decide +kernel
theorem dX3_keepAct_60 : decode cX3_keepAct 60 = .ok (.irem, 1) := by decide +kernel
theorem dX3_keepAct_61 : decode cX3_keepAct 61 = .ok (.aaload, 1) := by decide +kernel
theorem dX3_keepAct_62 : decode cX3_keepAct 62 = .ok (.iconst 0, 1) := by decide +kernel
theorem dX3_keepAct_63 : decode cX3_keepAct 63 = .ok (.bipush 32, 2) := by decide +kernel
theorem dX3_keepAct_65 : decode cX3_keepAct 65 = .ok (.invokestatic 115, 3) := by decide +kernel
theorem dX3_keepAct_68 : decode cX3_keepAct 68 = .ok (.return_, 1) := by decide +kernel
theorem dX3_stepBack_0 : decode cX3_stepBack 0 = .ok (.aload_n 0, 1) := by decide +kernel
theorem dX3_stepBack_1 : decode cX3_stepBack 1 = .ok (.getfield 131, 3) := by decide +kernel
theorem dX3_stepBack_4 : decode cX3_stepBack 4 = .ok (.ifCond .ne 5, 3) := by decide +kernel
theorem dX3_stepBack_7 : decode cX3_stepBack 7 = .ok (.iconst 0, 1) := by decide +kernel
theorem dX3_stepBack_8 : decode cX3_stepBack 8 = .ok (.ireturn, 1) := by decide +kernel
theorem dX3_stepBack_9 : decode cX3_stepBack 9 = .ok (.aload_n 0, 1) := by decide +kernel
theorem dX3_stepBack_10 : decode cX3_stepBack 10 = .ok (.dup, 1) := by decide +kernel
theorem dX3_stepBack_11 : decode cX3_stepBack 11 = .ok (.getfield 131, 3) := by decide +kernel
theorem dX3_stepBack_14 : decode cX3_stepBack 14 = .ok (.iconst 1, 1) := by decide +kernel
theorem dX3_stepBack_15 : decode cX3_stepBack 15 = .ok (.isub, 1) := by decide +kernel
theorem dX3_stepBack_16 : decode cX3_stepBack 16 = .ok (.putfield 131, 3) := by decide +kernel
theorem dX3_stepBack_19 : decode cX3_stepBack 19 = .ok (.aload_n 0, 1) := by decide +kernel
theorem dX3_stepBack_20 : decode cX3_stepBack 20 = .ok (.dup, 1) := by decide +kernel
theorem dX3_stepBack_21 : decode cX3_stepBack 21 = .ok (.getfield 128, 3) := by decide +kernel
theorem dX3_stepBack_24 : decode cX3_stepBack 24 = .ok (.iconst 1, 1) := by decide +kernel
theorem dX3_stepBack_25 : decode cX3_stepBack 25 = .ok (.iadd, 1) := by decide +kernel
theorem dX3_stepBack_26 : decode cX3_stepBack 26 = .ok (.putfield 128, 3) := by decide +kernel
theorem dX3_stepBack_29 : decode cX3_stepBack 29 = .ok (.aload_n 0, 1) := by decide +kernel
theorem dX3_stepBack_30 : decode cX3_stepBack 30 = .ok (.getfield 20, 3) := by decide +kernel
theorem dX3_stepBack_33 : decode cX3_stepBack 33 = .ok (.aload_n 0, 1) := by decide +kernel
theorem dX3_stepBack_34 : decode cX3_stepBack 34 = .ok (.getfield 134, 3) := by decide +kernel
theorem dX3_stepBack_37 : decode cX3_stepBack 37 = .ok (.aload_n 0, 1) := by decide +kernel
theorem dX3_stepBack_38 : decode cX3_stepBack 38 = .ok (.getfield 131, 3) := by decide +kernel
theorem dX3_stepBack_41 : decode cX3_stepBack 41 = .ok (.iadd, 1) := by decide +kernel
theorem dX3_stepBack_42 : decode cX3_stepBack 42 = .ok (.bipush 41, 2) := by decide +kernel
theorem dX3_stepBack_44 : decode cX3_stepBack 44 = .ok (.irem, 1) := by decide +kernel
theorem dX3_stepBack_45 : decode cX3_stepBack 45 = .ok (.aaload, 1) := by decide +kernel
theorem dX3_stepBack_46 : decode cX3_stepBack 46 = .ok (.iconst 0, 1) := by decide +kernel
theorem dX3_stepBack_47 : decode cX3_stepBack 47 = .ok (.aload_n 0, 1) := by decide +kernel
theorem dX3_stepBack_48 : decode cX3_stepBack 48 = .ok (.getfield 11, 3) := by decide +kernel
theorem dX3_stepBack_51 : decode cX3_stepBack 51 = .ok (.iconst 0, 1) := by decide +kernel
theorem dX3_stepBack_52 : decode cX3_stepBack 52 = .ok (.bipush 32, 2) := by decide +kernel
theorem dX3_stepBack_54 : decode cX3_stepBack 54 = .ok (.invokestatic 115, 3) := by decide +kernel
theorem dX3_stepBack_57 : decode cX3_stepBack 57 = .ok (.iconst 1, 1) := by decide +kernel
theorem dX3_stepBack_58 : decode cX3_stepBack 58 = .ok (.ireturn, 1) := by decide +kernel
theorem dX3_stepOn_0 : decode cX3_stepOn 0 = .ok (.aload_n 0, 1) := by decide +kernel
theorem dX3_stepOn_1 : decode cX3_stepOn 1 = .ok (.getfield 128, 3) := by decide +kernel
theorem dX3_stepOn_4 : decode cX3_stepOn 4 = .ok (.ifCond .ne 5, 3) := by decide +kernel
theorem dX3_stepOn_7 : decode cX3_stepOn 7 = .ok (.iconst 0, 1) := by decide +kernel
theorem dX3_stepOn_8 : decode cX3_stepOn 8 = .ok (.ireturn, 1) := by decide +kernel
theorem dX3_stepOn_9 : decode cX3_stepOn 9 = .ok (.aload_n 0, 1) := by decide +kernel
theorem dX3_stepOn_10 : decode cX3_stepOn 10 = .ok (.dup, 1) := by decide +kernel
theorem dX3_stepOn_11 : decode cX3_stepOn 11 = .ok (.getfield 131, 3) := by decide +kernel
theorem dX3_stepOn_14 : decode cX3_stepOn 14 = .ok (.iconst 1, 1) := by decide +kernel
theorem dX3_stepOn_15 : decode cX3_stepOn 15 = .ok (.iadd, 1) := by decide +kernel
theorem dX3_stepOn_16 : decode cX3_stepOn 16 = .ok (.putfield 131, 3) := by decide +kernel
theorem dX3_stepOn_19 : decode cX3_stepOn 19 = .ok (.aload_n 0, 1) := by decide +kernel
theorem dX3_stepOn_20 : decode cX3_stepOn 20 = .ok (.dup, 1) := by decide +kernel
theorem dX3_stepOn_21 : decode cX3_stepOn 21 = .ok (.getfield 128, 3) := by decide +kernel
theorem dX3_stepOn_24 : decode cX3_stepOn 24 = .ok (.iconst 1, 1) := by decide +kernel
theorem dX3_stepOn_25 : decode cX3_stepOn 25 = .ok (.isub, 1) := by decide +kernel
theorem dX3_stepOn_26 : decode cX3_stepOn 26 = .ok (.putfield 128, 3) := by decide +kernel
theorem dX3_stepOn_29 : decode cX3_stepOn 29 = .ok (.aload_n 0, 1) := by decide +kernel
theorem dX3_stepOn_30 : decode cX3_stepOn 30 = .ok (.getfield 20, 3) := by decide +kernel
theorem dX3_stepOn_33 : decode cX3_stepOn 33 = .ok (.aload_n 0, 1) := by decide +kernel
theorem dX3_stepOn_34 : decode cX3_stepOn 34 = .ok (.getfield 134, 3) := by decide +kernel
theorem dX3_stepOn_37 : decode cX3_stepOn 37 = .ok (.aload_n 0, 1) := by decide +kernel
theorem dX3_stepOn_38 : decode cX3_stepOn 38 = .ok (.getfield 131, 3) := by decide +kernel
theorem dX3_stepOn_41 : decode cX3_stepOn 41 = .ok (.iadd, 1) := by decide +kernel
theorem dX3_stepOn_42 : decode cX3_stepOn 42 = .ok (.bipush 41, 2) := by decide +kernel
theorem dX3_stepOn_44 : decode cX3_stepOn 44 = .ok (.irem, 1) := by decide +kernel
theorem dX3_stepOn_45 : decode cX3_stepOn 45 = .ok (.aaload, 1) := by decide +kernel
theorem dX3_stepOn_46 : decode cX3_stepOn 46 = .ok (.iconst 0, 1) := by decide +kernel
theorem dX3_stepOn_47 : decode cX3_stepOn 47 = .ok (.aload_n 0, 1) := by decide +kernel
theorem dX3_stepOn_48 : decode cX3_stepOn 48 = .ok (.getfield 11, 3) := by decide +kernel
theorem dX3_stepOn_51 : decode cX3_stepOn 51 = .ok (.iconst 0, 1) := by decide +kernel
theorem dX3_stepOn_52 : decode cX3_stepOn 52 = .ok (.bipush 32, 2) := by decide +kernel
theorem dX3_stepOn_54 : decode cX3_stepOn 54 = .ok (.invokestatic 115, 3) := by decide +kernel
theorem dX3_stepOn_57 : decode cX3_stepOn 57 = .ok (.iconst 1, 1) := by decide +kernel
theorem dX3_stepOn_58 : decode cX3_stepOn 58 = .ok (.ireturn, 1) := by decide +kernel
theorem dX3_forgetActs_0 : decode cX3_forgetActs 0 = .ok (.aload_n 0, 1) := by decide +kernel
theorem dX3_forgetActs_1 : decode cX3_forgetActs 1 = .ok (.iconst 0, 1) := by decide +kernel
theorem dX3_forgetActs_2 : decode cX3_forgetActs 2 = .ok (.putfield 134, 3) := by decide +kernel
theorem dX3_forgetActs_5 : decode cX3_forgetActs 5 = .ok (.aload_n 0, 1) := by decide +kernel
theorem dX3_forgetActs_6 : decode cX3_forgetActs 6 = .ok (.iconst 0, 1) := by decide +kernel
theorem dX3_forgetActs_7 : decode cX3_forgetActs 7 = .ok (.putfield 131, 3) := by decide +kernel
theorem dX3_forgetActs_10 : decode cX3_forgetActs 10 = .ok (.aload_n 0, 1) := by decide +kernel
theorem dX3_forgetActs_11 : decode cX3_forgetActs 11 = .ok (.iconst 0, 1) := by decide +kernel
theorem dX3_forgetActs_12 : decode cX3_forgetActs 12 = .ok (.putfield 128, 3) := by decide +kernel
theorem dX3_forgetActs_15 : decode cX3_forgetActs 15 = .ok (.aload_n 0, 1) := by decide +kernel
theorem dX3_forgetActs_16 : decode cX3_forgetActs 16 = .ok (.getfield 11, 3) := by decide +kernel
theorem dX3_forgetActs_19 : decode cX3_forgetActs 19 = .ok (.iconst 0, 1) := by decide +kernel
theorem dX3_forgetActs_20 : decode cX3_forgetActs 20 = .ok (.aload_n 0, 1) := by decide +kernel
theorem dX3_forgetActs_21 : decode cX3_forgetActs 21 = .ok (.getfield 20, 3) := by decide +kernel
theorem dX3_forgetActs_24 : decode cX3_forgetActs 24 = .ok (.iconst 0, 1) := by decide +kernel
theorem dX3_forgetActs_25 : decode cX3_forgetActs 25 = .ok (.aaload, 1) := by decide +kernel
theorem dX3_forgetActs_26 : decode cX3_forgetActs 26 = .ok (.iconst 0, 1) := by decide +kernel
theorem dX3_forgetActs_27 : decode cX3_forgetActs 27 = .ok (.bipush 32, 2) := by decide +kernel
theorem dX3_forgetActs_29 : decode cX3_forgetActs 29 = .ok (.invokestatic 115, 3) := by decide +kernel
theorem dX3_forgetActs_32 : decode cX3_forgetActs 32 = .ok (.return_, 1) := by decide +kernel
theorem dX3_begin_0 : decode cX3_begin 0 = .ok (.aload_n 0, 1) := by decide +kernel
theorem dX3_begin_1 : decode cX3_begin 1 = .ok (.getfield 30, 3) := by decide +kernel
theorem dX3_begin_4 : decode cX3_begin 4 = .ok (.getfield 34, 3) := by decide +kernel
theorem dX3_begin_7 : decode cX3_begin 7 = .ok (.astore_n 1, 1) := by decide +kernel
theorem dX3_begin_8 : decode cX3_begin 8 = .ok (.iconst 0, 1) := by decide +kernel
theorem dX3_begin_9 : decode cX3_begin 9 = .ok (.istore_n 2, 1) := by decide +kernel
theorem dX3_begin_10 : decode cX3_begin 10 = .ok (.iload_n 2, 1) := by decide +kernel
theorem dX3_begin_11 : decode cX3_begin 11 = .ok (.aload_n 1, 1) := by decide +kernel
theorem dX3_begin_12 : decode cX3_begin 12 = .ok (.getfield 40, 3) := by decide +kernel
theorem dX3_begin_15 : decode cX3_begin 15 = .ok (.if_icmp .ge 73, 3) := by decide +kernel
theorem dX3_begin_18 : decode cX3_begin 18 = .ok (.aload_n 0, 1) := by decide +kernel
theorem dX3_begin_19 : decode cX3_begin 19 = .ok (.getfield 11, 3) := by decide +kernel
theorem dX3_begin_22 : decode cX3_begin 22 = .ok (.iconst 0, 1) := by decide +kernel
theorem dX3_begin_23 : decode cX3_begin 23 = .ok (.iload_n 2, 1) := by decide +kernel
theorem dX3_begin_24 : decode cX3_begin 24 = .ok (.iadd, 1) := by decide +kernel
theorem dX3_begin_25 : decode cX3_begin 25 = .ok (.aload_n 1, 1) := by decide +kernel
theorem dX3_begin_26 : decode cX3_begin 26 = .ok (.getfield 46, 3) := by decide +kernel
theorem dX3_begin_29 : decode cX3_begin 29 = .ok (.iload_n 2, 1) := by decide +kernel
theorem dX3_begin_30 : decode cX3_begin 30 = .ok (.iaload, 1) := by decide +kernel
theorem dX3_begin_31 : decode cX3_begin 31 = .ok (.iastore, 1) := by decide +kernel
theorem dX3_begin_32 : decode cX3_begin 32 = .ok (.aload_n 0, 1) := by decide +kernel
theorem dX3_begin_33 : decode cX3_begin 33 = .ok (.getfield 11, 3) := by decide +kernel
theorem dX3_begin_36 : decode cX3_begin 36 = .ok (.bipush 6, 2) := by decide +kernel
theorem dX3_begin_38 : decode cX3_begin 38 = .ok (.iload_n 2, 1) := by decide +kernel
theorem dX3_begin_39 : decode cX3_begin 39 = .ok (.iadd, 1) := by decide +kernel
theorem dX3_begin_40 : decode cX3_begin 40 = .ok (.aload_n 1, 1) := by decide +kernel
theorem dX3_begin_41 : decode cX3_begin 41 = .ok (.getfield 49, 3) := by decide +kernel
theorem dX3_begin_44 : decode cX3_begin 44 = .ok (.iload_n 2, 1) := by decide +kernel
theorem dX3_begin_45 : decode cX3_begin 45 = .ok (.iaload, 1) := by decide +kernel
theorem dX3_begin_46 : decode cX3_begin 46 = .ok (.iastore, 1) := by decide +kernel
theorem dX3_begin_47 : decode cX3_begin 47 = .ok (.aload_n 0, 1) := by decide +kernel
theorem dX3_begin_48 : decode cX3_begin 48 = .ok (.getfield 11, 3) := by decide +kernel
theorem dX3_begin_51 : decode cX3_begin 51 = .ok (.bipush 12, 2) := by decide +kernel
theorem dX3_begin_53 : decode cX3_begin 53 = .ok (.iload_n 2, 1) := by decide +kernel
theorem dX3_begin_54 : decode cX3_begin 54 = .ok (.iadd, 1) := by decide +kernel
theorem dX3_begin_55 : decode cX3_begin 55 = .ok (.aload_n 1, 1) := by decide +kernel
theorem dX3_begin_56 : decode cX3_begin 56 = .ok (.getfield 52, 3) := by decide +kernel
theorem dX3_begin_59 : decode cX3_begin 59 = .ok (.iload_n 2, 1) := by decide +kernel
theorem dX3_begin_60 : decode cX3_begin 60 = .ok (.iaload, 1) := by decide +kernel
theorem dX3_begin_61 : decode cX3_begin 61 = .ok (.iastore, 1) := by decide +kernel
theorem dX3_begin_62 : decode cX3_begin 62 = .ok (.aload_n 0, 1) := by decide +kernel
theorem dX3_begin_63 : decode cX3_begin 63 = .ok (.getfield 11, 3) := by decide +kernel
theorem dX3_begin_66 : decode cX3_begin 66 = .ok (.bipush 18, 2) := by decide +kernel
theorem dX3_begin_68 : decode cX3_begin 68 = .ok (.iload_n 2, 1) := by decide +kernel
theorem dX3_begin_69 : decode cX3_begin 69 = .ok (.iadd, 1) := by decide +kernel
theorem dX3_begin_70 : decode cX3_begin 70 = .ok (.iconst 0, 1) := by decide +kernel
theorem dX3_begin_71 : decode cX3_begin 71 = .ok (.iastore, 1) := by decide +kernel
theorem dX3_begin_72 : decode cX3_begin 72 = .ok (.aload_n 0, 1) := by decide +kernel
theorem dX3_begin_73 : decode cX3_begin 73 = .ok (.getfield 11, 3) := by decide +kernel
theorem dX3_begin_76 : decode cX3_begin 76 = .ok (.bipush 24, 2) := by decide +kernel
theorem dX3_begin_78 : decode cX3_begin 78 = .ok (.iload_n 2, 1) := by decide +kernel
theorem dX3_begin_79 : decode cX3_begin 79 = .ok (.iadd, 1) := by decide +kernel
theorem dX3_begin_80 : decode cX3_begin 80 = .ok (.iconst (-1), 1) := by decide +kernel
theorem dX3_begin_81 : decode cX3_begin 81 = .ok (.iastore, 1) := by decide +kernel
theorem dX3_begin_82 : decode cX3_begin 82 = .ok (.iinc 2 1, 3) := by decide +kernel
theorem dX3_begin_85 : decode cX3_begin 85 = .ok (.goto (-75), 3) := by decide +kernel
theorem dX3_begin_88 : decode cX3_begin 88 = .ok (.aload_n 0, 1) := by decide +kernel
theorem dX3_begin_89 : decode cX3_begin 89 = .ok (.getfield 11, 3) := by decide +kernel
theorem dX3_begin_92 : decode cX3_begin 92 = .ok (.bipush 30, 2) := by decide +kernel
theorem dX3_begin_94 : decode cX3_begin 94 = .ok (.iconst 0, 1) := by decide +kernel
theorem dX3_begin_95 : decode cX3_begin 95 = .ok (.iastore, 1) := by decide +kernel
theorem dX3_begin_96 : decode cX3_begin 96 = .ok (.aload_n 0, 1) := by decide +kernel
theorem dX3_begin_97 : decode cX3_begin 97 = .ok (.getfield 11, 3) := by decide +kernel
theorem dX3_begin_100 : decode cX3_begin 100 = .ok (.bipush 31, 2) := by decide +kernel
theorem dX3_begin_102 : decode cX3_begin 102 = .ok (.aload_n 1, 1) := by decide +kernel
theorem dX3_begin_103 : decode cX3_begin 103 = .ok (.getfield 55, 3) := by decide +kernel
theorem dX3_begin_106 : decode cX3_begin 106 = .ok (.iastore, 1) := by decide +kernel
theorem dX3_begin_107 : decode cX3_begin 107 = .ok (.iconst 0, 1) := by decide +kernel
theorem dX3_begin_108 : decode cX3_begin 108 = .ok (.istore_n 2, 1) := by decide +kernel
theorem dX3_begin_109 : decode cX3_begin 109 = .ok (.iload_n 2, 1) := by decide +kernel
theorem dX3_begin_110 : decode cX3_begin 110 = .ok (.iconst 3, 1) := by decide +kernel
theorem dX3_begin_111 : decode cX3_begin 111 = .ok (.if_icmp .ge 16, 3) := by decide +kernel
theorem dX3_begin_114 : decode cX3_begin 114 = .ok (.aload_n 0, 1) := by decide +kernel
theorem dX3_begin_115 : decode cX3_begin 115 = .ok (.getfield 26, 3) := by decide +kernel
theorem dX3_begin_118 : decode cX3_begin 118 = .ok (.iload_n 2, 1) := by decide +kernel
theorem dX3_begin_119 : decode cX3_begin 119 = .ok (.iconst 0, 1) := by decide +kernel
theorem dX3_begin_120 : decode cX3_begin 120 = .ok (.bastore, 1) := by decide +kernel
theorem dX3_begin_121 : decode cX3_begin 121 = .ok (.iinc 2 1, 3) := by decide +kernel
theorem dX3_begin_124 : decode cX3_begin 124 = .ok (.goto (-15), 3) := by decide +kernel
theorem dX3_begin_127 : decode cX3_begin 127 = .ok (.aload_n 0, 1) := by decide +kernel
theorem dX3_begin_128 : decode cX3_begin 128 = .ok (.invokevirtual 58, 3) := by decide +kernel
theorem dX3_begin_131 : decode cX3_begin 131 = .ok (.return_, 1) := by decide +kernel
theorem dX3_putInBox_0 : decode cX3_putInBox 0 = .ok (.iload_n 1, 1) := by decide +kernel
theorem dX3_putInBox_1 : decode cX3_putInBox 1 = .ok (.ifCond .lt 8, 3) := by decide +kernel
theorem dX3_putInBox_4 : decode cX3_putInBox 4 = .ok (.iload_n 1, 1) := by decide +kernel
theorem dX3_putInBox_5 : decode cX3_putInBox 5 = .ok (.iconst 3, 1) := by decide +kernel
theorem dX3_putInBox_6 : decode cX3_putInBox 6 = .ok (.if_icmp .lt 5, 3) := by decide +kernel
theorem dX3_putInBox_9 : decode cX3_putInBox 9 = .ok (.iconst (-1), 1) := by decide +kernel
theorem dX3_putInBox_10 : decode cX3_putInBox 10 = .ok (.ireturn, 1) := by decide +kernel
theorem dX3_putInBox_11 : decode cX3_putInBox 11 = .ok (.aload_n 0, 1) := by decide +kernel
theorem dX3_putInBox_12 : decode cX3_putInBox 12 = .ok (.getfield 11, 3) := by decide +kernel
theorem dX3_putInBox_15 : decode cX3_putInBox 15 = .ok (.iconst 0, 1) := by decide +kernel
theorem dX3_putInBox_16 : decode cX3_putInBox 16 = .ok (.aload_n 0, 1) := by decide +kernel
theorem dX3_putInBox_17 : decode cX3_putInBox 17 = .ok (.getfield 23, 3) := by decide +kernel
theorem dX3_putInBox_20 : decode cX3_putInBox 20 = .ok (.iload_n 1, 1) := by decide +kernel
theorem dX3_putInBox_21 : decode cX3_putInBox 21 = .ok (.aaload, 1) := by decide +kernel
theorem dX3_putInBox_22 : decode cX3_putInBox 22 = .ok (.iconst 0, 1) := by decide +kernel
theorem dX3_putInBox_23 : decode cX3_putInBox 23 = .ok (.bipush 32, 2) := by decide +kernel
theorem dX3_putInBox_25 : decode cX3_putInBox 25 = .ok (.invokestatic 115, 3) := by decide +kernel
theorem dX3_putInBox_28 : decode cX3_putInBox 28 = .ok (.aload_n 0, 1) := by decide +kernel
theorem dX3_putInBox_29 : decode cX3_putInBox 29 = .ok (.getfield 26, 3) := by decide +kernel
theorem dX3_putInBox_32 : decode cX3_putInBox 32 = .ok (.iload_n 1, 1) := by decide +kernel
theorem dX3_putInBox_33 : decode cX3_putInBox 33 = .ok (.iconst 1, 1) := by decide +kernel
theorem dX3_putInBox_34 : decode cX3_putInBox 34 = .ok (.bastore, 1) := by decide +kernel
theorem dX3_putInBox_35 : decode cX3_putInBox 35 = .ok (.aload_n 0, 1) := by decide +kernel
theorem dX3_putInBox_36 : decode cX3_putInBox 36 = .ok (.getfield 11, 3) := by decide +kernel
theorem dX3_putInBox_39 : decode cX3_putInBox 39 = .ok (.bipush 30, 2) := by decide +kernel
theorem dX3_putInBox_41 : decode cX3_putInBox 41 = .ok (.iaload, 1) := by decide +kernel
theorem dX3_putInBox_42 : decode cX3_putInBox 42 = .ok (.ireturn, 1) := by decide +kernel
theorem dX3_takeFromBox_0 : decode cX3_takeFromBox 0 = .ok (.iload_n 1, 1) := by decide +kernel
theorem dX3_takeFromBox_1 : decode cX3_takeFromBox 1 = .ok (.ifCond .lt 17, 3) := by decide +kernel
theorem dX3_takeFromBox_4 : decode cX3_takeFromBox 4 = .ok (.iload_n 1, 1) := by decide +kernel
theorem dX3_takeFromBox_5 : decode cX3_takeFromBox 5 = .ok (.iconst 3, 1) := by decide +kernel
theorem dX3_takeFromBox_6 : decode cX3_takeFromBox 6 = .ok (.if_icmp .ge 12, 3) := by decide +kernel
theorem dX3_takeFromBox_9 : decode cX3_takeFromBox 9 = .ok (.aload_n 0, 1) := by decide +kernel
theorem dX3_takeFromBox_10 : decode cX3_takeFromBox 10 = .ok (.getfield 26, 3) := by decide +kernel
theorem dX3_takeFromBox_13 : decode cX3_takeFromBox 13 = .ok (.iload_n 1, 1) := by decide +kernel
theorem dX3_takeFromBox_14 : decode cX3_takeFromBox 14 = .ok (.baload, 1) := by decide +kernel
theorem dX3_takeFromBox_15 : decode cX3_takeFromBox 15 = .ok (.ifCond .ne 5, 3) := by decide +kernel
theorem dX3_takeFromBox_18 : decode cX3_takeFromBox 18 = .ok (.iconst (-1), 1) := by decide +kernel
theorem dX3_takeFromBox_19 : decode cX3_takeFromBox 19 = .ok (.ireturn, 1) := by decide +kernel
theorem dX3_takeFromBox_20 : decode cX3_takeFromBox 20 = .ok (.aload_n 0, 1) := by decide +kernel
theorem dX3_takeFromBox_21 : decode cX3_takeFromBox 21 = .ok (.getfield 23, 3) := by decide +kernel
theorem dX3_takeFromBox_24 : decode cX3_takeFromBox 24 = .ok (.iload_n 1, 1) := by decide +kernel
theorem dX3_takeFromBox_25 : decode cX3_takeFromBox 25 = .ok (.aaload, 1) := by decide +kernel
theorem dX3_takeFromBox_26 : decode cX3_takeFromBox 26 = .ok (.iconst 0, 1) := by decide +kernel
theorem dX3_takeFromBox_27 : decode cX3_takeFromBox 27 = .ok (.aload_n 0, 1) := by decide +kernel
theorem dX3_takeFromBox_28 : decode cX3_takeFromBox 28 = .ok (.getfield 11, 3) := by decide +kernel
theorem dX3_takeFromBox_31 : decode cX3_takeFromBox 31 = .ok (.iconst 0, 1) := by decide +kernel
theorem dX3_takeFromBox_32 : decode cX3_takeFromBox 32 = .ok (.bipush 32, 2) := by decide +kernel
theorem dX3_takeFromBox_34 : decode cX3_takeFromBox 34 = .ok (.invokestatic 115, 3) := by decide +kernel
theorem dX3_takeFromBox_37 : decode cX3_takeFromBox 37 = .ok (.aload_n 0, 1) := by decide +kernel
theorem dX3_takeFromBox_38 : decode cX3_takeFromBox 38 = .ok (.invokevirtual 58, 3) := by decide +kernel
theorem dX3_takeFromBox_41 : decode cX3_takeFromBox 41 = .ok (.aload_n 0, 1) := by decide +kernel
theorem dX3_takeFromBox_42 : decode cX3_takeFromBox 42 = .ok (.getfield 11, 3) := by decide +kernel
theorem dX3_takeFromBox_45 : decode cX3_takeFromBox 45 = .ok (.bipush 30, 2) := by decide +kernel
theorem dX3_takeFromBox_47 : decode cX3_takeFromBox 47 = .ok (.iaload, 1) := by decide +kernel
theorem dX3_takeFromBox_48 : decode cX3_takeFromBox 48 = .ok (.ireturn, 1) := by decide +kernel
theorem dX3_daysTillLost_0 : decode cX3_daysTillLost 0 = .ok (.aload_n 0, 1) := by decide +kernel
theorem dX3_daysTillLost_1 : decode cX3_daysTillLost 1 = .ok (.getfield 30, 3) := by decide +kernel
theorem dX3_daysTillLost_4 : decode cX3_daysTillLost 4 = .ok (.getfield 34, 3) := by decide +kernel
theorem dX3_daysTillLost_7 : decode cX3_daysTillLost 7 = .ok (.getfield 40, 3) := by decide +kernel
theorem dX3_daysTillLost_10 : decode cX3_daysTillLost 10 = .ok (.ifCond .ne 5, 3) := by decide +kernel
theorem dX3_daysTillLost_13 : decode cX3_daysTillLost 13 = .ok (.iconst (-1), 1) := by decide +kernel
theorem dX3_daysTillLost_14 : decode cX3_daysTillLost 14 = .ok (.ireturn, 1) := by decide +kernel
theorem dX3_daysTillLost_15 : decode cX3_daysTillLost 15 = .ok (.aload_n 0, 1) := by decide +kernel
theorem dX3_daysTillLost_16 : decode cX3_daysTillLost 16 = .ok (.getfield 11, 3) := by decide +kernel
theorem dX3_daysTillLost_19 : decode cX3_daysTillLost 19 = .ok (.iconst 0, 1) := by decide +kernel
theorem dX3_daysTillLost_20 : decode cX3_daysTillLost 20 = .ok (.aload_n 0, 1) := by decide +kernel
theorem dX3_daysTillLost_21 : decode cX3_daysTillLost 21 = .ok (.getfield 15, 3) := by decide +kernel
theorem dX3_daysTillLost_24 : decode cX3_daysTillLost 24 = .ok (.iconst 0, 1) := by decide +kernel
theorem dX3_daysTillLost_25 : decode cX3_daysTillLost 25 = .ok (.bipush 32, 2) := by decide +kernel
theorem dX3_daysTillLost_27 : decode cX3_daysTillLost 27 = .ok (.invokestatic 115, 3) := by decide +kernel
theorem dX3_daysTillLost_30 : decode cX3_daysTillLost 30 = .ok (.iconst 0, 1) := by decide +kernel
theorem dX3_daysTillLost_31 : decode cX3_daysTillLost 31 = .ok (.istore_n 1, 1) := by decide +kernel
theorem dX3_daysTillLost_32 : decode cX3_daysTillLost 32 = .ok (.iload_n 1, 1) := by decide +kernel
theorem dX3_daysTillLost_33 : decode cX3_daysTillLost 33 = .ok (.bipush 60, 2) := by decide +kernel
theorem dX3_daysTillLost_35 : decode cX3_daysTillLost 35 = .ok (.if_icmp .gt 31, 3) := by decide +kernel
theorem dX3_daysTillLost_38 : decode cX3_daysTillLost 38 = .ok (.aload_n 0, 1) := by decide +kernel
theorem dX3_daysTillLost_39 : decode cX3_daysTillLost 39 = .ok (.aload_n 0, 1) := by decide +kernel
theorem dX3_daysTillLost_40 : decode cX3_daysTillLost 40 = .ok (.getfield 15, 3) := by decide +kernel
theorem dX3_daysTillLost_43 : decode cX3_daysTillLost 43 = .ok (.invokevirtual 125, 3) := by decide +kernel
theorem dX3_daysTillLost_46 : decode cX3_daysTillLost 46 = .ok (.ifCond .ne 5, 3) := by decide +kernel
theorem dX3_daysTillLost_49 : decode cX3_daysTillLost 49 = .ok (.iload_n 1, 1) := by decide +kernel
theorem dX3_daysTillLost_50 : decode cX3_daysTillLost 50 = .ok (.ireturn, 1) := by decide +kernel
theorem dX3_daysTillLost_51 : decode cX3_daysTillLost 51 = .ok (.aload_n 0, 1) := by decide +kernel
theorem dX3_daysTillLost_52 : decode cX3_daysTillLost 52 = .ok (.aload_n 0, 1) := by decide +kernel
theorem dX3_daysTillLost_53 : decode cX3_daysTillLost 53 = .ok (.getfield 15, 3) := by decide +kernel
theorem dX3_daysTillLost_56 : decode cX3_daysTillLost 56 = .ok (.invokevirtual 121, 3) := by decide +kernel
theorem dX3_daysTillLost_59 : decode cX3_daysTillLost 59 = .ok (.pop, 1) := by decide +kernel
theorem dX3_daysTillLost_60 : decode cX3_daysTillLost 60 = .ok (.iinc 1 1, 3) := by decide +kernel
theorem dX3_daysTillLost_63 : decode cX3_daysTillLost 63 = .ok (.goto (-31), 3) := by decide +kernel
theorem dX3_daysTillLost_66 : decode cX3_daysTillLost 66 = .ok (.iconst (-1), 1) := by decide +kernel
theorem dX3_daysTillLost_67 : decode cX3_daysTillLost 67 = .ok (.ireturn, 1) := by decide +kernel
theorem dX3_thoughtBehind_0 : decode cX3_thoughtBehind 0 = .ok (.aload_n 0, 1) := by decide +kernel
theorem dX3_thoughtBehind_1 : decode cX3_thoughtBehind 1 = .ok (.getfield 11, 3) := by decide +kernel
theorem dX3_thoughtBehind_4 : decode cX3_thoughtBehind 4 = .ok (.iconst 0, 1) := by decide +kernel
theorem dX3_thoughtBehind_5 : decode cX3_thoughtBehind 5 = .ok (.aload_n 0, 1) := by decide +kernel
theorem dX3_thoughtBehind_6 : decode cX3_thoughtBehind 6 = .ok (.getfield 15, 3) := by decide +kernel
theorem dX3_thoughtBehind_9 : decode cX3_thoughtBehind 9 = .ok (.iconst 0, 1) := by decide +kernel
theorem dX3_thoughtBehind_10 : decode cX3_thoughtBehind 10 = .ok (.bipush 32, 2) := by decide +kernel
theorem dX3_thoughtBehind_12 : decode cX3_thoughtBehind 12 = .ok (.invokestatic 115, 3) := by decide +kernel
theorem dX3_thoughtBehind_15 : decode cX3_thoughtBehind 15 = .ok (.iconst 0, 1) := by decide +kernel
theorem dX3_thoughtBehind_16 : decode cX3_thoughtBehind 16 = .ok (.istore_n 3, 1) := by decide +kernel
theorem dX3_thoughtBehind_17 : decode cX3_thoughtBehind 17 = .ok (.iload_n 3, 1) := by decide +kernel
theorem dX3_thoughtBehind_18 : decode cX3_thoughtBehind 18 = .ok (.iload_n 2, 1) := by decide +kernel
theorem dX3_thoughtBehind_19 : decode cX3_thoughtBehind 19 = .ok (.if_icmp .ge 18, 3) := by decide +kernel
theorem dX3_thoughtBehind_22 : decode cX3_thoughtBehind 22 = .ok (.aload_n 0, 1) := by decide +kernel
theorem dX3_thoughtBehind_23 : decode cX3_thoughtBehind 23 = .ok (.aload_n 0, 1) := by decide +kernel
theorem dX3_thoughtBehind_24 : decode cX3_thoughtBehind 24 = .ok (.getfield 15, 3) := by decide +kernel
theorem dX3_thoughtBehind_27 : decode cX3_thoughtBehind 27 = .ok (.invokevirtual 121, 3) := by decide +kernel
theorem dX3_thoughtBehind_30 : decode cX3_thoughtBehind 30 = .ok (.pop, 1) := by decide +kernel
theorem dX3_thoughtBehind_31 : decode cX3_thoughtBehind 31 = .ok (.iinc 3 1, 3) := by decide +kernel
theorem dX3_thoughtBehind_34 : decode cX3_thoughtBehind 34 = .ok (.goto (-17), 3) := by decide +kernel
theorem dX3_thoughtBehind_37 : decode cX3_thoughtBehind 37 = .ok (.aload_n 0, 1) := by decide +kernel
theorem dX3_thoughtBehind_38 : decode cX3_thoughtBehind 38 = .ok (.getfield 15, 3) := by decide +kernel
theorem dX3_thoughtBehind_41 : decode cX3_thoughtBehind 41 = .ok (.bipush 6, 2) := by decide +kernel
theorem dX3_thoughtBehind_43 : decode cX3_thoughtBehind 43 = .ok (.iload_n 1, 1) := by decide +kernel
theorem dX3_thoughtBehind_44 : decode cX3_thoughtBehind 44 = .ok (.iadd, 1) := by decide +kernel
theorem dX3_thoughtBehind_45 : decode cX3_thoughtBehind 45 = .ok (.iaload, 1) := by decide +kernel
theorem dX3_thoughtBehind_46 : decode cX3_thoughtBehind 46 = .ok (.ireturn, 1) := by decide +kernel
theorem dX10_mostPairs_0 : decode cX10_mostPairs 0 = .ok (.aload_n 0, 1) := by decide +kernel
theorem dX10_mostPairs_1 : decode cX10_mostPairs 1 = .ok (.getfield 9, 3) := by decide +kernel
theorem dX10_mostPairs_4 : decode cX10_mostPairs 4 = .ok (.getfield 15, 3) := by decide +kernel
theorem dX10_mostPairs_7 : decode cX10_mostPairs 7 = .ok (.getfield 21, 3) := by decide +kernel
theorem dX10_mostPairs_10 : decode cX10_mostPairs 10 = .ok (.getfield 27, 3) := by decide +kernel
theorem dX10_mostPairs_13 : decode cX10_mostPairs 13 = .ok (.istore_n 3, 1) := by decide +kernel
theorem dX10_mostPairs_14 : decode cX10_mostPairs 14 = .ok (.iload_n 1, 1) := by decide +kernel
theorem dX10_mostPairs_15 : decode cX10_mostPairs 15 = .ok (.iload_n 3, 1) := by decide +kernel
theorem dX10_mostPairs_16 : decode cX10_mostPairs 16 = .ok (.if_icmp .lt 5, 3) := by decide +kernel
theorem dX10_mostPairs_19 : decode cX10_mostPairs 19 = .ok (.iconst 0, 1) := by decide +kernel
theorem dX10_mostPairs_20 : decode cX10_mostPairs 20 = .ok (.ireturn, 1) := by decide +kernel
theorem dX10_mostPairs_21 : decode cX10_mostPairs 21 = .ok (.aload_n 0, 1) := by decide +kernel
theorem dX10_mostPairs_22 : decode cX10_mostPairs 22 = .ok (.iload_n 1, 1) := by decide +kernel
theorem dX10_mostPairs_23 : decode cX10_mostPairs 23 = .ok (.iconst 1, 1) := by decide +kernel
theorem dX10_mostPairs_24 : decode cX10_mostPairs 24 = .ok (.iadd, 1) := by decide +kernel
theorem dX10_mostPairs_25 : decode cX10_mostPairs 25 = .ok (.iload_n 2, 1) := by decide +kernel
theorem dX10_mostPairs_26 : decode cX10_mostPairs 26 = .ok (.invokevirtual 61, 3) := by decide +kernel
theorem dX10_mostPairs_29 : decode cX10_mostPairs 29 = .ok (.istore 4, 2) := by decide +kernel
theorem dX10_mostPairs_31 : decode cX10_mostPairs 31 = .ok (.iconst 0, 1) := by decide +kernel
theorem dX10_mostPairs_32 : decode cX10_mostPairs 32 = .ok (.istore 5, 2) := by decide +kernel
theorem dX10_mostPairs_34 : decode cX10_mostPairs 34 = .ok (.iload 5, 2) := by decide +kernel
theorem dX10_mostPairs_36 : decode cX10_mostPairs 36 = .ok (.iload_n 3, 1) := by decide +kernel
theorem dX10_mostPairs_37 : decode cX10_mostPairs 37 = .ok (.if_icmp .ge 50, 3) := by decide +kernel
theorem dX10_mostPairs_40 : decode cX10_mostPairs 40 = .ok (.iload_n 2, 1) := by decide +kernel
theorem dX10_mostPairs_41 : decode cX10_mostPairs 41 = .ok (.iload 5, 2) := by decide +kernel
theorem dX10_mostPairs_43 : decode cX10_mostPairs 43 = .ok (.ishr, 1) := by decide +kernel
theorem dX10_mostPairs_44 : decode cX10_mostPairs 44 = .ok (.iconst 1, 1) := by decide +kernel
theorem dX10_mostPairs_45 : decode cX10_mostPairs 45 = .ok (.iand, 1) := by decide +kernel
theorem dX10_mostPairs_46 : decode cX10_mostPairs 46 = .ok (.ifCond .ne 35, 3) := by decide +kernel
theorem dX10_mostPairs_49 : decode cX10_mostPairs 49 = .ok (.aload_n 0, 1) := by decide +kernel
theorem dX10_mostPairs_50 : decode cX10_mostPairs 50 = .ok (.iload_n 1, 1) := by decide +kernel
theorem dX10_mostPairs_51 : decode cX10_mostPairs 51 = .ok (.iload 5, 2) := by decide +kernel
theorem dX10_mostPairs_53 : decode cX10_mostPairs 53 = .ok (.invokevirtual 47, 3) := by decide +kernel
theorem dX10_mostPairs_56 : decode cX10_mostPairs 56 = .ok (.ifCond .eq 25, 3) := by decide +kernel
theorem dX10_mostPairs_59 : decode cX10_mostPairs 59 = .ok (.iload 4, 2) := by decide +kernel
theorem dX10_mostPairs_61 : decode cX10_mostPairs 61 = .ok (.iconst 1, 1) := by decide +kernel
theorem dX10_mostPairs_62 : decode cX10_mostPairs 62 = .ok (.aload_n 0, 1) := by decide +kernel
theorem dX10_mostPairs_63 : decode cX10_mostPairs 63 = .ok (.iload_n 1, 1) := by decide +kernel
theorem dX10_mostPairs_64 : decode cX10_mostPairs 64 = .ok (.iconst 1, 1) := by decide +kernel
theorem dX10_mostPairs_65 : decode cX10_mostPairs 65 = .ok (.iadd, 1) := by decide +kernel
theorem dX10_mostPairs_66 : decode cX10_mostPairs 66 = .ok (.iload_n 2, 1) := by decide +kernel
theorem dX10_mostPairs_67 : decode cX10_mostPairs 67 = .ok (.iconst 1, 1) := by decide +kernel
theorem dX10_mostPairs_68 : decode cX10_mostPairs 68 = .ok (.iload 5, 2) := by decide +kernel
theorem dX10_mostPairs_70 : decode cX10_mostPairs 70 = .ok (.ishl, 1) := by decide +kernel
theorem dX10_mostPairs_71 : decode cX10_mostPairs 71 = .ok (.ior, 1) := by decide +kernel
theorem dX10_mostPairs_72 : decode cX10_mostPairs 72 = .ok (.invokevirtual 61, 3) := by decide +kernel
theorem dX10_mostPairs_75 : decode cX10_mostPairs 75 = .ok (.iadd, 1) := by decide +kernel
theorem dX10_mostPairs_76 : decode cX10_mostPairs 76 = .ok (.invokestatic 64, 3) := by decide +kernel
theorem dX10_mostPairs_79 : decode cX10_mostPairs 79 = .ok (.istore 4, 2) := by decide +kernel
theorem dX10_mostPairs_81 : decode cX10_mostPairs 81 = .ok (.iinc 5 1, 3) := by decide +kernel
theorem dX10_mostPairs_84 : decode cX10_mostPairs 84 = .ok (.goto (-50), 3) := by decide +kernel
theorem dX10_mostPairs_87 : decode cX10_mostPairs 87 = .ok (.iload 4, 2) := by decide +kernel
theorem dX10_mostPairs_89 : decode cX10_mostPairs 89 = .ok (.ireturn, 1) := by decide +kernel
theorem dX10_mostTrades_0 : decode cX10_mostTrades 0 = .ok (.aload_n 0, 1) := by decide +kernel
theorem dX10_mostTrades_1 : decode cX10_mostTrades 1 = .ok (.iconst 0, 1) := by decide +kernel
theorem dX10_mostTrades_2 : decode cX10_mostTrades 2 = .ok (.iconst 0, 1) := by decide +kernel
theorem dX10_mostTrades_3 : decode cX10_mostTrades 3 = .ok (.invokevirtual 61, 3) := by decide +kernel
theorem dX10_mostTrades_6 : decode cX10_mostTrades 6 = .ok (.ireturn, 1) := by decide +kernel
theorem dX6_refuse_0 : decode cX6_refuse 0 = .ok (.aload_n 0, 1) := by decide +kernel
theorem dX6_refuse_1 : decode cX6_refuse 1 = .ok (.aload_n 0, 1) := by decide +kernel
theorem dX6_refuse_2 : decode cX6_refuse 2 = .ok (.getfield 20, 3) := by decide +kernel
theorem dX6_refuse_5 : decode cX6_refuse 5 = .ok (.getfield 34, 3) := by decide +kernel
theorem dX6_refuse_8 : decode cX6_refuse 8 = .ok (.iconst 4, 1) := by decide +kernel
theorem dX6_refuse_9 : decode cX6_refuse 9 = .ok (.if_icmp .ne 7, 3) := by decide +kernel
theorem dX6_refuse_12 : decode cX6_refuse 12 = .ok (.iconst 1, 1) := by decide +kernel
theorem dX6_refuse_13 : decode cX6_refuse 13 = .ok (.goto 4, 3) := by decide +kernel
theorem dX6_refuse_16 : decode cX6_refuse 16 = .ok (.iload_n 1, 1) := by decide +kernel
theorem dX6_refuse_17 : decode cX6_refuse 17 = .ok (.putfield 28, 3) := by decide +kernel
theorem dX6_refuse_20 : decode cX6_refuse 20 = .ok (.aload_n 0, 1) := by decide +kernel
theorem dX6_refuse_21 : decode cX6_refuse 21 = .ok (.aload_n 0, 1) := by decide +kernel
theorem dX6_refuse_22 : decode cX6_refuse 22 = .ok (.getfield 20, 3) := by decide +kernel
theorem dX6_refuse_25 : decode cX6_refuse 25 = .ok (.getfield 205, 3) := by decide +kernel
theorem dX6_refuse_28 : decode cX6_refuse 28 = .ok (.putfield 9, 3) := by decide +kernel
theorem dX6_refuse_31 : decode cX6_refuse 31 = .ok (.iconst 0, 1) := by decide +kernel
theorem dX6_refuse_32 : decode cX6_refuse 32 = .ok (.ireturn, 1) := by decide +kernel
theorem dX6_readSign_0 : decode cX6_readSign 0 = .ok (.aload_n 0, 1) := by decide +kernel
theorem dX6_readSign_1 : decode cX6_readSign 1 = .ok (.getfield 20, 3) := by decide +kernel
theorem dX6_readSign_4 : decode cX6_readSign 4 = .ok (.iload_n 1, 1) := by decide +kernel
theorem dX6_readSign_5 : decode cX6_readSign 5 = .ok (.invokevirtual 187, 3) := by decide +kernel
theorem dX6_readSign_8 : decode cX6_readSign 8 = .ok (.ifCond .ne 9, 3) := by decide +kernel
theorem dX6_readSign_11 : decode cX6_readSign 11 = .ok (.aload_n 0, 1) := by decide +kernel
theorem dX6_readSign_12 : decode cX6_readSign 12 = .ok (.iconst 2, 1) := by decide +kernel
theorem dX6_readSign_13 : decode cX6_readSign 13 = .ok (.invokevirtual 56, 3) := by decide +kernel
theorem dX6_readSign_16 : decode cX6_readSign 16 = .ok (.ireturn, 1) := by decide +kernel
theorem dX6_readSign_17 : decode cX6_readSign 17 = .ok (.aload_n 0, 1) := by decide +kernel
theorem dX6_readSign_18 : decode cX6_readSign 18 = .ok (.getfield 20, 3) := by decide +kernel
theorem dX6_readSign_21 : decode cX6_readSign 21 = .ok (.invokevirtual 69, 3) := by decide +kernel
theorem dX6_readSign_24 : decode cX6_readSign 24 = .ok (.iconst 1, 1) := by decide +kernel
theorem dX6_readSign_25 : decode cX6_readSign 25 = .ok (.ireturn, 1) := by decide +kernel
theorem dX6_knownRoom_0 : decode cX6_knownRoom 0 = .ok (.aload_n 0, 1) := by decide +kernel
theorem dX6_knownRoom_1 : decode cX6_knownRoom 1 = .ok (.getfield 20, 3) := by decide +kernel
theorem dX6_knownRoom_4 : decode cX6_knownRoom 4 = .ok (.invokevirtual 72, 3) := by decide +kernel
theorem dX6_knownRoom_7 : decode cX6_knownRoom 7 = .ok (.ifCond .ne 11, 3) := by decide +kernel
theorem dX6_knownRoom_10 : decode cX6_knownRoom 10 = .ok (.aload_n 0, 1) := by decide +kernel
theorem dX6_knownRoom_11 : decode cX6_knownRoom 11 = .ok (.iconst 2, 1) := by decide +kernel
theorem dX6_knownRoom_12 : decode cX6_knownRoom 12 = .ok (.invokevirtual 56, 3) := by decide +kernel
theorem dX6_knownRoom_15 : decode cX6_knownRoom 15 = .ok (.pop, 1) := by decide +kernel
theorem dX6_knownRoom_16 : decode cX6_knownRoom 16 = .ok (.iconst (-1), 1) := by decide +kernel
theorem dX6_knownRoom_17 : decode cX6_knownRoom 17 = .ok (.ireturn, 1) := by decide +kernel
theorem dX6_knownRoom_18 : decode cX6_knownRoom 18 = .ok (.aload_n 0, 1) := by decide +kernel
theorem dX6_knownRoom_19 : decode cX6_knownRoom 19 = .ok (.getfield 24, 3) := by decide +kernel
theorem dX6_knownRoom_22 : decode cX6_knownRoom 22 = .ok (.aload_n 0, 1) := by decide +kernel
theorem dX6_knownRoom_23 : decode cX6_knownRoom 23 = .ok (.getfield 20, 3) := by decide +kernel
theorem dX6_knownRoom_26 : decode cX6_knownRoom 26 = .ok (.getfield 75, 3) := by decide +kernel
theorem dX6_knownRoom_29 : decode cX6_knownRoom 29 = .ok (.invokevirtual 79, 3) := by decide +kernel
theorem dX6_knownRoom_32 : decode cX6_knownRoom 32 = .ok (.istore_n 1, 1) := by decide +kernel
theorem dX6_knownRoom_33 : decode cX6_knownRoom 33 = .ok (.iload_n 1, 1) := by decide +kernel
theorem dX6_knownRoom_34 : decode cX6_knownRoom 34 = .ok (.iconst (-1), 1) := by decide +kernel
theorem dX6_knownRoom_35 : decode cX6_knownRoom 35 = .ok (.if_icmp .ne 9, 3) := by decide +kernel
theorem dX6_knownRoom_38 : decode cX6_knownRoom 38 = .ok (.aload_n 0, 1) := by decide +kernel
theorem dX6_knownRoom_39 : decode cX6_knownRoom 39 = .ok (.iconst 5, 1) := by decide +kernel
theorem dX6_knownRoom_40 : decode cX6_knownRoom 40 = .ok (.invokevirtual 56, 3) := by decide +kernel
theorem dX6_knownRoom_43 : decode cX6_knownRoom 43 = .ok (.pop, 1) := by decide +kernel
theorem dX6_knownRoom_44 : decode cX6_knownRoom 44 = .ok (.iload_n 1, 1) := by decide +kernel
theorem dX6_knownRoom_45 : decode cX6_knownRoom 45 = .ok (.ireturn, 1) := by decide +kernel
theorem dX6_readNumberBehind_0 : decode cX6_readNumberBehind 0 = .ok (.aload_n 0, 1) := by decide +kernel
theorem dX6_readNumberBehind_1 : decode cX6_readNumberBehind 1 = .ok (.getfield 20, 3) := by decide +kernel
theorem dX6_readNumberBehind_4 : decode cX6_readNumberBehind 4 = .ok (.iload_n 1, 1) := by decide +kernel
theorem dX6_readNumberBehind_5 : decode cX6_readNumberBehind 5 = .ok (.invokevirtual 128, 3) := by decide +kernel
theorem dX6_readNumberBehind_8 : decode cX6_readNumberBehind 8 = .ok (.ifCond .ne 5, 3) := by decide +kernel
theorem dX6_readNumberBehind_11 : decode cX6_readNumberBehind 11 = .ok (.iconst 0, 1) := by decide +kernel
theorem dX6_readNumberBehind_12 : decode cX6_readNumberBehind 12 = .ok (.ireturn, 1) := by decide +kernel
theorem dX6_readNumberBehind_13 : decode cX6_readNumberBehind 13 = .ok (.aload_n 0, 1) := by decide +kernel
theorem dX6_readNumberBehind_14 : decode cX6_readNumberBehind 14 = .ok (.getfield 20, 3) := by decide +kernel
theorem dX6_readNumberBehind_17 : decode cX6_readNumberBehind 17 = .ok (.invokevirtual 69, 3) := by decide +kernel
theorem dX6_readNumberBehind_20 : decode cX6_readNumberBehind 20 = .ok (.aload_n 0, 1) := by decide +kernel
theorem dX6_readNumberBehind_21 : decode cX6_readNumberBehind 21 = .ok (.getfield 20, 3) := by decide +kernel
theorem dX6_readNumberBehind_24 : decode cX6_readNumberBehind 24 = .ok (.getfield 34, 3) := by decide +kernel
theorem dX6_readNumberBehind_27 : decode cX6_readNumberBehind 27 = .ok (.iconst 2, 1) := by decide +kernel
theorem dX6_readNumberBehind_28 : decode cX6_readNumberBehind 28 = .ok (.if_icmp .eq 11, 3) := by decide +kernel
theorem dX6_readNumberBehind_31 : decode cX6_readNumberBehind 31 = .ok (.aload_n 0, 1) := by decide +kernel
theorem dX6_readNumberBehind_32 : decode cX6_readNumberBehind 32 = .ok (.iconst 2, 1) := by decide +kernel
theorem dX6_readNumberBehind_33 : decode cX6_readNumberBehind 33 = .ok (.invokevirtual 56, 3) := by decide +kernel
theorem dX6_readNumberBehind_36 : decode cX6_readNumberBehind 36 = .ok (.pop, 1) := by decide +kernel
theorem dX6_readNumberBehind_37 : decode cX6_readNumberBehind 37 = .ok (.iconst (-1), 1) := by decide +kernel
theorem dX6_readNumberBehind_38 : decode cX6_readNumberBehind 38 = .ok (.ireturn, 1) := by decide +kernel
theorem dX6_readNumberBehind_39 : decode cX6_readNumberBehind 39 = .ok (.aload_n 0, 1) := by decide +kernel
theorem dX6_readNumberBehind_40 : decode cX6_readNumberBehind 40 = .ok (.getfield 20, 3) := by decide +kernel
theorem dX6_readNumberBehind_43 : decode cX6_readNumberBehind 43 = .ok (.getfield 37, 3) := by decide +kernel
theorem dX6_readNumberBehind_46 : decode cX6_readNumberBehind 46 = .ok (.iload_n 2, 1) := by decide +kernel
theorem dX6_readNumberBehind_47 : decode cX6_readNumberBehind 47 = .ok (.if_icmp .le 11, 3) := by decide +kernel
theorem dX6_readNumberBehind_50 : decode cX6_readNumberBehind 50 = .ok (.aload_n 0, 1) := by decide +kernel
theorem dX6_readNumberBehind_51 : decode cX6_readNumberBehind 51 = .ok (.iconst 4, 1) := by decide +kernel
theorem dX6_readNumberBehind_52 : decode cX6_readNumberBehind 52 = .ok (.invokevirtual 56, 3) := by decide +kernel
theorem dX6_readNumberBehind_55 : decode cX6_readNumberBehind 55 = .ok (.pop, 1) := by decide +kernel
theorem dX6_readNumberBehind_56 : decode cX6_readNumberBehind 56 = .ok (.iconst (-1), 1) := by decide +kernel
theorem dX6_readNumberBehind_57 : decode cX6_readNumberBehind 57 = .ok (.ireturn, 1) := by decide +kernel
theorem dX6_readNumberBehind_58 : decode cX6_readNumberBehind 58 = .ok (.aload_n 0, 1) := by decide +kernel
theorem dX6_readNumberBehind_59 : decode cX6_readNumberBehind 59 = .ok (.getfield 20, 3) := by decide +kernel
theorem dX6_readNumberBehind_62 : decode cX6_readNumberBehind 62 = .ok (.getfield 37, 3) := by decide +kernel
theorem dX6_readNumberBehind_65 : decode cX6_readNumberBehind 65 = .ok (.istore_n 3, 1) := by decide +kernel
theorem dX6_readNumberBehind_66 : decode cX6_readNumberBehind 66 = .ok (.aload_n 0, 1) := by decide +kernel
theorem dX6_readNumberBehind_67 : decode cX6_readNumberBehind 67 = .ok (.getfield 20, 3) := by decide +kernel
theorem dX6_readNumberBehind_70 : decode cX6_readNumberBehind 70 = .ok (.invokevirtual 69, 3) := by decide +kernel
theorem dX6_readNumberBehind_73 : decode cX6_readNumberBehind 73 = .ok (.iload_n 3, 1) := by decide +kernel
theorem dX6_readNumberBehind_74 : decode cX6_readNumberBehind 74 = .ok (.ireturn, 1) := by decide +kernel
theorem dX6_product_0 : decode cX6_product 0 = .ok (.aload_n 0, 1) := by decide +kernel
theorem dX6_product_1 : decode cX6_product 1 = .ok (.getfield 20, 3) := by decide +kernel
theorem dX6_product_4 : decode cX6_product 4 = .ok (.getfield 34, 3) := by decide +kernel
theorem dX6_product_7 : decode cX6_product 7 = .ok (.iconst 3, 1) := by decide +kernel
theorem dX6_product_8 : decode cX6_product 8 = .ok (.if_icmp .eq 5, 3) := by decide +kernel
theorem dX6_product_11 : decode cX6_product 11 = .ok (.iconst 0, 1) := by decide +kernel
theorem dX6_product_12 : decode cX6_product 12 = .ok (.ireturn, 1) := by decide +kernel
theorem dX6_product_13 : decode cX6_product 13 = .ok (.aload_n 0, 1) := by decide +kernel
theorem dX6_product_14 : decode cX6_product 14 = .ok (.getfield 20, 3) := by decide +kernel
theorem dX6_product_17 : decode cX6_product 17 = .ok (.getfield 37, 3) := by decide +kernel
theorem dX6_product_20 : decode cX6_product 20 = .ok (.lookupswitch 45 #[(37, 42), (42, 36), (47, 39)], 36) := by decide +kernel
theorem dX6_product_56 : decode cX6_product 56 = .ok (.bipush (-14), 2) := by decide +kernel
theorem dX6_product_58 : decode cX6_product 58 = .ok (.ireturn, 1) := by decide +kernel
theorem dX6_product_59 : decode cX6_product 59 = .ok (.bipush (-15), 2) := by decide +kernel
theorem dX6_product_61 : decode cX6_product 61 = .ok (.ireturn, 1) := by decide +kernel
theorem dX6_product_62 : decode cX6_product 62 = .ok (.bipush (-16), 2) := by decide +kernel
theorem dX6_product_64 : decode cX6_product 64 = .ok (.ireturn, 1) := by decide +kernel
theorem dX6_product_65 : decode cX6_product 65 = .ok (.iconst 0, 1) := by decide +kernel
theorem dX6_product_66 : decode cX6_product 66 = .ok (.ireturn, 1) := by decide +kernel
theorem dX6_relation_0 : decode cX6_relation 0 = .ok (.aload_n 0, 1) := by decide +kernel
theorem dX6_relation_1 : decode cX6_relation 1 = .ok (.getfield 20, 3) := by decide +kernel
theorem dX6_relation_4 : decode cX6_relation 4 = .ok (.getfield 34, 3) := by decide +kernel
theorem dX6_relation_7 : decode cX6_relation 7 = .ok (.iconst 3, 1) := by decide +kernel
theorem dX6_relation_8 : decode cX6_relation 8 = .ok (.if_icmp .eq 5, 3) := by decide +kernel
theorem dX6_relation_11 : decode cX6_relation 11 = .ok (.iconst 0, 1) := by decide +kernel
theorem dX6_relation_12 : decode cX6_relation 12 = .ok (.ireturn, 1) := by decide +kernel
theorem dX6_relation_13 : decode cX6_relation 13 = .ok (.aload_n 0, 1) := by decide +kernel
theorem dX6_relation_14 : decode cX6_relation 14 = .ok (.getfield 20, 3) := by decide +kernel
theorem dX6_relation_17 : decode cX6_relation 17 = .ok (.getfield 37, 3) := by decide +kernel
theorem dX6_relation_20 : decode cX6_relation 20 = .ok (.tableswitch 37 60 62 #[28, 34, 31], 28) := by decide +kernel
theorem dX6_relation_48 : decode cX6_relation 48 = .ok (.bipush (-9), 2) := by decide +kernel
theorem dX6_relation_50 : decode cX6_relation 50 = .ok (.ireturn, 1) := by decide +kernel
theorem dX6_relation_51 : decode cX6_relation 51 = .ok (.bipush (-10), 2) := by decide +kernel
theorem dX6_relation_53 : decode cX6_relation 53 = .ok (.ireturn, 1) := by decide +kernel
theorem dX6_relation_54 : decode cX6_relation 54 = .ok (.bipush (-11), 2) := by decide +kernel
theorem dX6_relation_56 : decode cX6_relation 56 = .ok (.ireturn, 1) := by decide +kernel
theorem dX6_relation_57 : decode cX6_relation 57 = .ok (.iconst 0, 1) := by decide +kernel
theorem dX6_relation_58 : decode cX6_relation 58 = .ok (.ireturn, 1) := by decide +kernel
set_option maxRecDepth 20000 in
theorem ggX9_begin_X9_advance : GoodIn wsX9_begin wsX9_advance := goodIn_r _ [6, 1, 7, 8, 9, 10, 11, 12, 13, 5, 14, 15, 16, 17, 18, 19, 20, 21, 22, 23, 24, 25, 26, 27, 28, 29, 30, 31, 32, 33, 34, 35, 36, 37, 38, 39, 40, 41, 42, 43, 44, 45, 46, 47, 48, 49, 50, 51, 52, 53, 54, 55, 56, 57, 58, 59, 60, 61, 62, 63, 64, 65, 66, 67, 68, 69, 70, 71, 72, 73, 74, 75, 76, 77, 78, 79, 80, 81, 82, 83, 84, 85, 86, 87, 88, 89, 90, 91, 92, 93, 94, 95, 96, 97, 98, 99, 100, 101, 102, 103, 104, 105, 106, 107, 108, 109, 110, 111, 112, 113, 114, 115, 116, 117, 118, 119, 120, 121, 122, 123, 124, 125, 126, 127, 128, 129, 130, 131, 132, 133, 134, 135, 136, 137, 138, 139, 140, 141] (by decide +kernel) (by decide +kernel)
set_option maxRecDepth 20000 in
theorem gX9_begin_X9_advance : GoodIn wsX9_begin (wsV RX9 39 RX9 yX9_advance wsX9_advance) := goodIn_app (goodIn_of _ (by decide +kernel)) ggX9_begin_X9_advance
set_option maxRecDepth 20000 in
theorem ggX3_begin_X3_forgetActs : GoodIn wsX3_begin wsX3_forgetActs := goodIn_r _ [14, 15, 16, 17, 4, 18, 19, 20, 21, 22, 23, 24, 25, 26, 27, 28, 29, 30, 31] (by decide +kernel) (by decide +kernel)
set_option maxRecDepth 20000 in
theorem gX3_begin_X3_forgetActs : GoodIn wsX3_begin (wsV RX3 58 RX3 yX3_forgetActs wsX3_forgetActs) := goodIn_app (goodIn_of _ (by decide +kernel)) ggX3_begin_X3_forgetActs
set_option maxRecDepth 20000 in
theorem ggX3_takeFromBox_X3_forgetActs : GoodIn wsX3_takeFromBox wsX3_forgetActs := goodIn_r _ [12, 13, 14, 15, 3, 16, 4, 5, 6, 7, 17, 18, 19, 20, 21, 22, 23, 24, 25] (by decide +kernel) (by decide +kernel)
set_option maxRecDepth 20000 in
theorem gX3_takeFromBox_X3_forgetActs : GoodIn wsX3_takeFromBox (wsV RX3 58 RX3 yX3_forgetActs wsX3_forgetActs) := goodIn_app (goodIn_of _ (by decide +kernel)) ggX3_takeFromBox_X3_forgetActs
set_option maxRecDepth 20000 in
theorem ggX3_daysTillLost_X3_passDay : GoodIn wsX3_daysTillLost wsX3_passDay := goodIn_r _ [22, 1, 2, 23, 24, 25, 26, 27, 3, 28, 29, 30, 13, 31, 32, 33, 34, 35, 36, 37, 38, 39, 40, 41, 42, 43, 44, 45, 46, 47, 48, 49, 50, 51, 52, 53, 54, 55, 56, 57, 58, 59, 60, 61, 62, 63, 64, 65, 66, 67, 68, 69, 70, 71, 72, 73, 74, 75, 76, 77, 78, 79, 80, 81, 82, 83, 84, 85, 86, 87, 88, 89, 90, 91, 92, 93, 94, 95, 96, 97, 98, 99, 100] (by decide +kernel) (by decide +kernel)
set_option maxRecDepth 20000 in
theorem gX3_daysTillLost_X3_passDay : GoodIn wsX3_daysTillLost (wsV RX3 121 RX3 yX3_passDay wsX3_passDay) := goodIn_app (goodIn_of _ (by decide +kernel)) ggX3_daysTillLost_X3_passDay
set_option maxRecDepth 20000 in
theorem ggX3_daysTillLost_X3_rightThings : GoodIn wsX3_daysTillLost wsX3_rightThings := goodIn_r _ [14, 1, 2, 3, 15, 16, 17, 13, 18, 65, 66, 67, 68, 69, 70, 71, 72, 73, 74, 75, 76, 77, 78, 79, 80, 81, 82, 83, 84, 85, 86, 87, 88, 89, 90, 91, 92, 93, 94] (by decide +kernel) (by decide +kernel)
set_option maxRecDepth 20000 in
theorem gX3_daysTillLost_X3_rightThings : GoodIn wsX3_daysTillLost (wsV RX3 125 RX3 yX3_rightThings wsX3_rightThings) := goodIn_app (goodIn_of _ (by decide +kernel)) ggX3_daysTillLost_X3_rightThings
set_option maxRecDepth 20000 in
theorem ggX3_thoughtBehind_X3_passDay : GoodIn wsX3_thoughtBehind wsX3_passDay := goodIn_r _ [11, 12, 13, 14, 15, 16, 17, 18, 19, 20, 21, 22, 10, 23, 24, 25, 26, 27, 28, 29, 30, 31, 32, 33, 34, 35, 36, 37, 38, 39, 40, 41, 42, 43, 44, 45, 46, 47, 48, 49, 50, 51, 52, 53, 54, 55, 56, 57, 58, 59, 60, 61, 62, 63, 64, 65, 66, 67, 68, 69, 70, 71, 72, 73, 74, 75, 76, 77, 78, 79, 80, 81, 82, 83, 84, 85, 86, 87, 88, 89, 90, 91, 92] (by decide +kernel) (by decide +kernel)
set_option maxRecDepth 20000 in
theorem gX3_thoughtBehind_X3_passDay : GoodIn wsX3_thoughtBehind (wsV RX3 121 RX3 yX3_passDay wsX3_passDay) := goodIn_app (goodIn_of _ (by decide +kernel)) ggX3_thoughtBehind_X3_passDay
set_option maxRecDepth 20000 in
theorem ggX10_mostPairs_X10_isFair : GoodIn wsX10_mostPairs wsX10_isFair := goodIn_r _ [16, 1, 2, 3, 4, 17, 18, 19, 12, 20, 21, 22, 23, 24, 25, 26, 27, 28, 29, 30, 31, 32, 33, 34, 35, 36, 37, 38, 39, 40, 41, 42, 43, 44, 45, 46, 47, 48, 49, 50, 51, 52, 53, 54, 55, 56, 57, 58, 59, 60, 61, 62] (by decide +kernel) (by decide +kernel)
set_option maxRecDepth 20000 in
theorem gX10_mostPairs_X10_isFair : GoodIn wsX10_mostPairs (wsV RX10 47 RX10 yX10_isFair wsX10_isFair) := goodIn_app (goodIn_of _ (by decide +kernel)) ggX10_mostPairs_X10_isFair
set_option maxRecDepth 20000 in
theorem ggX10_mostPairs_X10_mostPairs : GoodIn wsX10_mostPairs wsX10_mostPairs := goodIn_r _ [0, 1, 2, 3, 4, 5, 6, 7, 8, 9, 10, 11, 12, 13, 14, 15, 16, 17, 18, 19, 20, 21, 22, 23, 24, 25, 26, 27, 28, 29, 30, 31, 32, 33, 34, 35, 36, 37, 38, 39, 40, 41, 42, 43, 44, 45, 46, 47, 48, 49, 50, 51, 52, 53, 54, 55, 56, 57, 58, 59, 60, 61, 62] (by decide +kernel) (by decide +kernel)
set_option maxRecDepth 20000 in
theorem gX10_mostPairs_X10_mostPairs : GoodIn wsX10_mostPairs (wsV RX10 61 RX10 yX10_mostPairs wsX10_mostPairs) := goodIn_app (goodIn_of _ (by decide +kernel)) ggX10_mostPairs_X10_mostPairs
set_option maxRecDepth 20000 in
theorem ggX10_mostTrades_X10_mostPairs : GoodIn wsX10_mostTrades wsX10_mostPairs := goodIn_r _ [5, 6, 7, 8, 9, 10, 11, 12, 13, 1, 2, 3, 4, 14, 15, 16, 17, 18, 19, 20, 21, 22, 23, 24, 25, 26, 27, 28, 29, 30, 31, 32, 33, 34, 35, 36, 37, 38, 39, 40, 41, 42, 43, 44, 45, 46, 47, 48, 49, 50, 51, 52, 53, 54, 55, 56, 57, 58, 59, 60, 61, 62, 63] (by decide +kernel) (by decide +kernel)
set_option maxRecDepth 20000 in
theorem gX10_mostTrades_X10_mostPairs : GoodIn wsX10_mostTrades (wsV RX10 61 RX10 yX10_mostPairs wsX10_mostPairs) := goodIn_app (goodIn_of _ (by decide +kernel)) ggX10_mostTrades_X10_mostPairs
set_option maxRecDepth 20000 in
theorem ggX6_readSign_X6_refuse : GoodIn wsX6_readSign wsX6_refuse := goodIn_r _ [13, 1, 14, 15, 16, 17, 147, 148, 149, 150, 151, 152, 153, 154, 155, 156, 157] (by decide +kernel) (by decide +kernel)
set_option maxRecDepth 20000 in
theorem gX6_readSign_X6_refuse : GoodIn wsX6_readSign (wsV RX6 56 RX6 yX6_refuse wsX6_refuse) := goodIn_app (goodIn_of _ (by decide +kernel)) ggX6_readSign_X6_refuse
set_option maxRecDepth 20000 in
theorem ggX6_readSign_X9_advance : GoodIn wsX6_readSign wsX9_advance := goodIn_r _ [21, 22, 23, 24, 25, 26, 7, 27, 28, 5, 29, 30, 31, 32, 33, 34, 35, 36, 37, 8, 38, 39, 40, 41, 42, 43, 44, 45, 46, 47, 48, 49, 50, 51, 52, 53, 54, 55, 56, 57, 58, 59, 60, 61, 62, 63, 64, 65, 66, 67, 68, 69, 70, 71, 72, 73, 74, 75, 76, 77, 78, 79, 80, 81, 82, 83, 84, 85, 86, 87, 88, 89, 90, 91, 92, 93, 94, 95, 96, 97, 98, 99, 100, 101, 102, 103, 104, 105, 106, 107, 108, 109, 110, 111, 112, 113, 114, 115, 116, 117, 118, 119, 120, 121, 122, 123, 124, 125, 126, 127, 128, 129, 130, 131, 132, 133, 134, 135, 136, 137, 138, 139, 140, 141, 142, 143, 144, 145, 146, 151, 152, 153, 154, 155, 156, 157, 158, 159] (by decide +kernel) (by decide +kernel)
set_option maxRecDepth 20000 in
theorem gX6_readSign_X9_advance : GoodIn wsX6_readSign (wsV RX6 69 RX9 yX9_advance wsX9_advance) := goodIn_app (goodIn_of _ (by decide +kernel)) ggX6_readSign_X9_advance
set_option maxRecDepth 20000 in
theorem ggX6_readSign_X9_isSign : GoodIn wsX6_readSign wsX9_isSign := goodIn_r _ [6, 7, 8, 151, 152, 153, 154, 155, 156, 157] (by decide +kernel) (by decide +kernel)
set_option maxRecDepth 20000 in
theorem gX6_readSign_X9_isSign : GoodIn wsX6_readSign (wsV RX6 187 RX9 yX9_isSign wsX9_isSign) := goodIn_app (goodIn_of _ (by decide +kernel)) ggX6_readSign_X9_isSign
set_option maxRecDepth 20000 in
theorem ggX6_knownRoom_X5_roomNamed : GoodIn wsX6_knownRoom wsX5_roomNamed := goodIn_r _ [24, 25, 26, 38, 39, 40, 41, 42, 43, 44, 45, 46, 47, 48, 49, 50, 51, 52, 53] (by decide +kernel) (by decide +kernel)
set_option maxRecDepth 20000 in
theorem gX6_knownRoom_X5_roomNamed : GoodIn wsX6_knownRoom (wsV RX6 79 RX5 yX5_roomNamed wsX5_roomNamed) := goodIn_app (goodIn_of _ (by decide +kernel)) ggX6_knownRoom_X5_roomNamed
set_option maxRecDepth 20000 in
theorem ggX6_knownRoom_X6_refuse : GoodIn wsX6_knownRoom wsX6_refuse := goodIn_r _ [15, 1, 16, 17, 18, 19, 27, 28, 29, 30, 31, 32, 33, 34, 35, 36, 37] (by decide +kernel) (by decide +kernel)
set_option maxRecDepth 20000 in
theorem gX6_knownRoom_X6_refuse : GoodIn wsX6_knownRoom (wsV RX6 56 RX6 yX6_refuse wsX6_refuse) := goodIn_app (goodIn_of _ (by decide +kernel)) ggX6_knownRoom_X6_refuse
set_option maxRecDepth 20000 in
theorem ggX6_knownRoom_X9_isName : GoodIn wsX6_knownRoom wsX9_isName := goodIn_r _ [8, 9, 10, 31, 32, 33, 34, 35, 36, 37] (by decide +kernel) (by decide +kernel)
set_option maxRecDepth 20000 in
theorem gX6_knownRoom_X9_isName : GoodIn wsX6_knownRoom (wsV RX6 72 RX9 yX9_isName wsX9_isName) := goodIn_app (goodIn_of _ (by decide +kernel)) ggX6_knownRoom_X9_isName
set_option maxRecDepth 20000 in
theorem ggX6_readNumberBehind_X6_refuse : GoodIn wsX6_readNumberBehind wsX6_refuse := goodIn_r _ [144, 1, 2, 145, 146, 147, 148, 149, 150, 151, 152, 153, 154, 155, 156, 157, 158] (by decide +kernel) (by decide +kernel)
set_option maxRecDepth 20000 in
theorem gX6_readNumberBehind_X6_refuse : GoodIn wsX6_readNumberBehind (wsV RX6 56 RX6 yX6_refuse wsX6_refuse) := goodIn_app (goodIn_of _ (by decide +kernel)) ggX6_readNumberBehind_X6_refuse
set_option maxRecDepth 20000 in
theorem ggX6_readNumberBehind_X9_advance : GoodIn wsX6_readNumberBehind wsX9_advance := goodIn_r _ [14, 15, 16, 17, 18, 19, 9, 20, 21, 7, 22, 23, 24, 25, 26, 27, 28, 29, 30, 10, 31, 32, 33, 34, 35, 36, 37, 38, 39, 40, 41, 42, 43, 44, 45, 46, 47, 48, 49, 50, 51, 52, 53, 54, 55, 56, 57, 58, 59, 60, 61, 62, 63, 64, 65, 66, 67, 68, 69, 70, 71, 72, 73, 74, 75, 76, 77, 78, 79, 80, 81, 82, 83, 84, 85, 86, 87, 88, 89, 90, 91, 92, 93, 94, 95, 96, 97, 98, 99, 100, 101, 102, 103, 104, 105, 106, 107, 108, 109, 110, 111, 112, 113, 114, 115, 116, 117, 118, 119, 120, 121, 122, 123, 124, 125, 126, 127, 128, 129, 130, 131, 132, 133, 134, 135, 136, 137, 138, 139, 152, 153, 154, 155, 156, 157, 158, 159, 160] (by decide +kernel) (by decide +kernel)
set_option maxRecDepth 20000 in
theorem gX6_readNumberBehind_X9_advance : GoodIn wsX6_readNumberBehind (wsV RX6 69 RX9 yX9_advance wsX9_advance) := goodIn_app (goodIn_of _ (by decide +kernel)) ggX6_readNumberBehind_X9_advance
set_option maxRecDepth 20000 in
theorem ggX6_readNumberBehind_X9_isOwn : GoodIn wsX6_readNumberBehind wsX9_isOwn := goodIn_r _ [8, 9, 10, 152, 153, 154, 155, 156, 157, 158] (by decide +kernel) (by decide +kernel)
set_option maxRecDepth 20000 in
theorem gX6_readNumberBehind_X9_isOwn : GoodIn wsX6_readNumberBehind (wsV RX6 128 RX9 yX9_isOwn wsX9_isOwn) := goodIn_app (goodIn_of _ (by decide +kernel)) ggX6_readNumberBehind_X9_isOwn
theorem iw_X9_begin_X9 : ∀ w ∈ wsX90, w ∈ wsX9_begin := fun _ h => List.mem_cons_of_mem _ (List.mem_append_left _ (List.mem_append_right _ h))
theorem iw_X3_keepAct_X3 : ∀ w ∈ wsX30, w ∈ wsX3_keepAct := fun _ h => List.mem_cons_of_mem _ (List.mem_append_right _ h)
theorem iw_X3_stepBack_X3 : ∀ w ∈ wsX30, w ∈ wsX3_stepBack := fun _ h => List.mem_cons_of_mem _ (List.mem_append_right _ h)
theorem iw_X3_stepOn_X3 : ∀ w ∈ wsX30, w ∈ wsX3_stepOn := fun _ h => List.mem_cons_of_mem _ (List.mem_append_right _ h)
theorem iw_X3_forgetActs_X3 : ∀ w ∈ wsX30, w ∈ wsX3_forgetActs := fun _ h => List.mem_cons_of_mem _ (List.mem_append_right _ h)
theorem iw_X3_begin_X0 : ∀ w ∈ wsX00, w ∈ wsX3_begin := fun _ h => List.mem_cons_of_mem _ (List.mem_append_left _ (List.mem_append_right _ h))
theorem iw_X3_begin_X3 : ∀ w ∈ wsX30, w ∈ wsX3_begin := fun _ h => List.mem_cons_of_mem _ (List.mem_append_left _ (List.mem_append_left _ (List.mem_append_right _ h)))
theorem iw_X3_begin_X5 : ∀ w ∈ wsX50, w ∈ wsX3_begin := fun _ h => List.mem_cons_of_mem _ (List.mem_append_right _ h)
theorem iw_X3_putInBox_X3 : ∀ w ∈ wsX30, w ∈ wsX3_putInBox := fun _ h => List.mem_cons_of_mem _ (List.mem_append_right _ h)
theorem iw_X3_takeFromBox_X3 : ∀ w ∈ wsX30, w ∈ wsX3_takeFromBox := fun _ h => List.mem_cons_of_mem _ (List.mem_append_right _ h)
theorem iw_X3_daysTillLost_X0 : ∀ w ∈ wsX00, w ∈ wsX3_daysTillLost := fun _ h => List.mem_cons_of_mem _ (List.mem_append_left _ (List.mem_append_left _ (List.mem_append_right _ h)))
theorem iw_X3_daysTillLost_X3 : ∀ w ∈ wsX30, w ∈ wsX3_daysTillLost := fun _ h => List.mem_cons_of_mem _ (List.mem_append_left _ (List.mem_append_left _ (List.mem_append_left _ (List.mem_append_right _ h))))
theorem iw_X3_daysTillLost_X5 : ∀ w ∈ wsX50, w ∈ wsX3_daysTillLost := fun _ h => List.mem_cons_of_mem _ (List.mem_append_left _ (List.mem_append_right _ h))
theorem iw_X3_thoughtBehind_X3 : ∀ w ∈ wsX30, w ∈ wsX3_thoughtBehind := fun _ h => List.mem_cons_of_mem _ (List.mem_append_left _ (List.mem_append_left _ (List.mem_append_left _ (List.mem_append_right _ h))))
theorem iw_X10_mostPairs_X0 : ∀ w ∈ wsX00, w ∈ wsX10_mostPairs := fun _ h => List.mem_cons_of_mem _ (List.mem_append_left _ (List.mem_append_right _ h))
theorem iw_X10_mostPairs_X10 : ∀ w ∈ wsX100, w ∈ wsX10_mostPairs := fun _ h => List.mem_cons_of_mem _ (List.mem_append_left _ (List.mem_append_left _ (List.mem_append_left _ (List.mem_append_right _ h))))
theorem iw_X10_mostPairs_X3 : ∀ w ∈ wsX30, w ∈ wsX10_mostPairs := fun _ h => List.mem_cons_of_mem _ (List.mem_append_left _ (List.mem_append_left _ (List.mem_append_right _ h)))
theorem iw_X10_mostPairs_X5 : ∀ w ∈ wsX50, w ∈ wsX10_mostPairs := fun _ h => List.mem_cons_of_mem _ (List.mem_append_right _ h)
theorem iw_X6_refuse_X6 : ∀ w ∈ wsX60, w ∈ wsX6_refuse := fun _ h => List.mem_cons_of_mem _ (List.mem_append_left _ (List.mem_append_right _ h))
theorem iw_X6_refuse_X9 : ∀ w ∈ wsX90, w ∈ wsX6_refuse := fun _ h => List.mem_cons_of_mem _ (List.mem_append_right _ h)
theorem iw_X6_readSign_X6 : ∀ w ∈ wsX60, w ∈ wsX6_readSign := fun _ h => List.mem_cons_of_mem _ (List.mem_append_left _ (List.mem_append_left _ (List.mem_append_right _ h)))
theorem iw_X6_knownRoom_X6 : ∀ w ∈ wsX60, w ∈ wsX6_knownRoom := fun _ h => List.mem_cons_of_mem _ (List.mem_append_left _ (List.mem_append_left _ (List.mem_append_right _ h)))
theorem iw_X6_knownRoom_X9 : ∀ w ∈ wsX90, w ∈ wsX6_knownRoom := fun _ h => List.mem_cons_of_mem _ (List.mem_append_left _ (List.mem_append_right _ h))
theorem iw_X6_readNumberBehind_X6 : ∀ w ∈ wsX60, w ∈ wsX6_readNumberBehind := fun _ h => List.mem_cons_of_mem _ (List.mem_append_left _ (List.mem_append_left _ (List.mem_append_right _ h)))
theorem iw_X6_readNumberBehind_X9 : ∀ w ∈ wsX90, w ∈ wsX6_readNumberBehind := fun _ h => List.mem_cons_of_mem _ (List.mem_append_left _ (List.mem_append_right _ h))
theorem iw_X6_product_X6 : ∀ w ∈ wsX60, w ∈ wsX6_product := fun _ h => List.mem_cons_of_mem _ (List.mem_append_left _ (List.mem_append_right _ h))
theorem iw_X6_product_X9 : ∀ w ∈ wsX90, w ∈ wsX6_product := fun _ h => List.mem_cons_of_mem _ (List.mem_append_right _ h)
theorem iw_X6_relation_X6 : ∀ w ∈ wsX60, w ∈ wsX6_relation := fun _ h => List.mem_cons_of_mem _ (List.mem_append_left _ (List.mem_append_right _ h))
theorem iw_X6_relation_X9 : ∀ w ∈ wsX90, w ∈ wsX6_relation := fun _ h => List.mem_cons_of_mem _ (List.mem_append_right _ h)
