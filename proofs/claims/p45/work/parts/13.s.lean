def wsX4_countWalks_r1 : List Cond := [Cond.fieldLink RX4 33 "SoldHouse$Night" "floor" "LSoldHouse$Floor;", Cond.fieldLink RX4 49 "SoldHouse$Floor" "plan" "LSoldHouse$Plan;", Cond.fieldLink RX4 55 "SoldHouse$Plan" "rooms" "I", Cond.fieldLink RX4 27 "SoldHouse$Night" "into" "[I", Cond.fieldLink RX4 30 "SoldHouse$Night" "onward" "[I", Cond.methodLink RX4 45 yX4_openRooms, Cond.instanceMethod yX4_openRooms, Cond.selects RX4 yX4_openRooms yX4_openRooms, Cond.initialized RX4, Cond.code yX4_openRooms cX4_openRooms 4 none, Cond.fieldLink RX4 24 "SoldHouse$Night" "open" "[I", Cond.fieldLink RX4 37 "SoldHouse$Night" "count" "I", Cond.fieldLink RX4 21 "SoldHouse$Night" "untoldAt" "[I", Cond.fieldLink RX4 18 "SoldHouse$Night" "toldAt" "[I", Cond.fieldLink RX4 11 "SoldHouse$Night" "minute" "[I", Cond.fieldLink RX4 15 "SoldHouse$Night" "rooms" "[I", Cond.methodLink RX4 82 yJ7_fill_53178, Cond.static yJ7_fill_53178, Cond.initialized RJ7, Cond.code yJ7_fill_53178 cJ7_fill_53178 4 none, Cond.methodLink RX4 59 yX4_isOpen, Cond.instanceMethod yX4_isOpen, Cond.selects RX4 yX4_isOpen yX4_isOpen, Cond.code yX4_isOpen cX4_isOpen 3 (some .boolean)]
def wsX4_countWalks_r2 : List Cond := [Cond.methodLink RX4 63 yX4_comingTo, Cond.instanceMethod yX4_comingTo, Cond.selects RX4 yX4_comingTo yX4_comingTo, Cond.code yX4_comingTo cX4_comingTo 3 (some .int), Cond.methodLink RX4 88 yX4_sumAround, Cond.instanceMethod yX4_sumAround, Cond.selects RX4 yX4_sumAround yX4_sumAround, Cond.code yX4_sumAround cX4_sumAround 7 (some .int), Cond.fieldLink RX4 92 "SoldHouse$Floor" "next" "[I", Cond.methodLink RX4 67 yX4_goingOn, Cond.instanceMethod yX4_goingOn, Cond.selects RX4 yX4_goingOn yX4_goingOn, Cond.code yX4_goingOn cX4_goingOn 3 (some .int)]
def wsX4_countWalks : List Cond := .code yX4_countWalks cX4_countWalks 4 (some .int) :: ((wsX4_countWalks_r1 ++ wsX4_countWalks_r2) ++ wsX40 ++ wsX00 ++ wsX50)
def wsX4_onlyRoom : List Cond := .code yX4_onlyRoom cX4_onlyRoom 4 (some .int) :: ([.fieldLink RX4 33 "SoldHouse$Night" "floor" "LSoldHouse$Floor;", .fieldLink RX4 49 "SoldHouse$Floor" "plan" "LSoldHouse$Plan;", .fieldLink RX4 55 "SoldHouse$Plan" "rooms" "I", .methodLink RX4 70 yX4_through, .instanceMethod yX4_through, .selects RX4 yX4_through yX4_through, .initialized RX4, .code yX4_through cX4_through 3 (some .int), .fieldLink RX4 27 "SoldHouse$Night" "into" "[I", .fieldLink RX4 30 "SoldHouse$Night" "onward" "[I"] ++ wsX40 ++ wsX00 ++ wsX50)
def wsX4_mostLeft : List Cond := .code yX4_mostLeft cX4_mostLeft 4 (some .int) :: ([.fieldLink RX4 33 "SoldHouse$Night" "floor" "LSoldHouse$Floor;", .fieldLink RX4 49 "SoldHouse$Floor" "plan" "LSoldHouse$Plan;", .fieldLink RX4 55 "SoldHouse$Plan" "rooms" "I", .methodLink RX4 77 Lib.Math.max.name, .static Lib.Math.max.name, .initialized "java/lang/Math", .code Lib.Math.max.name Lib.Math.max.code 2 (some .int), .methodLink RX4 70 yX4_through, .instanceMethod yX4_through, .selects RX4 yX4_through yX4_through, .initialized RX4, .code yX4_through cX4_through 3 (some .int), .fieldLink RX4 27 "SoldHouse$Night" "into" "[I", .fieldLink RX4 30 "SoldHouse$Night" "onward" "[I"] ++ wsX40 ++ wsX00 ++ wsX50)
def wsX4_bestMinute : List Cond := .code yX4_bestMinute cX4_bestMinute 3 (some .int) :: ([.methodLink RX4 73 yX4_mostLeft, .instanceMethod yX4_mostLeft, .selects RX4 yX4_mostLeft yX4_mostLeft, .initialized RX4, .code yX4_mostLeft cX4_mostLeft 4 (some .int), .fieldLink RX4 33 "SoldHouse$Night" "floor" "LSoldHouse$Floor;", .fieldLink RX4 49 "SoldHouse$Floor" "plan" "LSoldHouse$Plan;", .fieldLink RX4 55 "SoldHouse$Plan" "rooms" "I", .methodLink RX4 77 Lib.Math.max.name, .static Lib.Math.max.name, .initialized "java/lang/Math", .code Lib.Math.max.name Lib.Math.max.code 2 (some .int), .methodLink RX4 70 yX4_through, .instanceMethod yX4_through, .selects RX4 yX4_through yX4_through, .code yX4_through cX4_through 3 (some .int), .fieldLink RX4 27 "SoldHouse$Night" "into" "[I", .fieldLink RX4 30 "SoldHouse$Night" "onward" "[I"] ++ wsX40 ++ wsX00 ++ wsX50)
def wsX9_isBlank : List Cond := .code yX9_isBlank cX9_isBlank 1 (some .boolean) :: ([])
def wsX9_isLetter : List Cond := .code yX9_isLetter cX9_isLetter 1 (some .boolean) :: ([])
def wsX9_isDigit : List Cond := .code yX9_isDigit cX9_isDigit 1 (some .boolean) :: ([])
def wsX9_withLetter : List Cond := .code yX9_withLetter cX9_withLetter 3 (some .long) :: ([.constantLong RX9 92 (32)])
def wsX9_numberOfOwn : List Cond := .code yX9_numberOfOwn cX9_numberOfOwn 2 (some .int) :: ([.fieldLink RX9 11 "SoldHouse$Tokens" "own" "[J", .fieldLink RX9 79 "SoldHouse$Tokens" "word" "J"] ++ wsX90)
def wsX9_isName : List Cond := .code yX9_isName cX9_isName 1 (some .boolean) :: ([.fieldLink RX9 58 "SoldHouse$Tokens" "kind" "I", .fieldLink RX9 76 "SoldHouse$Tokens" "value" "I"] ++ wsX90)
def wsX9_isOwn : List Cond := .code yX9_isOwn cX9_isOwn 2 (some .boolean) :: ([.fieldLink RX9 58 "SoldHouse$Tokens" "kind" "I", .fieldLink RX9 76 "SoldHouse$Tokens" "value" "I"] ++ wsX90)
def wsX9_isSign : List Cond := .code yX9_isSign cX9_isSign 2 (some .boolean) :: ([.fieldLink RX9 58 "SoldHouse$Tokens" "kind" "I", .fieldLink RX9 76 "SoldHouse$Tokens" "value" "I"] ++ wsX90)
def wsX9_readWord : List Cond := .code yX9_readWord cX9_readWord 1 none :: ([.fieldLink RX9 79 "SoldHouse$Tokens" "word" "J", .fieldLink RX9 35 "SoldHouse$Tokens" "behind" "I", .fieldLink RX9 15 "SoldHouse$Tokens" "tape" "LSoldHouse$Tape;", .fieldLink RX9 42 "SoldHouse$Tape" "size" "I", .fieldLink RX9 47 "SoldHouse$Tape" "bytes" "[B", .fieldLink RX9 55 "SoldHouse$Tokens" "place" "I", .fieldLink RX9 58 "SoldHouse$Tokens" "kind" "I", .fieldLink RX9 76 "SoldHouse$Tokens" "value" "I", .methodLink RX9 61 yX9_isLetter, .static yX9_isLetter, .initialized RX9, .code yX9_isLetter cX9_isLetter 1 (some .boolean), .methodLink RX9 31 yX9_withLetter, .static yX9_withLetter, .code yX9_withLetter cX9_withLetter 3 (some .long), .constantLong RX9 92 (32), .methodLink RX9 83 yX9_numberOfOwn, .instanceMethod yX9_numberOfOwn, .selects RX9 yX9_numberOfOwn yX9_numberOfOwn, .code yX9_numberOfOwn cX9_numberOfOwn 2 (some .int), .fieldLink RX9 11 "SoldHouse$Tokens" "own" "[J"] ++ wsX90 ++ wsX80)
def wsX9_readNumber : List Cond := .code yX9_readNumber cX9_readNumber 2 none :: ([.fieldLink RX9 76 "SoldHouse$Tokens" "value" "I", .fieldLink RX9 35 "SoldHouse$Tokens" "behind" "I", .fieldLink RX9 15 "SoldHouse$Tokens" "tape" "LSoldHouse$Tape;", .fieldLink RX9 42 "SoldHouse$Tape" "size" "I", .fieldLink RX9 47 "SoldHouse$Tape" "bytes" "[B", .fieldLink RX9 55 "SoldHouse$Tokens" "place" "I", .fieldLink RX9 58 "SoldHouse$Tokens" "kind" "I", .methodLink RX9 67 yX9_isDigit, .static yX9_isDigit, .initialized RX9, .code yX9_isDigit cX9_isDigit 1 (some .boolean), .methodLink RX9 61 yX9_isLetter, .static yX9_isLetter, .code yX9_isLetter cX9_isLetter 1 (some .boolean)] ++ wsX90 ++ wsX80)
def wsJ0_isLatin1_aae02 : List Cond := .code yJ0_isLatin1_aae02 cJ0_isLatin1_aae02 1 (some .boolean) :: ([.fieldLink RJ0 38 "java/lang/String" "COMPACT_STRINGS" "Z", .fieldLink RJ0 15 "java/lang/String" "coder" "B"])
def wsJ0_coder_7d493 : List Cond := .code yJ0_coder_7d493 cJ0_coder_7d493 1 (some .byte) :: ([.fieldLink RJ0 38 "java/lang/String" "COMPACT_STRINGS" "Z", .fieldLink RJ0 15 "java/lang/String" "coder" "B"])
def wsJ0_length_8abf5 : List Cond := .code yJ0_length_8abf5 cJ0_length_8abf5 1 (some .int) :: ([.fieldLink RJ0 9 "java/lang/String" "value" "[B", .methodLink RJ0 335 yJ0_coder_7d493, .instanceMethod yJ0_coder_7d493, .selects RJ0 yJ0_coder_7d493 yJ0_coder_7d493, .initialized RJ0, .code yJ0_coder_7d493 cJ0_coder_7d493 1 (some .byte), .fieldLink RJ0 38 "java/lang/String" "COMPACT_STRINGS" "Z", .fieldLink RJ0 15 "java/lang/String" "coder" "B"])
def wsJ1_canEncode_9a6ad : List Cond := .code yJ1_canEncode_9a6ad cJ1_canEncode_9a6ad 1 (some .boolean) :: ([])
def wsJ1_indexOfChar_4cfef : List Cond := .code yJ1_indexOfChar_4cfef cJ1_indexOfChar_4cfef 6 (some .int) :: ([])
def wsJ1_indexOf_4cfef : List Cond := .code yJ1_indexOf_4cfef cJ1_indexOf_4cfef 4 (some .int) :: ([.methodLink RJ1 92 Lib.Math.max.name, .static Lib.Math.max.name, .initialized "java/lang/Math", .code Lib.Math.max.name Lib.Math.max.code 2 (some .int), .methodLink RJ1 38 Lib.Math.min.name, .static Lib.Math.min.name, .code Lib.Math.min.name Lib.Math.min.code 2 (some .int), .methodLink RJ1 88 yJ1_canEncode_9a6ad, .static yJ1_canEncode_9a6ad, .initialized RJ1, .code yJ1_canEncode_9a6ad cJ1_canEncode_9a6ad 1 (some .boolean), .methodLink RJ1 95 yJ1_indexOfChar_4cfef, .static yJ1_indexOfChar_4cfef, .code yJ1_indexOfChar_4cfef cJ1_indexOfChar_4cfef 6 (some .int)])
def wsJ0_indexOf_7cf53_r1 : List Cond := [Cond.fieldLink RJ0 9 "java/lang/String" "value" "[B", Cond.methodLink RJ0 492 yJ0_isLatin1_aae02, Cond.instanceMethod yJ0_isLatin1_aae02, Cond.selects RJ0 yJ0_isLatin1_aae02 yJ0_isLatin1_aae02, Cond.initialized RJ0, Cond.code yJ0_isLatin1_aae02 cJ0_isLatin1_aae02 1 (some .boolean), Cond.fieldLink RJ0 38 "java/lang/String" "COMPACT_STRINGS" "Z", Cond.fieldLink RJ0 15 "java/lang/String" "coder" "B", Cond.methodLink RJ0 505 yJ0_length_8abf5, Cond.instanceMethod yJ0_length_8abf5, Cond.selects RJ0 yJ0_length_8abf5 yJ0_length_8abf5, Cond.code yJ0_length_8abf5 cJ0_length_8abf5 1 (some .int), Cond.methodLink RJ0 335 yJ0_coder_7d493, Cond.instanceMethod yJ0_coder_7d493, Cond.selects RJ0 yJ0_coder_7d493 yJ0_coder_7d493, Cond.code yJ0_coder_7d493 cJ0_coder_7d493 1 (some .byte), Cond.methodLink RJ0 637 yJ1_indexOf_4cfef, Cond.static yJ1_indexOf_4cfef, Cond.initialized RJ1, Cond.code yJ1_indexOf_4cfef cJ1_indexOf_4cfef 4 (some .int), Cond.methodLink RJ1 92 Lib.Math.max.name, Cond.static Lib.Math.max.name, Cond.initialized "java/lang/Math", Cond.code Lib.Math.max.name Lib.Math.max.code 2 (some .int)]
def wsJ0_indexOf_7cf53_r2 : List Cond := [Cond.methodLink RJ1 38 Lib.Math.min.name, Cond.static Lib.Math.min.name, Cond.code Lib.Math.min.name Lib.Math.min.code 2 (some .int), Cond.methodLink RJ1 88 yJ1_canEncode_9a6ad, Cond.static yJ1_canEncode_9a6ad, Cond.code yJ1_canEncode_9a6ad cJ1_canEncode_9a6ad 1 (some .boolean), Cond.methodLink RJ1 95 yJ1_indexOfChar_4cfef, Cond.static yJ1_indexOfChar_4cfef, Cond.code yJ1_indexOfChar_4cfef cJ1_indexOfChar_4cfef 6 (some .int), Cond.methodLink RJ0 640 yJ2_indexOf_4cfef, Cond.static yJ2_indexOf_4cfef, Cond.initialized RJ2, Cond.code yJ2_indexOf_4cfef cJ2_indexOf_4cfef 4 (some .int), Cond.methodLink RJ2 224 Lib.Math.max.name, Cond.methodLink RJ2 183 Lib.Math.min.name, Cond.constant RJ2 227 (65536), Cond.methodLink RJ2 228 yJ2_indexOfChar_4cfef, Cond.static yJ2_indexOfChar_4cfef, Cond.code yJ2_indexOfChar_4cfef cJ2_indexOfChar_4cfef 4 (some .int), Cond.methodLink RJ2 96 yJ2_checkBoundsBeginEnd_d044e, Cond.static yJ2_checkBoundsBeginEnd_d044e, Cond.code yJ2_checkBoundsBeginEnd_d044e cJ2_checkBoundsBeginEnd_d044e 3 none, Cond.methodLink RJ2 48 yJ2_length_9d52b, Cond.static yJ2_length_9d52b]
def wsJ0_indexOf_7cf53_r3 : List Cond := [Cond.code yJ2_length_9d52b cJ2_length_9d52b 1 (some .int), Cond.methodLink RJ2 241 yJ0_checkBoundsBeginEnd_23922, Cond.static yJ0_checkBoundsBeginEnd_23922, Cond.code yJ0_checkBoundsBeginEnd_23922 cJ0_checkBoundsBeginEnd_23922 3 none, Cond.fieldLink RJ0 1053 "jdk/internal/util/Preconditions" "SIOOBE_FORMATTER" "Ljava/util/function/BiFunction;", Cond.methodLink RJ0 1062 yJ3_checkFromToIndex_8c36e, Cond.static yJ3_checkFromToIndex_8c36e, Cond.initialized RJ3, Cond.code yJ3_checkFromToIndex_8c36e cJ3_checkFromToIndex_8c36e 4 (some .int), Cond.methodLink RJ2 244 yJ2_indexOfCharUnsafe_4cfef, Cond.static yJ2_indexOfCharUnsafe_4cfef, Cond.code yJ2_indexOfCharUnsafe_4cfef cJ2_indexOfCharUnsafe_4cfef 5 (some .int), Cond.methodLink RJ2 71 yJ2_getChar_3b067, Cond.static yJ2_getChar_3b067, Cond.code yJ2_getChar_3b067 cJ2_getChar_3b067 2 (some .char), Cond.fieldLink RJ2 44 "java/lang/StringUTF16" "$assertionsDisabled" "Z", Cond.fieldLink RJ2 59 "java/lang/StringUTF16" "HI_BYTE_SHIFT" "I", Cond.fieldLink RJ2 63 "java/lang/StringUTF16" "LO_BYTE_SHIFT" "I", Cond.methodLink RJ2 232 yJ2_indexOfSupplementary_4cfef, Cond.static yJ2_indexOfSupplementary_4cfef, Cond.code yJ2_indexOfSupplementary_4cfef cJ2_indexOfSupplementary_4cfef 7 (some .int), Cond.methodLink RJ2 164 yJ11_isValidCodePoint_9a6ad, Cond.static yJ11_isValidCodePoint_9a6ad, Cond.initialized RJ11]
def wsJ0_indexOf_7cf53_r4 : List Cond := [Cond.code yJ11_isValidCodePoint_9a6ad cJ11_isValidCodePoint_9a6ad 2 (some .boolean), Cond.methodLink RJ2 157 yJ11_highSurrogate_5068e, Cond.static yJ11_highSurrogate_5068e, Cond.code yJ11_highSurrogate_5068e cJ11_highSurrogate_5068e 1 (some .char), Cond.constant RJ11 110 (55232), Cond.methodLink RJ2 161 yJ11_lowSurrogate_5068e, Cond.static yJ11_lowSurrogate_5068e, Cond.code yJ11_lowSurrogate_5068e cJ11_lowSurrogate_5068e 1 (some .char), Cond.constant RJ11 76 (56320)]
def wsJ0_indexOf_7cf53 : List Cond := .code yJ0_indexOf_7cf53 cJ0_indexOf_7cf53 3 (some .int) :: ((wsJ0_indexOf_7cf53_r1 ++ (wsJ0_indexOf_7cf53_r2 ++ (wsJ0_indexOf_7cf53_r3 ++ wsJ0_indexOf_7cf53_r4))))
def wsJ0_indexOf_0f7a4_r1 : List Cond := [Cond.methodLink RJ0 633 yJ0_indexOf_7cf53, Cond.instanceMethod yJ0_indexOf_7cf53, Cond.selects RJ0 yJ0_indexOf_7cf53 yJ0_indexOf_7cf53, Cond.initialized RJ0, Cond.code yJ0_indexOf_7cf53 cJ0_indexOf_7cf53 3 (some .int), Cond.fieldLink RJ0 9 "java/lang/String" "value" "[B", Cond.methodLink RJ0 492 yJ0_isLatin1_aae02, Cond.instanceMethod yJ0_isLatin1_aae02, Cond.selects RJ0 yJ0_isLatin1_aae02 yJ0_isLatin1_aae02, Cond.code yJ0_isLatin1_aae02 cJ0_isLatin1_aae02 1 (some .boolean), Cond.fieldLink RJ0 38 "java/lang/String" "COMPACT_STRINGS" "Z", Cond.fieldLink RJ0 15 "java/lang/String" "coder" "B", Cond.methodLink RJ0 505 yJ0_length_8abf5, Cond.instanceMethod yJ0_length_8abf5, Cond.selects RJ0 yJ0_length_8abf5 yJ0_length_8abf5, Cond.code yJ0_length_8abf5 cJ0_length_8abf5 1 (some .int), Cond.methodLink RJ0 335 yJ0_coder_7d493, Cond.instanceMethod yJ0_coder_7d493, Cond.selects RJ0 yJ0_coder_7d493 yJ0_coder_7d493, Cond.code yJ0_coder_7d493 cJ0_coder_7d493 1 (some .byte), Cond.methodLink RJ0 637 yJ1_indexOf_4cfef, Cond.static yJ1_indexOf_4cfef, Cond.initialized RJ1, Cond.code yJ1_indexOf_4cfef cJ1_indexOf_4cfef 4 (some .int)]
def wsJ0_indexOf_0f7a4_r2 : List Cond := [Cond.methodLink RJ1 92 Lib.Math.max.name, Cond.static Lib.Math.max.name, Cond.initialized "java/lang/Math", Cond.code Lib.Math.max.name Lib.Math.max.code 2 (some .int), Cond.methodLink RJ1 38 Lib.Math.min.name, Cond.static Lib.Math.min.name, Cond.code Lib.Math.min.name Lib.Math.min.code 2 (some .int), Cond.methodLink RJ1 88 yJ1_canEncode_9a6ad, Cond.static yJ1_canEncode_9a6ad, Cond.code yJ1_canEncode_9a6ad cJ1_canEncode_9a6ad 1 (some .boolean), Cond.methodLink RJ1 95 yJ1_indexOfChar_4cfef, Cond.static yJ1_indexOfChar_4cfef, Cond.code yJ1_indexOfChar_4cfef cJ1_indexOfChar_4cfef 6 (some .int), Cond.methodLink RJ0 640 yJ2_indexOf_4cfef, Cond.static yJ2_indexOf_4cfef, Cond.initialized RJ2, Cond.code yJ2_indexOf_4cfef cJ2_indexOf_4cfef 4 (some .int), Cond.methodLink RJ2 224 Lib.Math.max.name, Cond.methodLink RJ2 183 Lib.Math.min.name, Cond.constant RJ2 227 (65536), Cond.methodLink RJ2 228 yJ2_indexOfChar_4cfef, Cond.static yJ2_indexOfChar_4cfef, Cond.code yJ2_indexOfChar_4cfef cJ2_indexOfChar_4cfef 4 (some .int), Cond.methodLink RJ2 96 yJ2_checkBoundsBeginEnd_d044e]
def wsJ0_indexOf_0f7a4_r3 : List Cond := [Cond.static yJ2_checkBoundsBeginEnd_d044e, Cond.code yJ2_checkBoundsBeginEnd_d044e cJ2_checkBoundsBeginEnd_d044e 3 none, Cond.methodLink RJ2 48 yJ2_length_9d52b, Cond.static yJ2_length_9d52b, Cond.code yJ2_length_9d52b cJ2_length_9d52b 1 (some .int), Cond.methodLink RJ2 241 yJ0_checkBoundsBeginEnd_23922, Cond.static yJ0_checkBoundsBeginEnd_23922, Cond.code yJ0_checkBoundsBeginEnd_23922 cJ0_checkBoundsBeginEnd_23922 3 none, Cond.fieldLink RJ0 1053 "jdk/internal/util/Preconditions" "SIOOBE_FORMATTER" "Ljava/util/function/BiFunction;", Cond.methodLink RJ0 1062 yJ3_checkFromToIndex_8c36e, Cond.static yJ3_checkFromToIndex_8c36e, Cond.initialized RJ3, Cond.code yJ3_checkFromToIndex_8c36e cJ3_checkFromToIndex_8c36e 4 (some .int), Cond.methodLink RJ2 244 yJ2_indexOfCharUnsafe_4cfef, Cond.static yJ2_indexOfCharUnsafe_4cfef, Cond.code yJ2_indexOfCharUnsafe_4cfef cJ2_indexOfCharUnsafe_4cfef 5 (some .int), Cond.methodLink RJ2 71 yJ2_getChar_3b067, Cond.static yJ2_getChar_3b067, Cond.code yJ2_getChar_3b067 cJ2_getChar_3b067 2 (some .char), Cond.fieldLink RJ2 44 "java/lang/StringUTF16" "$assertionsDisabled" "Z", Cond.fieldLink RJ2 59 "java/lang/StringUTF16" "HI_BYTE_SHIFT" "I", Cond.fieldLink RJ2 63 "java/lang/StringUTF16" "LO_BYTE_SHIFT" "I", Cond.methodLink RJ2 232 yJ2_indexOfSupplementary_4cfef, Cond.static yJ2_indexOfSupplementary_4cfef]
def wsJ0_indexOf_0f7a4_r4 : List Cond := [Cond.code yJ2_indexOfSupplementary_4cfef cJ2_indexOfSupplementary_4cfef 7 (some .int), Cond.methodLink RJ2 164 yJ11_isValidCodePoint_9a6ad, Cond.static yJ11_isValidCodePoint_9a6ad, Cond.initialized RJ11, Cond.code yJ11_isValidCodePoint_9a6ad cJ11_isValidCodePoint_9a6ad 2 (some .boolean), Cond.methodLink RJ2 157 yJ11_highSurrogate_5068e, Cond.static yJ11_highSurrogate_5068e, Cond.code yJ11_highSurrogate_5068e cJ11_highSurrogate_5068e 1 (some .char), Cond.constant RJ11 110 (55232), Cond.methodLink RJ2 161 yJ11_lowSurrogate_5068e, Cond.static yJ11_lowSurrogate_5068e, Cond.code yJ11_lowSurrogate_5068e cJ11_lowSurrogate_5068e 1 (some .char), Cond.constant RJ11 76 (56320)]
def wsJ0_indexOf_0f7a4 : List Cond := .code yJ0_indexOf_0f7a4 cJ0_indexOf_0f7a4 2 (some .int) :: ((wsJ0_indexOf_0f7a4_r1 ++ (wsJ0_indexOf_0f7a4_r2 ++ (wsJ0_indexOf_0f7a4_r3 ++ wsJ0_indexOf_0f7a4_r4))))
def wsX9_readSign_r1 : List Cond := [Cond.fieldLink RX9 15 "SoldHouse$Tokens" "tape" "LSoldHouse$Tape;", Cond.fieldLink RX9 47 "SoldHouse$Tape" "bytes" "[B", Cond.fieldLink RX9 35 "SoldHouse$Tokens" "behind" "I", Cond.fieldLink RX9 76 "SoldHouse$Tokens" "value" "I", Cond.fieldLink RX9 58 "SoldHouse$Tokens" "kind" "I", Cond.methodLink RX9 88 yJ0_indexOf_0f7a4, Cond.instanceMethod yJ0_indexOf_0f7a4, Cond.selects RJ0 yJ0_indexOf_0f7a4 yJ0_indexOf_0f7a4, Cond.initialized RJ0, Cond.code yJ0_indexOf_0f7a4 cJ0_indexOf_0f7a4 2 (some .int), Cond.methodLink RJ0 633 yJ0_indexOf_7cf53, Cond.instanceMethod yJ0_indexOf_7cf53, Cond.selects RJ0 yJ0_indexOf_7cf53 yJ0_indexOf_7cf53, Cond.code yJ0_indexOf_7cf53 cJ0_indexOf_7cf53 3 (some .int), Cond.fieldLink RJ0 9 "java/lang/String" "value" "[B", Cond.methodLink RJ0 492 yJ0_isLatin1_aae02, Cond.instanceMethod yJ0_isLatin1_aae02, Cond.selects RJ0 yJ0_isLatin1_aae02 yJ0_isLatin1_aae02, Cond.code yJ0_isLatin1_aae02 cJ0_isLatin1_aae02 1 (some .boolean), Cond.fieldLink RJ0 38 "java/lang/String" "COMPACT_STRINGS" "Z", Cond.fieldLink RJ0 15 "java/lang/String" "coder" "B", Cond.methodLink RJ0 505 yJ0_length_8abf5, Cond.instanceMethod yJ0_length_8abf5, Cond.selects RJ0 yJ0_length_8abf5 yJ0_length_8abf5]
def wsX9_readSign_r2 : List Cond := [Cond.code yJ0_length_8abf5 cJ0_length_8abf5 1 (some .int), Cond.methodLink RJ0 335 yJ0_coder_7d493, Cond.instanceMethod yJ0_coder_7d493, Cond.selects RJ0 yJ0_coder_7d493 yJ0_coder_7d493, Cond.code yJ0_coder_7d493 cJ0_coder_7d493 1 (some .byte), Cond.methodLink RJ0 637 yJ1_indexOf_4cfef, Cond.static yJ1_indexOf_4cfef, Cond.initialized RJ1, Cond.code yJ1_indexOf_4cfef cJ1_indexOf_4cfef 4 (some .int), Cond.methodLink RJ1 92 Lib.Math.max.name, Cond.static Lib.Math.max.name, Cond.initialized "java/lang/Math", Cond.code Lib.Math.max.name Lib.Math.max.code 2 (some .int), Cond.methodLink RJ1 38 Lib.Math.min.name, Cond.static Lib.Math.min.name, Cond.code Lib.Math.min.name Lib.Math.min.code 2 (some .int), Cond.methodLink RJ1 88 yJ1_canEncode_9a6ad, Cond.static yJ1_canEncode_9a6ad, Cond.code yJ1_canEncode_9a6ad cJ1_canEncode_9a6ad 1 (some .boolean), Cond.methodLink RJ1 95 yJ1_indexOfChar_4cfef, Cond.static yJ1_indexOfChar_4cfef, Cond.code yJ1_indexOfChar_4cfef cJ1_indexOfChar_4cfef 6 (some .int), Cond.methodLink RJ0 640 yJ2_indexOf_4cfef, Cond.static yJ2_indexOf_4cfef]
def wsX9_readSign_r3 : List Cond := [Cond.initialized RJ2, Cond.code yJ2_indexOf_4cfef cJ2_indexOf_4cfef 4 (some .int), Cond.methodLink RJ2 224 Lib.Math.max.name, Cond.methodLink RJ2 183 Lib.Math.min.name, Cond.constant RJ2 227 (65536), Cond.methodLink RJ2 228 yJ2_indexOfChar_4cfef, Cond.static yJ2_indexOfChar_4cfef, Cond.code yJ2_indexOfChar_4cfef cJ2_indexOfChar_4cfef 4 (some .int), Cond.methodLink RJ2 96 yJ2_checkBoundsBeginEnd_d044e, Cond.static yJ2_checkBoundsBeginEnd_d044e, Cond.code yJ2_checkBoundsBeginEnd_d044e cJ2_checkBoundsBeginEnd_d044e 3 none, Cond.methodLink RJ2 48 yJ2_length_9d52b, Cond.static yJ2_length_9d52b, Cond.code yJ2_length_9d52b cJ2_length_9d52b 1 (some .int), Cond.methodLink RJ2 241 yJ0_checkBoundsBeginEnd_23922, Cond.static yJ0_checkBoundsBeginEnd_23922, Cond.code yJ0_checkBoundsBeginEnd_23922 cJ0_checkBoundsBeginEnd_23922 3 none, Cond.fieldLink RJ0 1053 "jdk/internal/util/Preconditions" "SIOOBE_FORMATTER" "Ljava/util/function/BiFunction;", Cond.methodLink RJ0 1062 yJ3_checkFromToIndex_8c36e, Cond.static yJ3_checkFromToIndex_8c36e, Cond.initialized RJ3, Cond.code yJ3_checkFromToIndex_8c36e cJ3_checkFromToIndex_8c36e 4 (some .int), Cond.methodLink RJ2 244 yJ2_indexOfCharUnsafe_4cfef, Cond.static yJ2_indexOfCharUnsafe_4cfef]
def wsX9_readSign_r4 : List Cond := [Cond.code yJ2_indexOfCharUnsafe_4cfef cJ2_indexOfCharUnsafe_4cfef 5 (some .int), Cond.methodLink RJ2 71 yJ2_getChar_3b067, Cond.static yJ2_getChar_3b067, Cond.code yJ2_getChar_3b067 cJ2_getChar_3b067 2 (some .char), Cond.fieldLink RJ2 44 "java/lang/StringUTF16" "$assertionsDisabled" "Z", Cond.fieldLink RJ2 59 "java/lang/StringUTF16" "HI_BYTE_SHIFT" "I", Cond.fieldLink RJ2 63 "java/lang/StringUTF16" "LO_BYTE_SHIFT" "I", Cond.methodLink RJ2 232 yJ2_indexOfSupplementary_4cfef, Cond.static yJ2_indexOfSupplementary_4cfef, Cond.code yJ2_indexOfSupplementary_4cfef cJ2_indexOfSupplementary_4cfef 7 (some .int), Cond.methodLink RJ2 164 yJ11_isValidCodePoint_9a6ad, Cond.static yJ11_isValidCodePoint_9a6ad, Cond.initialized RJ11, Cond.code yJ11_isValidCodePoint_9a6ad cJ11_isValidCodePoint_9a6ad 2 (some .boolean), Cond.methodLink RJ2 157 yJ11_highSurrogate_5068e, Cond.static yJ11_highSurrogate_5068e, Cond.code yJ11_highSurrogate_5068e cJ11_highSurrogate_5068e 1 (some .char), Cond.constant RJ11 110 (55232), Cond.methodLink RJ2 161 yJ11_lowSurrogate_5068e, Cond.static yJ11_lowSurrogate_5068e, Cond.code yJ11_lowSurrogate_5068e cJ11_lowSurrogate_5068e 1 (some .char), Cond.constant RJ11 76 (56320)]
def wsX9_readSign : List Cond := .code yX9_readSign cX9_readSign 1 none :: ((wsX9_readSign_r1 ++ (wsX9_readSign_r2 ++ (wsX9_readSign_r3 ++ wsX9_readSign_r4))) ++ wsX90 ++ wsX80)
def wsX9_advance_r1 : List Cond := [Cond.fieldLink RX9 35 "SoldHouse$Tokens" "behind" "I", Cond.fieldLink RX9 15 "SoldHouse$Tokens" "tape" "LSoldHouse$Tape;", Cond.fieldLink RX9 42 "SoldHouse$Tape" "size" "I", Cond.fieldLink RX9 47 "SoldHouse$Tape" "bytes" "[B", Cond.fieldLink RX9 55 "SoldHouse$Tokens" "place" "I", Cond.fieldLink RX9 58 "SoldHouse$Tokens" "kind" "I", Cond.methodLink RX9 51 yX9_isBlank, Cond.static yX9_isBlank, Cond.initialized RX9, Cond.code yX9_isBlank cX9_isBlank 1 (some .boolean), Cond.methodLink RX9 61 yX9_isLetter, Cond.static yX9_isLetter, Cond.code yX9_isLetter cX9_isLetter 1 (some .boolean), Cond.methodLink RX9 64 yX9_readWord, Cond.instanceMethod yX9_readWord, Cond.selects RX9 yX9_readWord yX9_readWord, Cond.code yX9_readWord cX9_readWord 1 none, Cond.fieldLink RX9 79 "SoldHouse$Tokens" "word" "J", Cond.fieldLink RX9 76 "SoldHouse$Tokens" "value" "I", Cond.methodLink RX9 31 yX9_withLetter, Cond.static yX9_withLetter, Cond.code yX9_withLetter cX9_withLetter 3 (some .long), Cond.constantLong RX9 92 (32), Cond.methodLink RX9 83 yX9_numberOfOwn]
def wsX9_advance_r2 : List Cond := [Cond.instanceMethod yX9_numberOfOwn, Cond.selects RX9 yX9_numberOfOwn yX9_numberOfOwn, Cond.code yX9_numberOfOwn cX9_numberOfOwn 2 (some .int), Cond.fieldLink RX9 11 "SoldHouse$Tokens" "own" "[J", Cond.methodLink RX9 67 yX9_isDigit, Cond.static yX9_isDigit, Cond.code yX9_isDigit cX9_isDigit 1 (some .boolean), Cond.methodLink RX9 70 yX9_readNumber, Cond.instanceMethod yX9_readNumber, Cond.selects RX9 yX9_readNumber yX9_readNumber, Cond.code yX9_readNumber cX9_readNumber 2 none, Cond.methodLink RX9 73 yX9_readSign, Cond.instanceMethod yX9_readSign, Cond.selects RX9 yX9_readSign yX9_readSign, Cond.code yX9_readSign cX9_readSign 1 none, Cond.methodLink RX9 88 yJ0_indexOf_0f7a4, Cond.instanceMethod yJ0_indexOf_0f7a4, Cond.selects RJ0 yJ0_indexOf_0f7a4 yJ0_indexOf_0f7a4, Cond.initialized RJ0, Cond.code yJ0_indexOf_0f7a4 cJ0_indexOf_0f7a4 2 (some .int), Cond.methodLink RJ0 633 yJ0_indexOf_7cf53, Cond.instanceMethod yJ0_indexOf_7cf53, Cond.selects RJ0 yJ0_indexOf_7cf53 yJ0_indexOf_7cf53, Cond.code yJ0_indexOf_7cf53 cJ0_indexOf_7cf53 3 (some .int)]
def wsX9_advance_r3 : List Cond := [Cond.fieldLink RJ0 9 "java/lang/String" "value" "[B", Cond.methodLink RJ0 492 yJ0_isLatin1_aae02, Cond.instanceMethod yJ0_isLatin1_aae02, Cond.selects RJ0 yJ0_isLatin1_aae02 yJ0_isLatin1_aae02, Cond.code yJ0_isLatin1_aae02 cJ0_isLatin1_aae02 1 (some .boolean), Cond.fieldLink RJ0 38 "java/lang/String" "COMPACT_STRINGS" "Z", Cond.fieldLink RJ0 15 "java/lang/String" "coder" "B", Cond.methodLink RJ0 505 yJ0_length_8abf5, Cond.instanceMethod yJ0_length_8abf5, Cond.selects RJ0 yJ0_length_8abf5 yJ0_length_8abf5, Cond.code yJ0_length_8abf5 cJ0_length_8abf5 1 (some .int), Cond.methodLink RJ0 335 yJ0_coder_7d493, Cond.instanceMethod yJ0_coder_7d493, Cond.selects RJ0 yJ0_coder_7d493 yJ0_coder_7d493, Cond.code yJ0_coder_7d493 cJ0_coder_7d493 1 (some .byte), Cond.methodLink RJ0 637 yJ1_indexOf_4cfef, Cond.static yJ1_indexOf_4cfef, Cond.initialized RJ1, Cond.code yJ1_indexOf_4cfef cJ1_indexOf_4cfef 4 (some .int), Cond.methodLink RJ1 92 Lib.Math.max.name, Cond.static Lib.Math.max.name, Cond.initialized "java/lang/Math", Cond.code Lib.Math.max.name Lib.Math.max.code 2 (some .int), Cond.methodLink RJ1 38 Lib.Math.min.name]
def wsX9_advance_r4 : List Cond := [Cond.static Lib.Math.min.name, Cond.code Lib.Math.min.name Lib.Math.min.code 2 (some .int), Cond.methodLink RJ1 88 yJ1_canEncode_9a6ad, Cond.static yJ1_canEncode_9a6ad, Cond.code yJ1_canEncode_9a6ad cJ1_canEncode_9a6ad 1 (some .boolean), Cond.methodLink RJ1 95 yJ1_indexOfChar_4cfef, Cond.static yJ1_indexOfChar_4cfef, Cond.code yJ1_indexOfChar_4cfef cJ1_indexOfChar_4cfef 6 (some .int), Cond.methodLink RJ0 640 yJ2_indexOf_4cfef, Cond.static yJ2_indexOf_4cfef, Cond.initialized RJ2, Cond.code yJ2_indexOf_4cfef cJ2_indexOf_4cfef 4 (some .int), Cond.methodLink RJ2 224 Lib.Math.max.name, Cond.methodLink RJ2 183 Lib.Math.min.name, Cond.constant RJ2 227 (65536), Cond.methodLink RJ2 228 yJ2_indexOfChar_4cfef, Cond.static yJ2_indexOfChar_4cfef, Cond.code yJ2_indexOfChar_4cfef cJ2_indexOfChar_4cfef 4 (some .int), Cond.methodLink RJ2 96 yJ2_checkBoundsBeginEnd_d044e, Cond.static yJ2_checkBoundsBeginEnd_d044e, Cond.code yJ2_checkBoundsBeginEnd_d044e cJ2_checkBoundsBeginEnd_d044e 3 none, Cond.methodLink RJ2 48 yJ2_length_9d52b, Cond.static yJ2_length_9d52b, Cond.code yJ2_length_9d52b cJ2_length_9d52b 1 (some .int)]
def wsX9_advance_r5 : List Cond := [Cond.methodLink RJ2 241 yJ0_checkBoundsBeginEnd_23922, Cond.static yJ0_checkBoundsBeginEnd_23922, Cond.code yJ0_checkBoundsBeginEnd_23922 cJ0_checkBoundsBeginEnd_23922 3 none, Cond.fieldLink RJ0 1053 "jdk/internal/util/Preconditions" "SIOOBE_FORMATTER" "Ljava/util/function/BiFunction;", Cond.methodLink RJ0 1062 yJ3_checkFromToIndex_8c36e, Cond.static yJ3_checkFromToIndex_8c36e, Cond.initialized RJ3, Cond.code yJ3_checkFromToIndex_8c36e cJ3_checkFromToIndex_8c36e 4 (some .int), Cond.methodLink RJ2 244 yJ2_indexOfCharUnsafe_4cfef, Cond.static yJ2_indexOfCharUnsafe_4cfef, Cond.code yJ2_indexOfCharUnsafe_4cfef cJ2_indexOfCharUnsafe_4cfef 5 (some .int), Cond.methodLink RJ2 71 yJ2_getChar_3b067, Cond.static yJ2_getChar_3b067, Cond.code yJ2_getChar_3b067 cJ2_getChar_3b067 2 (some .char), Cond.fieldLink RJ2 44 "java/lang/StringUTF16" "$assertionsDisabled" "Z", Cond.fieldLink RJ2 59 "java/lang/StringUTF16" "HI_BYTE_SHIFT" "I", Cond.fieldLink RJ2 63 "java/lang/StringUTF16" "LO_BYTE_SHIFT" "I", Cond.methodLink RJ2 232 yJ2_indexOfSupplementary_4cfef, Cond.static yJ2_indexOfSupplementary_4cfef, Cond.code yJ2_indexOfSupplementary_4cfef cJ2_indexOfSupplementary_4cfef 7 (some .int), Cond.methodLink RJ2 164 yJ11_isValidCodePoint_9a6ad, Cond.static yJ11_isValidCodePoint_9a6ad, Cond.initialized RJ11, Cond.code yJ11_isValidCodePoint_9a6ad cJ11_isValidCodePoint_9a6ad 2 (some .boolean)]
def wsX9_advance_r6 : List Cond := [Cond.methodLink RJ2 157 yJ11_highSurrogate_5068e, Cond.static yJ11_highSurrogate_5068e, Cond.code yJ11_highSurrogate_5068e cJ11_highSurrogate_5068e 1 (some .char), Cond.constant RJ11 110 (55232), Cond.methodLink RJ2 161 yJ11_lowSurrogate_5068e, Cond.static yJ11_lowSurrogate_5068e, Cond.code yJ11_lowSurrogate_5068e cJ11_lowSurrogate_5068e 1 (some .char), Cond.constant RJ11 76 (56320)]
def wsX9_advance : List Cond := .code yX9_advance cX9_advance 1 none :: ((wsX9_advance_r1 ++ (wsX9_advance_r2 ++ (wsX9_advance_r3 ++ (wsX9_advance_r4 ++ (wsX9_advance_r5 ++ wsX9_advance_r6))))) ++ wsX90 ++ wsX80)
theorem dX4_countWalks_0 : decode cX4_countWalks 0 = .ok (.aload_n 0, 1) := by decide +kernel
theorem dX4_countWalks_1 : decode cX4_countWalks 1 = .ok (.iload_n 1, 1) := by decide +kernel
theorem dX4_countWalks_2 : decode cX4_countWalks 2 = .ok (.invokevirtual 45, 3) := by decide +kernel
theorem dX4_countWalks_5 : decode cX4_countWalks 5 = .ok (.iconst 0, 1) := by decide +kernel
theorem dX4_countWalks_6 : decode cX4_countWalks 6 = .ok (.istore_n 2, 1) := by decide +kernel
theorem dX4_countWalks_7 : decode cX4_countWalks 7 = .ok (.iload_n 2, 1) := by decide +kernel
theorem dX4_countWalks_8 : decode cX4_countWalks 8 = .ok (.bipush 8, 2) := by decide +kernel
theorem dX4_countWalks_10 : decode cX4_countWalks 10 = .ok (.if_icmp .ge 61, 3) := by decide +kernel
theorem dX4_countWalks_13 : decode cX4_countWalks 13 = .ok (.iconst 0, 1) := by decide +kernel
theorem dX4_countWalks_14 : decode cX4_countWalks 14 = .ok (.istore_n 3, 1) := by decide +kernel
theorem dX4_countWalks_15 : decode cX4_countWalks 15 = .ok (.iload_n 3, 1) := by decide +kernel
theorem dX4_countWalks_16 : decode cX4_countWalks 16 = .ok (.aload_n 0, 1) := by decide +kernel
theorem dX4_countWalks_17 : decode cX4_countWalks 17 = .ok (.getfield 33, 3) := by decide +kernel
theorem dX4_countWalks_20 : decode cX4_countWalks 20 = .ok (.getfield 49, 3) := by decide +kernel
theorem dX4_countWalks_23 : decode cX4_countWalks 23 = .ok (.getfield 55, 3) := by decide +kernel
theorem dX4_countWalks_26 : decode cX4_countWalks 26 = .ok (.if_icmp .ge 39, 3) := by decide +kernel
theorem dX4_countWalks_29 : decode cX4_countWalks 29 = .ok (.aload_n 0, 1) := by decide +kernel
theorem dX4_countWalks_30 : decode cX4_countWalks 30 = .ok (.getfield 27, 3) := by decide +kernel
theorem dX4_countWalks_33 : decode cX4_countWalks 33 = .ok (.iload_n 2, 1) := by decide +kernel
theorem dX4_countWalks_34 : decode cX4_countWalks 34 = .ok (.bipush 8, 2) := by decide +kernel
theorem dX4_countWalks_36 : decode cX4_countWalks 36 = .ok (.imul, 1) := by decide +kernel
theorem dX4_countWalks_37 : decode cX4_countWalks 37 = .ok (.iload_n 3, 1) := by decide +kernel
theorem dX4_countWalks_38 : decode cX4_countWalks 38 = .ok (.iadd, 1) := by decide +kernel
theorem dX4_countWalks_39 : decode cX4_countWalks 39 = .ok (.aload_n 0, 1) := by decide +kernel
theorem dX4_countWalks_40 : decode cX4_countWalks 40 = .ok (.iload_n 2, 1) := by decide +kernel
theorem dX4_countWalks_41 : decode cX4_countWalks 41 = .ok (.iload_n 3, 1) := by decide +kernel
theorem dX4_countWalks_42 : decode cX4_countWalks 42 = .ok (.invokevirtual 59, 3) := by decide +kernel
theorem dX4_countWalks_45 : decode cX4_countWalks 45 = .ok (.ifCond .eq 12, 3) := by decide +kernel
theorem dX4_countWalks_48 : decode cX4_countWalks 48 = .ok (.aload_n 0, 1) := by decide +kernel
theorem dX4_countWalks_49 : decode cX4_countWalks 49 = .ok (.iload_n 2, 1) := by decide +kernel
theorem dX4_countWalks_50 : decode cX4_countWalks 50 = .ok (.iload_n 3, 1) := by decide +kernel
theorem dX4_countWalks_51 : decode cX4_countWalks 51 = .ok (.invokevirtual 63, 3) := by decide +kernel
theorem dX4_countWalks_54 : decode cX4_countWalks 54 = .ok (.goto 4, 3) := by decide +kernel
theorem dX4_countWalks_57 : decode cX4_countWalks 57 = .ok (.iconst 0, 1) := by decide +kernel
theorem dX4_countWalks_58 : decode cX4_countWalks 58 = .ok (.iastore, 1) := by decide +kernel
theorem dX4_countWalks_59 : decode cX4_countWalks 59 = .ok (.iinc 3 1, 3) := by decide +kernel
theorem dX4_countWalks_62 : decode cX4_countWalks 62 = .ok (.goto (-47), 3) := by decide +kernel
theorem dX4_countWalks_65 : decode cX4_countWalks 65 = .ok (.iinc 2 1, 3) := by decide +kernel
theorem dX4_countWalks_68 : decode cX4_countWalks 68 = .ok (.goto (-61), 3) := by decide +kernel
theorem dX4_countWalks_71 : decode cX4_countWalks 71 = .ok (.bipush 7, 2) := by decide +kernel
theorem dX4_countWalks_73 : decode cX4_countWalks 73 = .ok (.istore_n 2, 1) := by decide +kernel
theorem dX4_countWalks_74 : decode cX4_countWalks 74 = .ok (.iload_n 2, 1) := by decide +kernel
theorem dX4_countWalks_75 : decode cX4_countWalks 75 = .ok (.ifCond .lt 61, 3) := by decide +kernel
theorem dX4_countWalks_78 : decode cX4_countWalks 78 = .ok (.iconst 0, 1) := by decide +kernel
theorem dX4_countWalks_79 : decode cX4_countWalks 79 = .ok (.istore_n 3, 1) := by decide +kernel
theorem dX4_countWalks_80 : decode cX4_countWalks 80 = .ok (.iload_n 3, 1) := by decide +kernel
theorem dX4_countWalks_81 : decode cX4_countWalks 81 = .ok (.aload_n 0, 1) := by decide +kernel
theorem dX4_countWalks_82 : decode cX4_countWalks 82 = .ok (.getfield 33, 3) := by decide +kernel
theorem dX4_countWalks_85 : decode cX4_countWalks 85 = .ok (.getfield 49, 3) := by decide +kernel
theorem dX4_countWalks_88 : decode cX4_countWalks 88 = .ok (.getfield 55, 3) := by decide +kernel
theorem dX4_countWalks_91 : decode cX4_countWalks 91 = .ok (.if_icmp .ge 39, 3) := by decide +kernel
theorem dX4_countWalks_94 : decode cX4_countWalks 94 = .ok (.aload_n 0, 1) := by decide +kernel
theorem dX4_countWalks_95 : decode cX4_countWalks 95 = .ok (.getfield 30, 3) := by decide +kernel
theorem dX4_countWalks_98 : decode cX4_countWalks 98 = .ok (.iload_n 2, 1) := by decide +kernel
theorem dX4_countWalks_99 : decode cX4_countWalks 99 = .ok (.bipush 8, 2) := by decide +kernel
theorem dX4_countWalks_101 : decode cX4_countWalks 101 = .ok (.imul, 1) := by decide +kernel
theorem dX4_countWalks_102 : decode cX4_countWalks 102 = .ok (.iload_n 3, 1) := by decide +kernel
theorem dX4_countWalks_103 : decode cX4_countWalks 103 = .ok (.iadd, 1) := by decide +kernel
theorem dX4_countWalks_104 : decode cX4_countWalks 104 = .ok (.aload_n 0, 1) := by decide +kernel
theorem dX4_countWalks_105 : decode cX4_countWalks 105 = .ok (.iload_n 2, 1) := by decide +kernel
theorem dX4_countWalks_106 : decode cX4_countWalks 106 = .ok (.iload_n 3, 1) := by decide +kernel
theorem dX4_countWalks_107 : decode cX4_countWalks 107 = .ok (.invokevirtual 59, 3) := by decide +kernel
theorem dX4_countWalks_110 : decode cX4_countWalks 110 = .ok (.ifCond .eq 12, 3) := by decide +kernel
theorem dX4_countWalks_113 : decode cX4_countWalks 113 = .ok (.aload_n 0, 1) := by decide +kernel
theorem dX4_countWalks_114 : decode cX4_countWalks 114 = .ok (.iload_n 2, 1) := by decide +kernel
theorem dX4_countWalks_115 : decode cX4_countWalks 115 = .ok (.iload_n 3, 1) := by decide +kernel
theorem dX4_countWalks_116 : decode cX4_countWalks 116 = .ok (.invokevirtual 67, 3) := by decide +kernel
theorem dX4_countWalks_119 : decode cX4_countWalks 119 = .ok (.goto 4, 3) := by decide +kernel
theorem dX4_countWalks_122 : decode cX4_countWalks 122 = .ok (.iconst 0, 1) := by decide +kernel
theorem dX4_countWalks_123 : decode cX4_countWalks 123 = .ok (.iastore, 1) := by decide +kernel
theorem dX4_countWalks_124 : decode cX4_countWalks 124 = .ok (.iinc 3 1, 3) := by decide +kernel
theorem dX4_countWalks_127 : decode cX4_countWalks 127 = .ok (.goto (-47), 3) := by decide +kernel
theorem dX4_countWalks_130 : decode cX4_countWalks 130 = .ok (.iinc 2 (-1), 3) := by decide +kernel
theorem dX4_countWalks_133 : decode cX4_countWalks 133 = .ok (.goto (-59), 3) := by decide +kernel
theorem dX4_countWalks_136 : decode cX4_countWalks 136 = .ok (.iconst 0, 1) := by decide +kernel
theorem dX4_countWalks_137 : decode cX4_countWalks 137 = .ok (.istore_n 2, 1) := by decide +kernel
theorem dX4_countWalks_138 : decode cX4_countWalks 138 = .ok (.iconst 0, 1) := by decide +kernel
theorem dX4_countWalks_139 : decode cX4_countWalks 139 = .ok (.istore_n 3, 1) := by decide +kernel
theorem dX4_countWalks_140 : decode cX4_countWalks 140 = .ok (.iload_n 3, 1) := by decide +kernel
theorem dX4_countWalks_141 : decode cX4_countWalks 141 = .ok (.aload_n 0, 1) := by decide +kernel
theorem dX4_countWalks_142 : decode cX4_countWalks 142 = .ok (.getfield 33, 3) := by decide +kernel
theorem dX4_countWalks_145 : decode cX4_countWalks 145 = .ok (.getfield 49, 3) := by decide +kernel
theorem dX4_countWalks_148 : decode cX4_countWalks 148 = .ok (.getfield 55, 3) := by decide +kernel
theorem dX4_countWalks_151 : decode cX4_countWalks 151 = .ok (.if_icmp .ge 18, 3) := by decide +kernel
theorem dX4_countWalks_154 : decode cX4_countWalks 154 = .ok (.iload_n 2, 1) := by decide +kernel
theorem dX4_countWalks_155 : decode cX4_countWalks 155 = .ok (.aload_n 0, 1) := by decide +kernel
theorem dX4_countWalks_156 : decode cX4_countWalks 156 = .ok (.getfield 30, 3) := by decide +kernel
theorem dX4_countWalks_159 : decode cX4_countWalks 159 = .ok (.iload_n 3, 1) := by decide +kernel
theorem dX4_countWalks_160 : decode cX4_countWalks 160 = .ok (.iaload, 1) := by decide +kernel
theorem dX4_countWalks_161 : decode cX4_countWalks 161 = .ok (.iadd, 1) := by decide +kernel
theorem dX4_countWalks_162 : decode cX4_countWalks 162 = .ok (.istore_n 2, 1) := by decide +kernel
theorem dX4_countWalks_163 : decode cX4_countWalks 163 = .ok (.iinc 3 1, 3) := by decide +kernel
theorem dX4_countWalks_166 : decode cX4_countWalks 166 = .ok (.goto (-26), 3) := by decide +kernel
theorem dX4_countWalks_169 : decode cX4_countWalks 169 = .ok (.iload_n 2, 1) := by decide +kernel
theorem dX4_countWalks_170 : decode cX4_countWalks 170 = .ok (.ireturn, 1) := by decide +kernel
theorem dX4_onlyRoom_0 : decode cX4_onlyRoom 0 = .ok (.iconst (-1), 1) := by decide +kernel
theorem dX4_onlyRoom_1 : decode cX4_onlyRoom 1 = .ok (.istore_n 2, 1) := by decide +kernel
theorem dX4_onlyRoom_2 : decode cX4_onlyRoom 2 = .ok (.iconst 0, 1) := by decide +kernel
theorem dX4_onlyRoom_3 : decode cX4_onlyRoom 3 = .ok (.istore_n 3, 1) := by decide +kernel
theorem dX4_onlyRoom_4 : decode cX4_onlyRoom 4 = .ok (.iload_n 3, 1) := by decide +kernel
theorem dX4_onlyRoom_5 : decode cX4_onlyRoom 5 = .ok (.aload_n 0, 1) := by decide +kernel
theorem dX4_onlyRoom_6 : decode cX4_onlyRoom 6 = .ok (.getfield 33, 3) := by decide +kernel
theorem dX4_onlyRoom_9 : decode cX4_onlyRoom 9 = .ok (.getfield 49, 3) := by decide +kernel
theorem dX4_onlyRoom_12 : decode cX4_onlyRoom 12 = .ok (.getfield 55, 3) := by decide +kernel
theorem dX4_onlyRoom_15 : decode cX4_onlyRoom 15 = .ok (.if_icmp .ge 28, 3) := by decide +kernel
theorem dX4_onlyRoom_18 : decode cX4_onlyRoom 18 = .ok (.aload_n 0, 1) := by decide +kernel
theorem dX4_onlyRoom_19 : decode cX4_onlyRoom 19 = .ok (.iload_n 1, 1) := by decide +kernel
theorem dX4_onlyRoom_20 : decode cX4_onlyRoom 20 = .ok (.iload_n 3, 1) := by decide +kernel
theorem dX4_onlyRoom_21 : decode cX4_onlyRoom 21 = .ok (.invokevirtual 70, 3) := by decide +kernel
theorem dX4_onlyRoom_24 : decode cX4_onlyRoom 24 = .ok (.ifCond .le 13, 3) := by decide +kernel
theorem dX4_onlyRoom_27 : decode cX4_onlyRoom 27 = .ok (.iload_n 2, 1) := by decide +kernel
theorem dX4_onlyRoom_28 : decode cX4_onlyRoom 28 = .ok (.iconst (-1), 1) := by decide +kernel
theorem dX4_onlyRoom_29 : decode cX4_onlyRoom 29 = .ok (.if_icmp .eq 6, 3) := by decide +kernel
theorem dX4_onlyRoom_32 : decode cX4_onlyRoom 32 = .ok (.bipush (-2), 2) := by decide +kernel
theorem dX4_onlyRoom_34 : decode cX4_onlyRoom 34 = .ok (.ireturn, 1) := by decide +kernel
theorem dX4_onlyRoom_35 : decode cX4_onlyRoom 35 = .ok (.iload_n 3, 1) := by decide +kernel
theorem dX4_onlyRoom_36 : decode cX4_onlyRoom 36 = .ok (.istore_n 2, 1) := by decide +kernel
theorem dX4_onlyRoom_37 : decode cX4_onlyRoom 37 = .ok (.iinc 3 1, 3) := by decide +kernel
theorem dX4_onlyRoom_40 : decode cX4_onlyRoom 40 = .ok (.goto (-36), 3) := by decide +kernel
theorem dX4_onlyRoom_43 : decode cX4_onlyRoom 43 = .ok (.iload_n 2, 1) := by decide +kernel
theorem dX4_onlyRoom_44 : decode cX4_onlyRoom 44 = .ok (.ireturn, 1) := by decide +kernel
theorem dX4_mostLeft_0 : decode cX4_mostLeft 0 = .ok (.iconst 0, 1) := by decide +kernel
theorem dX4_mostLeft_1 : decode cX4_mostLeft 1 = .ok (.istore_n 2, 1) := by decide +kernel
theorem dX4_mostLeft_2 : decode cX4_mostLeft 2 = .ok (.iconst 0, 1) := by decide +kernel
theorem dX4_mostLeft_3 : decode cX4_mostLeft 3 = .ok (.istore_n 3, 1) := by decide +kernel
theorem dX4_mostLeft_4 : decode cX4_mostLeft 4 = .ok (.iload_n 3, 1) := by decide +kernel
theorem dX4_mostLeft_5 : decode cX4_mostLeft 5 = .ok (.aload_n 0, 1) := by decide +kernel
theorem dX4_mostLeft_6 : decode cX4_mostLeft 6 = .ok (.getfield 33, 3) := by decide +kernel
theorem dX4_mostLeft_9 : decode cX4_mostLeft 9 = .ok (.getfield 49, 3) := by decide +kernel
theorem dX4_mostLeft_12 : decode cX4_mostLeft 12 = .ok (.getfield 55, 3) := by decide +kernel
theorem dX4_mostLeft_15 : decode cX4_mostLeft 15 = .ok (.if_icmp .ge 20, 3) := by decide +kernel
theorem dX4_mostLeft_18 : decode cX4_mostLeft 18 = .ok (.iload_n 2, 1) := by decide +kernel
theorem dX4_mostLeft_19 : decode cX4_mostLeft 19 = .ok (.aload_n 0, 1) := by decide +kernel
theorem dX4_mostLeft_20 : decode cX4_mostLeft 20 = .ok (.iload_n 1, 1) := by decide +kernel
theorem dX4_mostLeft_21 : decode cX4_mostLeft 21 = .ok (.iload_n 3, 1) := by decide +kernel
theorem dX4_mostLeft_22 : decode cX4_mostLeft 22 = .ok (.invokevirtual 70, 3) := by decide +kernel
theorem dX4_mostLeft_25 : decode cX4_mostLeft 25 = .ok (.invokestatic 77, 3) := by decide +kernel
theorem dX4_mostLeft_28 : decode cX4_mostLeft 28 = .ok (.istore_n 2, 1) := by decide +kernel
theorem dX4_mostLeft_29 : decode cX4_mostLeft 29 = .ok (.iinc 3 1, 3) := by decide +kernel
theorem dX4_mostLeft_32 : decode cX4_mostLeft 32 = .ok (.goto (-28), 3) := by decide +kernel
theorem dX4_mostLeft_35 : decode cX4_mostLeft 35 = .ok (.iload_n 2, 1) := by decide +kernel
theorem dX4_mostLeft_36 : decode cX4_mostLeft 36 = .ok (.ireturn, 1) := by decide +kernel
theorem dX4_bestMinute_0 : decode cX4_bestMinute 0 = .ok (.iconst 0, 1) := by decide +kernel
theorem dX4_bestMinute_1 : decode cX4_bestMinute 1 = .ok (.istore_n 1, 1) := by decide +kernel
theorem dX4_bestMinute_2 : decode cX4_bestMinute 2 = .ok (.iconst 1, 1) := by decide +kernel
theorem dX4_bestMinute_3 : decode cX4_bestMinute 3 = .ok (.istore_n 2, 1) := by decide +kernel
theorem dX4_bestMinute_4 : decode cX4_bestMinute 4 = .ok (.iload_n 2, 1) := by decide +kernel
theorem dX4_bestMinute_5 : decode cX4_bestMinute 5 = .ok (.bipush 8, 2) := by decide +kernel
theorem dX4_bestMinute_7 : decode cX4_bestMinute 7 = .ok (.if_icmp .ge 24, 3) := by decide +kernel
theorem dX4_bestMinute_10 : decode cX4_bestMinute 10 = .ok (.aload_n 0, 1) := by decide +kernel
theorem dX4_bestMinute_11 : decode cX4_bestMinute 11 = .ok (.iload_n 2, 1) := by decide +kernel
theorem dX4_bestMinute_12 : decode cX4_bestMinute 12 = .ok (.invokevirtual 73, 3) := by decide +kernel
theorem dX4_bestMinute_15 : decode cX4_bestMinute 15 = .ok (.aload_n 0, 1) := by decide +kernel
theorem dX4_bestMinute_16 : decode cX4_bestMinute 16 = .ok (.iload_n 1, 1) := by decide +kernel
theorem dX4_bestMinute_17 : decode cX4_bestMinute 17 = .ok (.invokevirtual 73, 3) := by decide +kernel
theorem dX4_bestMinute_20 : decode cX4_bestMinute 20 = .ok (.if_icmp .ge 5, 3) := by decide +kernel
theorem dX4_bestMinute_23 : decode cX4_bestMinute 23 = .ok (.iload_n 2, 1) := by decide +kernel
theorem dX4_bestMinute_24 : decode cX4_bestMinute 24 = .ok (.istore_n 1, 1) := by decide +kernel
theorem dX4_bestMinute_25 : decode cX4_bestMinute 25 = .ok (.iinc 2 1, 3) := by decide +kernel
theorem dX4_bestMinute_28 : decode cX4_bestMinute 28 = .ok (.goto (-24), 3) := by decide +kernel
theorem dX4_bestMinute_31 : decode cX4_bestMinute 31 = .ok (.iload_n 1, 1) := by decide +kernel
theorem dX4_bestMinute_32 : decode cX4_bestMinute 32 = .ok (.ireturn, 1) := by decide +kernel
theorem dX9_isBlank_0 : decode cX9_isBlank 0 = .ok (.iload_n 0, 1) := by decide +kernel
theorem dX9_isBlank_1 : decode cX9_isBlank 1 = .ok (.bipush 32, 2) := by decide +kernel
theorem dX9_isBlank_3 : decode cX9_isBlank 3 = .ok (.if_icmp .eq 9, 3) := by decide +kernel
theorem dX9_isBlank_6 : decode cX9_isBlank 6 = .ok (.iload_n 0, 1) := by decide +kernel
theorem dX9_isBlank_7 : decode cX9_isBlank 7 = .ok (.bipush 10, 2) := by decide +kernel
theorem dX9_isBlank_9 : decode cX9_isBlank 9 = .ok (.if_icmp .ne 7, 3) := by decide +kernel
theorem dX9_isBlank_12 : decode cX9_isBlank 12 = .ok (.iconst 1, 1) := by decide +kernel
theorem dX9_isBlank_13 : decode cX9_isBlank 13 = .ok (.goto 4, 3) := by decide +kernel
theorem dX9_isBlank_16 : decode cX9_isBlank 16 = .ok (.iconst 0, 1) := by decide +kernel
theorem dX9_isBlank_17 : decode cX9_isBlank 17 = .ok (.ireturn, 1) := by decide +kernel
theorem dX9_isLetter_0 : decode cX9_isLetter 0 = .ok (.iload_n 0, 1) := by decide +kernel
theorem dX9_isLetter_1 : decode cX9_isLetter 1 = .ok (.bipush 97, 2) := by decide +kernel
theorem dX9_isLetter_3 : decode cX9_isLetter 3 = .ok (.if_icmp .lt 13, 3) := by decide +kernel
theorem dX9_isLetter_6 : decode cX9_isLetter 6 = .ok (.iload_n 0, 1) := by decide +kernel
theorem dX9_isLetter_7 : decode cX9_isLetter 7 = .ok (.bipush 122, 2) := by decide +kernel
theorem dX9_isLetter_9 : decode cX9_isLetter 9 = .ok (.if_icmp .gt 7, 3) := by decide +kernel
theorem dX9_isLetter_12 : decode cX9_isLetter 12 = .ok (.iconst 1, 1) := by decide +kernel
theorem dX9_isLetter_13 : decode cX9_isLetter 13 = .ok (.goto 4, 3) := by decide +kernel
theorem dX9_isLetter_16 : decode cX9_isLetter 16 = .ok (.iconst 0, 1) := by decide +kernel
theorem dX9_isLetter_17 : decode cX9_isLetter 17 = .ok (.ireturn, 1) := by decide +kernel
theorem dX9_isDigit_0 : decode cX9_isDigit 0 = .ok (.iload_n 0, 1) := by decide +kernel
theorem dX9_isDigit_1 : decode cX9_isDigit 1 = .ok (.bipush 48, 2) := by decide +kernel
theorem dX9_isDigit_3 : decode cX9_isDigit 3 = .ok (.if_icmp .lt 13, 3) := by decide +kernel
theorem dX9_isDigit_6 : decode cX9_isDigit 6 = .ok (.iload_n 0, 1) := by decide +kernel
theorem dX9_isDigit_7 : decode cX9_isDigit 7 = .ok (.bipush 57, 2) := by decide +kernel
theorem dX9_isDigit_9 : decode cX9_isDigit 9 = .ok (.if_icmp .gt 7, 3) := by decide +kernel
theorem dX9_isDigit_12 : decode cX9_isDigit 12 = .ok (.iconst 1, 1) := by decide +kernel
theorem dX9_isDigit_13 : decode cX9_isDigit 13 = .ok (.goto 4, 3) := by decide +kernel
theorem dX9_isDigit_16 : decode cX9_isDigit 16 = .ok (.iconst 0, 1) := by decide +kernel
theorem dX9_isDigit_17 : decode cX9_isDigit 17 = .ok (.ireturn, 1) := by decide +kernel
theorem dX9_withLetter_0 : decode cX9_withLetter 0 = .ok (.lload_n 0, 1) := by decide +kernel
theorem dX9_withLetter_1 : decode cX9_withLetter 1 = .ok (.ldc2_w 92, 3) := by decide +kernel
theorem dX9_withLetter_4 : decode cX9_withLetter 4 = .ok (.lmul, 1) := by decide +kernel
theorem dX9_withLetter_5 : decode cX9_withLetter 5 = .ok (.iload_n 2, 1) := by decide +kernel
theorem dX9_withLetter_6 : decode cX9_withLetter 6 = .ok (.bipush 97, 2) := by decide +kernel
theorem dX9_withLetter_8 : decode cX9_withLetter 8 = .ok (.isub, 1) := by decide +kernel
theorem dX9_withLetter_9 : decode cX9_withLetter 9 = .ok (.iconst 1, 1) := by decide +kernel
theorem dX9_withLetter_10 : decode cX9_withLetter 10 = .ok (.iadd, 1) := by decide +kernel
theorem dX9_withLetter_11 : decode cX9_withLetter 11 = .ok (.i2l, 1) := by decide +kernel
theorem dX9_withLetter_12 : decode cX9_withLetter 12 = .ok (.ladd, 1) := by decide +kernel
theorem dX9_withLetter_13 : decode cX9_withLetter 13 = .ok (.lreturn, 1) := by decide +kernel
theorem dX9_numberOfOwn_0 : decode cX9_numberOfOwn 0 = .ok (.iconst 0, 1) := by decide +kernel
theorem dX9_numberOfOwn_1 : decode cX9_numberOfOwn 1 = .ok (.istore_n 1, 1) := by decide +kernel
theorem dX9_numberOfOwn_2 : decode cX9_numberOfOwn 2 = .ok (.iload_n 1, 1) := by decide +kernel
theorem dX9_numberOfOwn_3 : decode cX9_numberOfOwn 3 = .ok (.bipush 17, 2) := by decide +kernel
theorem dX9_numberOfOwn_5 : decode cX9_numberOfOwn 5 = .ok (.if_icmp .ge 25, 3) := by decide +kernel
theorem dX9_numberOfOwn_8 : decode cX9_numberOfOwn 8 = .ok (.aload_n 0, 1) := by decide +kernel
theorem dX9_numberOfOwn_9 : decode cX9_numberOfOwn 9 = .ok (.getfield 11, 3) := by decide +kernel
theorem dX9_numberOfOwn_12 : decode cX9_numberOfOwn 12 = .ok (.iload_n 1, 1) := by decide +kernel
theorem dX9_numberOfOwn_13 : decode cX9_numberOfOwn 13 = .ok (.laload, 1) := by decide +kernel
theorem dX9_numberOfOwn_14 : decode cX9_numberOfOwn 14 = .ok (.aload_n 0, 1) := by decide +kernel
theorem dX9_numberOfOwn_15 : decode cX9_numberOfOwn 15 = .ok (.getfield 79, 3) := by decide +kernel
theorem dX9_numberOfOwn_18 : decode cX9_numberOfOwn 18 = .ok (.lcmp, 1) := by decide +kernel
theorem dX9_numberOfOwn_19 : decode cX9_numberOfOwn 19 = .ok (.ifCond .ne 5, 3) := by decide +kernel
theorem dX9_numberOfOwn_22 : decode cX9_numberOfOwn 22 = .ok (.iload_n 1, 1) := by decide +kernel
theorem dX9_numberOfOwn_23 : decode cX9_numberOfOwn 23 = .ok (.ireturn, 1) := by decide +kernel
theorem dX9_numberOfOwn_24 : decode cX9_numberOfOwn 24 = .ok (.iinc 1 1, 3) := by decide +kernel
theorem dX9_numberOfOwn_27 : decode cX9_numberOfOwn 27 = .ok (.goto (-25), 3) := by decide +kernel
theorem dX9_numberOfOwn_30 : decode cX9_numberOfOwn 30 = .ok (.iconst (-1), 1) := by decide +kernel
theorem dX9_numberOfOwn_31 : decode cX9_numberOfOwn 31 = .ok (.ireturn, 1) := by decide +kernel
theorem dX9_isName_0 : decode cX9_isName 0 = .ok (.aload_n 0, 1) := by decide +kernel
theorem dX9_isName_1 : decode cX9_isName 1 = .ok (.getfield 58, 3) := by decide +kernel
theorem dX9_isName_4 : decode cX9_isName 4 = .ok (.iconst 1, 1) := by decide +kernel
theorem dX9_isName_5 : decode cX9_isName 5 = .ok (.if_icmp .ne 15, 3) := by decide +kernel
theorem dX9_isName_8 : decode cX9_isName 8 = .ok (.aload_n 0, 1) := by decide +kernel
theorem dX9_isName_9 : decode cX9_isName 9 = .ok (.getfield 76, 3) := by decide +kernel
theorem dX9_isName_12 : decode cX9_isName 12 = .ok (.iconst (-1), 1) := by decide +kernel
theorem dX9_isName_13 : decode cX9_isName 13 = .ok (.if_icmp .ne 7, 3) := by decide +kernel
theorem dX9_isName_16 : decode cX9_isName 16 = .ok (.iconst 1, 1) := by decide +kernel
theorem dX9_isName_17 : decode cX9_isName 17 = .ok (.goto 4, 3) := by decide +kernel
theorem dX9_isName_20 : decode cX9_isName 20 = .ok (.iconst 0, 1) := by decide +kernel
theorem dX9_isName_21 : decode cX9_isName 21 = .ok (.ireturn, 1) := by decide +kernel
theorem dX9_isOwn_0 : decode cX9_isOwn 0 = .ok (.aload_n 0, 1) := by decide +kernel
theorem dX9_isOwn_1 : decode cX9_isOwn 1 = .ok (.getfield 58, 3) := by decide +kernel
theorem dX9_isOwn_4 : decode cX9_isOwn 4 = .ok (.iconst 1, 1) := by decide +kernel
theorem dX9_isOwn_5 : decode cX9_isOwn 5 = .ok (.if_icmp .ne 15, 3) := by decide +kernel
theorem dX9_isOwn_8 : decode cX9_isOwn 8 = .ok (.aload_n 0, 1) := by decide +kernel
theorem dX9_isOwn_9 : decode cX9_isOwn 9 = .ok (.getfield 76, 3) := by decide +kernel
theorem dX9_isOwn_12 : decode cX9_isOwn 12 = .ok (.iload_n 1, 1) := by decide +kernel
theorem dX9_isOwn_13 : decode cX9_isOwn 13 = .ok (.if_icmp .ne 7, 3) := by decide +kernel
theorem dX9_isOwn_16 : decode cX9_isOwn 16 = .ok (.iconst 1, 1) := by decide +kernel
theorem dX9_isOwn_17 : decode cX9_isOwn 17 = .ok (.goto 4, 3) := by decide +kernel
theorem dX9_isOwn_20 : decode cX9_isOwn 20 = .ok (.iconst 0, 1) := by decide +kernel
theorem dX9_isOwn_21 : decode cX9_isOwn 21 = .ok (.ireturn, 1) := by decide +kernel
theorem dX9_isSign_0 : decode cX9_isSign 0 = .ok (.aload_n 0, 1) := by decide +kernel
theorem dX9_isSign_1 : decode cX9_isSign 1 = .ok (.getfield 58, 3) := by decide +kernel
theorem dX9_isSign_4 : decode cX9_isSign 4 = .ok (.iconst 3, 1) := by decide +kernel
theorem dX9_isSign_5 : decode cX9_isSign 5 = .ok (.if_icmp .ne 15, 3) := by decide +kernel
theorem dX9_isSign_8 : decode cX9_isSign 8 = .ok (.aload_n 0, 1) := by decide +kernel
theorem dX9_isSign_9 : decode cX9_isSign 9 = .ok (.getfield 76, 3) := by decide +kernel
theorem dX9_isSign_12 : decode cX9_isSign 12 = .ok (.iload_n 1, 1) := by decide +kernel
theorem dX9_isSign_13 : decode cX9_isSign 13 = .ok (.if_icmp .ne 7, 3) := by decide +kernel
theorem dX9_isSign_16 : decode cX9_isSign 16 = .ok (.iconst 1, 1) := by decide +kernel
theorem dX9_isSign_17 : decode cX9_isSign 17 = .ok (.goto 4, 3) := by decide +kernel
theorem dX9_isSign_20 : decode cX9_isSign 20 = .ok (.iconst 0, 1) := by decide +kernel
theorem dX9_isSign_21 : decode cX9_isSign 21 = .ok (.ireturn, 1) := by decide +kernel
theorem dX9_readWord_0 : decode cX9_readWord 0 = .ok (.aload_n 0, 1) := by decide +kernel
theorem dX9_readWord_1 : decode cX9_readWord 1 = .ok (.lconst 0, 1) := by decide +kernel
theorem dX9_readWord_2 : decode cX9_readWord 2 = .ok (.putfield 79, 3) := by decide +kernel
theorem dX9_readWord_5 : decode cX9_readWord 5 = .ok (.aload_n 0, 1) := by decide +kernel
theorem dX9_readWord_6 : decode cX9_readWord 6 = .ok (.getfield 35, 3) := by decide +kernel
theorem dX9_readWord_9 : decode cX9_readWord 9 = .ok (.aload_n 0, 1) := by decide +kernel
theorem dX9_readWord_10 : decode cX9_readWord 10 = .ok (.getfield 15, 3) := by decide +kernel
theorem dX9_readWord_13 : decode cX9_readWord 13 = .ok (.getfield 42, 3) := by decide +kernel
theorem dX9_readWord_16 : decode cX9_readWord 16 = .ok (.if_icmp .ge 57, 3) := by decide +kernel
theorem dX9_readWord_19 : decode cX9_readWord 19 = .ok (.aload_n 0, 1) := by decide +kernel
theorem dX9_readWord_20 : decode cX9_readWord 20 = .ok (.getfield 15, 3) := by decide +kernel
theorem dX9_readWord_23 : decode cX9_readWord 23 = .ok (.getfield 47, 3) := by decide +kernel
theorem dX9_readWord_26 : decode cX9_readWord 26 = .ok (.aload_n 0, 1) := by decide +kernel
theorem dX9_readWord_27 : decode cX9_readWord 27 = .ok (.getfield 35, 3) := by decide +kernel
theorem dX9_readWord_30 : decode cX9_readWord 30 = .ok (.baload, 1) := by decide +kernel
theorem dX9_readWord_31 : decode cX9_readWord 31 = .ok (.invokestatic 61, 3) := by decide +kernel
theorem dX9_readWord_34 : decode cX9_readWord 34 = .ok (.ifCond .eq 39, 3) := by decide +kernel
theorem dX9_readWord_37 : decode cX9_readWord 37 = .ok (.aload_n 0, 1) := by decide +kernel
theorem dX9_readWord_38 : decode cX9_readWord 38 = .ok (.aload_n 0, 1) := by decide +kernel
theorem dX9_readWord_39 : decode cX9_readWord 39 = .ok (.getfield 79, 3) := by decide +kernel
theorem dX9_readWord_42 : decode cX9_readWord 42 = .ok (.aload_n 0, 1) := by decide +kernel
theorem dX9_readWord_43 : decode cX9_readWord 43 = .ok (.getfield 15, 3) := by decide +kernel
theorem dX9_readWord_46 : decode cX9_readWord 46 = .ok (.getfield 47, 3) := by decide +kernel
theorem dX9_readWord_49 : decode cX9_readWord 49 = .ok (.aload_n 0, 1) := by decide +kernel
theorem dX9_readWord_50 : decode cX9_readWord 50 = .ok (.getfield 35, 3) := by decide +kernel
theorem dX9_readWord_53 : decode cX9_readWord 53 = .ok (.baload, 1) := by decide +kernel
theorem dX9_readWord_54 : decode cX9_readWord 54 = .ok (.invokestatic 31, 3) := by decide +kernel
theorem dX9_readWord_57 : decode cX9_readWord 57 = .ok (.putfield 79, 3) := by decide +kernel
theorem dX9_readWord_60 : decode cX9_readWord 60 = .ok (.aload_n 0, 1) := by decide +kernel
theorem dX9_readWord_61 : decode cX9_readWord 61 = .ok (.dup, 1) := by decide +kernel
theorem dX9_readWord_62 : decode cX9_readWord 62 = .ok (.getfield 35, 3) := by decide +kernel
theorem dX9_readWord_65 : decode cX9_readWord 65 = .ok (.iconst 1, 1) := by decide +kernel
theorem dX9_readWord_66 : decode cX9_readWord 66 = .ok (.iadd, 1) := by decide +kernel
theorem dX9_readWord_67 : decode cX9_readWord 67 = .ok (.putfield 35, 3) := by decide +kernel
theorem dX9_readWord_70 : decode cX9_readWord 70 = .ok (.goto (-65), 3) := by decide +kernel
theorem dX9_readWord_73 : decode cX9_readWord 73 = .ok (.aload_n 0, 1) := by decide +kernel
theorem dX9_readWord_74 : decode cX9_readWord 74 = .ok (.aload_n 0, 1) := by decide +kernel
theorem dX9_readWord_75 : decode cX9_readWord 75 = .ok (.getfield 35, 3) := by decide +kernel
theorem dX9_readWord_78 : decode cX9_readWord 78 = .ok (.aload_n 0, 1) := by decide +kernel
theorem dX9_readWord_79 : decode cX9_readWord 79 = .ok (.getfield 55, 3) := by decide +kernel
theorem dX9_readWord_82 : decode cX9_readWord 82 = .ok (.isub, 1) := by decide +kernel
theorem dX9_readWord_83 : decode cX9_readWord 83 = .ok (.bipush 8, 2) := by decide +kernel
theorem dX9_readWord_85 : decode cX9_readWord 85 = .ok (.if_icmp .gt 7, 3) := by decide +kernel
theorem dX9_readWord_88 : decode cX9_readWord 88 = .ok (.iconst 1, 1) := by decide +kernel
theorem dX9_readWord_89 : decode cX9_readWord 89 = .ok (.goto 4, 3) := by decide +kernel
theorem dX9_readWord_92 : decode cX9_readWord 92 = .ok (.iconst 4, 1) := by decide +kernel
theorem dX9_readWord_93 : decode cX9_readWord 93 = .ok (.putfield 58, 3) := by decide +kernel
theorem dX9_readWord_96 : decode cX9_readWord 96 = .ok (.aload_n 0, 1) := by decide +kernel
theorem dX9_readWord_97 : decode cX9_readWord 97 = .ok (.aload_n 0, 1) := by decide +kernel
theorem dX9_readWord_98 : decode cX9_readWord 98 = .ok (.invokevirtual 83, 3) := by decide +kernel
theorem dX9_readWord_101 : decode cX9_readWord 101 = .ok (.putfield 76, 3) := by decide +kernel
theorem dX9_readWord_104 : decode cX9_readWord 104 = .ok (.return_, 1) := by decide +kernel
theorem dX9_readNumber_0 : decode cX9_readNumber 0 = .ok (.aload_n 0, 1) := by decide +kernel
theorem dX9_readNumber_1 : decode cX9_readNumber 1 = .ok (.iconst 0, 1) := by decide +kernel
theorem dX9_readNumber_2 : decode cX9_readNumber 2 = .ok (.putfield 76, 3) := by decide +kernel
theorem dX9_readNumber_5 : decode cX9_readNumber 5 = .ok (.aload_n 0, 1) := by decide +kernel
theorem dX9_readNumber_6 : decode cX9_readNumber 6 = .ok (.getfield 35, 3) := by decide +kernel
theorem dX9_readNumber_9 : decode cX9_readNumber 9 = .ok (.aload_n 0, 1) := by decide +kernel
theorem dX9_readNumber_10 : decode cX9_readNumber 10 = .ok (.getfield 15, 3) := by decide +kernel
theorem dX9_readNumber_13 : decode cX9_readNumber 13 = .ok (.getfield 42, 3) := by decide +kernel
theorem dX9_readNumber_16 : decode cX9_readNumber 16 = .ok (.if_icmp .ge 61, 3) := by decide +kernel
theorem dX9_readNumber_19 : decode cX9_readNumber 19 = .ok (.aload_n 0, 1) := by decide +kernel
theorem dX9_readNumber_20 : decode cX9_readNumber 20 = .ok (.getfield 15, 3) := by decide +kernel
theorem dX9_readNumber_23 : decode cX9_readNumber 23 = .ok (.getfield 47, 3) := by decide +kernel
theorem dX9_readNumber_26 : decode cX9_readNumber 26 = .ok (.aload_n 0, 1) := by decide +kernel
theorem dX9_readNumber_27 : decode cX9_readNumber 27 = .ok (.getfield 35, 3) := by decide +kernel
theorem dX9_readNumber_30 : decode cX9_readNumber 30 = .ok (.baload, 1) := by decide +kernel
theorem dX9_readNumber_31 : decode cX9_readNumber 31 = .ok (.invokestatic 67, 3) := by decide +kernel
theorem dX9_readNumber_34 : decode cX9_readNumber 34 = .ok (.ifCond .eq 43, 3) := by decide +kernel
theorem dX9_readNumber_37 : decode cX9_readNumber 37 = .ok (.aload_n 0, 1) := by decide +kernel
theorem dX9_readNumber_38 : decode cX9_readNumber 38 = .ok (.aload_n 0, 1) := by decide +kernel
theorem dX9_readNumber_39 : decode cX9_readNumber 39 = .ok (.getfield 76, 3) := by decide +kernel
theorem dX9_readNumber_42 : decode cX9_readNumber 42 = .ok (.bipush 10, 2) := by decide +kernel
theorem dX9_readNumber_44 : decode cX9_readNumber 44 = .ok (.imul, 1) := by decide +kernel
theorem dX9_readNumber_45 : decode cX9_readNumber 45 = .ok (.aload_n 0, 1) := by decide +kernel
theorem dX9_readNumber_46 : decode cX9_readNumber 46 = .ok (.getfield 15, 3) := by decide +kernel
theorem dX9_readNumber_49 : decode cX9_readNumber 49 = .ok (.getfield 47, 3) := by decide +kernel
theorem dX9_readNumber_52 : decode cX9_readNumber 52 = .ok (.aload_n 0, 1) := by decide +kernel
theorem dX9_readNumber_53 : decode cX9_readNumber 53 = .ok (.getfield 35, 3) := by decide +kernel
theorem dX9_readNumber_56 : decode cX9_readNumber 56 = .ok (.baload, 1) := by decide +kernel
theorem dX9_readNumber_57 : decode cX9_readNumber 57 = .ok (.iadd, 1) := by decide +kernel
theorem dX9_readNumber_58 : decode cX9_readNumber 58 = .ok (.bipush 48, 2) := by decide +kernel
theorem dX9_readNumber_60 : decode cX9_readNumber 60 = .ok (.isub, 1) := by decide +kernel
theorem dX9_readNumber_61 : decode cX9_readNumber 61 = .ok (.putfield 76, 3) := by decide +kernel
theorem dX9_readNumber_64 : decode cX9_readNumber 64 = .ok (.aload_n 0, 1) := by decide +kernel
theorem dX9_readNumber_65 : decode cX9_readNumber 65 = .ok (.dup, 1) := by decide +kernel
theorem dX9_readNumber_66 : decode cX9_readNumber 66 = .ok (.getfield 35, 3) := by decide +kernel
theorem dX9_readNumber_69 : decode cX9_readNumber 69 = .ok (.iconst 1, 1) := by decide +kernel
theorem dX9_readNumber_70 : decode cX9_readNumber 70 = .ok (.iadd, 1) := by decide +kernel
theorem dX9_readNumber_71 : decode cX9_readNumber 71 = .ok (.putfield 35, 3) := by decide +kernel
theorem dX9_readNumber_74 : decode cX9_readNumber 74 = .ok (.goto (-69), 3) := by decide +kernel
theorem dX9_readNumber_77 : decode cX9_readNumber 77 = .ok (.aload_n 0, 1) := by decide +kernel
theorem dX9_readNumber_78 : decode cX9_readNumber 78 = .ok (.getfield 35, 3) := by decide +kernel
theorem dX9_readNumber_81 : decode cX9_readNumber 81 = .ok (.aload_n 0, 1) := by decide +kernel
theorem dX9_readNumber_82 : decode cX9_readNumber 82 = .ok (.getfield 15, 3) := by decide +kernel
theorem dX9_readNumber_85 : decode cX9_readNumber 85 = .ok (.getfield 42, 3) := by decide +kernel
theorem dX9_readNumber_88 : decode cX9_readNumber 88 = .ok (.if_icmp .ge 25, 3) := by decide +kernel
theorem dX9_readNumber_91 : decode cX9_readNumber 91 = .ok (.aload_n 0, 1) := by decide +kernel
theorem dX9_readNumber_92 : decode cX9_readNumber 92 = .ok (.getfield 15, 3) := by decide +kernel
theorem dX9_readNumber_95 : decode cX9_readNumber 95 = .ok (.getfield 47, 3) := by decide +kernel
theorem dX9_readNumber_98 : decode cX9_readNumber 98 = .ok (.aload_n 0, 1) := by decide +kernel
theorem dX9_readNumber_99 : decode cX9_readNumber 99 = .ok (.getfield 35, 3) := by decide +kernel
theorem dX9_readNumber_102 : decode cX9_readNumber 102 = .ok (.baload, 1) := by decide +kernel
theorem dX9_readNumber_103 : decode cX9_readNumber 103 = .ok (.invokestatic 61, 3) := by decide +kernel
theorem dX9_readNumber_106 : decode cX9_readNumber 106 = .ok (.ifCond .eq 7, 3) := by decide +kernel
theorem dX9_readNumber_109 : decode cX9_readNumber 109 = .ok (.iconst 1, 1) := by decide +kernel
theorem dX9_readNumber_110 : decode cX9_readNumber 110 = .ok (.goto 4, 3) := by decide +kernel
theorem dX9_readNumber_113 : decode cX9_readNumber 113 = .ok (.iconst 0, 1) := by decide +kernel
theorem dX9_readNumber_114 : decode cX9_readNumber 114 = .ok (.istore_n 1, 1) := by decide +kernel
theorem dX9_readNumber_115 : decode cX9_readNumber 115 = .ok (.aload_n 0, 1) := by decide +kernel
theorem dX9_readNumber_116 : decode cX9_readNumber 116 = .ok (.aload_n 0, 1) := by decide +kernel
theorem dX9_readNumber_117 : decode cX9_readNumber 117 = .ok (.getfield 35, 3) := by decide +kernel
theorem dX9_readNumber_120 : decode cX9_readNumber 120 = .ok (.aload_n 0, 1) := by decide +kernel
theorem dX9_readNumber_121 : decode cX9_readNumber 121 = .ok (.getfield 55, 3) := by decide +kernel
theorem dX9_readNumber_124 : decode cX9_readNumber 124 = .ok (.isub, 1) := by decide +kernel
theorem dX9_readNumber_125 : decode cX9_readNumber 125 = .ok (.iconst 4, 1) := by decide +kernel
theorem dX9_readNumber_126 : decode cX9_readNumber 126 = .ok (.if_icmp .gt 11, 3) := by decide +kernel
theorem dX9_readNumber_129 : decode cX9_readNumber 129 = .ok (.iload_n 1, 1) := by decide +kernel
theorem dX9_readNumber_130 : decode cX9_readNumber 130 = .ok (.ifCond .ne 7, 3) := by decide +kernel
theorem dX9_readNumber_133 : decode cX9_readNumber 133 = .ok (.iconst 2, 1) := by decide +kernel
theorem dX9_readNumber_134 : decode cX9_readNumber 134 = .ok (.goto 4, 3) := by decide +kernel
theorem dX9_readNumber_137 : decode cX9_readNumber 137 = .ok (.iconst 4, 1) := by decide +kernel
theorem dX9_readNumber_138 : decode cX9_readNumber 138 = .ok (.putfield 58, 3) := by decide +kernel
theorem dX9_readNumber_141 : decode cX9_readNumber 141 = .ok (.return_, 1) := by decide +kernel
theorem dJ0_isLatin1_aae02_0 : decode cJ0_isLatin1_aae02 0 = .ok (.getstatic 38, 3) := by decide +kernel
theorem dJ0_isLatin1_aae02_3 : decode cJ0_isLatin1_aae02 3 = .ok (.ifCond .eq 14, 3) := by decide +kernel
theorem dJ0_isLatin1_aae02_6 : decode cJ0_isLatin1_aae02 6 = .ok (.aload_n 0, 1) := by decide +kernel
theorem dJ0_isLatin1_aae02_7 : decode cJ0_isLatin1_aae02 7 = .ok (.getfield 15, 3) := by decide +kernel
theorem dJ0_isLatin1_aae02_10 : decode cJ0_isLatin1_aae02 10 = .ok (.ifCond .ne 7, 3) := by decide +kernel
theorem dJ0_isLatin1_aae02_13 : decode cJ0_isLatin1_aae02 13 = .ok (.iconst 1, 1) := by decide +kernel
theorem dJ0_isLatin1_aae02_14 : decode cJ0_isLatin1_aae02 14 = .ok (.goto 4, 3) := by decide +kernel
theorem dJ0_isLatin1_aae02_18 : decode cJ0_isLatin1_aae02 18 = .ok (.ireturn, 1) := by decide +kernel
theorem dJ0_coder_7d493_0 : decode cJ0_coder_7d493 0 = .ok (.getstatic 38, 3) := by decide +kernel
theorem dJ0_coder_7d493_3 : decode cJ0_coder_7d493 3 = .ok (.ifCond .eq 10, 3) := by decide +kernel
theorem dJ0_coder_7d493_6 : decode cJ0_coder_7d493 6 = .ok (.aload_n 0, 1) := by decide +kernel
theorem dJ0_coder_7d493_7 : decode cJ0_coder_7d493 7 = .ok (.getfield 15, 3) := by decide +kernel
theorem dJ0_coder_7d493_10 : decode cJ0_coder_7d493 10 = .ok (.goto 4, 3) := by decide +kernel
theorem dJ0_coder_7d493_14 : decode cJ0_coder_7d493 14 = .ok (.ireturn, 1) := by decide +kernel
theorem dJ0_length_8abf5_0 : decode cJ0_length_8abf5 0 = .ok (.aload_n 0, 1) := by decide +kernel
theorem dJ0_length_8abf5_1 : decode cJ0_length_8abf5 1 = .ok (.getfield 9, 3) := by decide +kernel
theorem dJ0_length_8abf5_4 : decode cJ0_length_8abf5 4 = .ok (.arraylength, 1) := by decide +kernel
theorem dJ0_length_8abf5_5 : decode cJ0_length_8abf5 5 = .ok (.aload_n 0, 1) := by decide +kernel
theorem dJ0_length_8abf5_6 : decode cJ0_length_8abf5 6 = .ok (.invokevirtual 335, 3) := by decide +kernel
theorem dJ0_length_8abf5_9 : decode cJ0_length_8abf5 9 = .ok (.ishr, 1) := by decide +kernel
theorem dJ0_length_8abf5_10 : decode cJ0_length_8abf5 10 = .ok (.ireturn, 1) := by decide +kernel
theorem dJ1_canEncode_9a6ad_0 : decode cJ1_canEncode_9a6ad 0 = .ok (.iload_n 0, 1) := by decide +kernel
theorem dJ1_canEncode_9a6ad_1 : decode cJ1_canEncode_9a6ad 1 = .ok (.ifCond .lt 14, 3) := by decide +kernel
theorem dJ1_canEncode_9a6ad_4 : decode cJ1_canEncode_9a6ad 4 = .ok (.iload_n 0, 1) := by decide +kernel
theorem dJ1_canEncode_9a6ad_5 : decode cJ1_canEncode_9a6ad 5 = .ok (.sipush 255, 3) := by decide +kernel
theorem dJ1_canEncode_9a6ad_8 : decode cJ1_canEncode_9a6ad 8 = .ok (.if_icmp .gt 7, 3) := by decide +kernel
theorem dJ1_canEncode_9a6ad_11 : decode cJ1_canEncode_9a6ad 11 = .ok (.iconst 1, 1) := by decide +kernel
theorem dJ1_canEncode_9a6ad_12 : decode cJ1_canEncode_9a6ad 12 = .ok (.goto 4, 3) := by decide +kernel
theorem dJ1_canEncode_9a6ad_15 : decode cJ1_canEncode_9a6ad 15 = .ok (.iconst 0, 1) := by decide +kernel
theorem dJ1_canEncode_9a6ad_16 : decode cJ1_canEncode_9a6ad 16 = .ok (.ireturn, 1) := by decide +kernel
theorem dJ1_indexOfChar_4cfef_0 : decode cJ1_indexOfChar_4cfef 0 = .ok (.iload_n 1, 1) := by decide +kernel
theorem dJ1_indexOfChar_4cfef_1 : decode cJ1_indexOfChar_4cfef 1 = .ok (.i2b, 1) := by decide +kernel
theorem dJ1_indexOfChar_4cfef_2 : decode cJ1_indexOfChar_4cfef 2 = .ok (.istore 4, 2) := by decide +kernel
theorem dJ1_indexOfChar_4cfef_4 : decode cJ1_indexOfChar_4cfef 4 = .ok (.iload_n 2, 1) := by decide +kernel
theorem dJ1_indexOfChar_4cfef_5 : decode cJ1_indexOfChar_4cfef 5 = .ok (.istore 5, 2) := by decide +kernel
theorem dJ1_indexOfChar_4cfef_7 : decode cJ1_indexOfChar_4cfef 7 = .ok (.iload 5, 2) := by decide +kernel
theorem dJ1_indexOfChar_4cfef_9 : decode cJ1_indexOfChar_4cfef 9 = .ok (.iload_n 3, 1) := by decide +kernel
theorem dJ1_indexOfChar_4cfef_10 : decode cJ1_indexOfChar_4cfef 10 = .ok (.if_icmp .ge 21, 3) := by decide +kernel
theorem dJ1_indexOfChar_4cfef_13 : decode cJ1_indexOfChar_4cfef 13 = .ok (.aload_n 0, 1) := by decide +kernel
theorem dJ1_indexOfChar_4cfef_14 : decode cJ1_indexOfChar_4cfef 14 = .ok (.iload 5, 2) := by decide +kernel
theorem dJ1_indexOfChar_4cfef_16 : decode cJ1_indexOfChar_4cfef 16 = .ok (.baload, 1) := by decide +kernel
theorem dJ1_indexOfChar_4cfef_17 : decode cJ1_indexOfChar_4cfef 17 = .ok (.iload 4, 2) := by decide +kernel
theorem dJ1_indexOfChar_4cfef_19 : decode cJ1_indexOfChar_4cfef 19 = .ok (.if_icmp .ne 6, 3) := by decide +kernel
theorem dJ1_indexOfChar_4cfef_22 : decode cJ1_indexOfChar_4cfef 22 = .ok (.iload 5, 2) := by decide +kernel
theorem dJ1_indexOfChar_4cfef_24 : decode cJ1_indexOfChar_4cfef 24 = .ok (.ireturn, 1) := by decide +kernel
theorem dJ1_indexOfChar_4cfef_25 : decode cJ1_indexOfChar_4cfef 25 = .ok (.iinc 5 1, 3) := by decide +kernel
theorem dJ1_indexOfChar_4cfef_28 : decode cJ1_indexOfChar_4cfef 28 = .ok (.goto (-21), 3) := by decide +kernel
theorem dJ1_indexOfChar_4cfef_31 : decode cJ1_indexOfChar_4cfef 31 = .ok (.iconst (-1), 1) := by decide +kernel
theorem dJ1_indexOfChar_4cfef_32 : decode cJ1_indexOfChar_4cfef 32 = .ok (.ireturn, 1) := by decide +kernel
theorem dJ1_indexOf_4cfef_0 : decode cJ1_indexOf_4cfef 0 = .ok (.iload_n 1, 1) := by decide +kernel
theorem dJ1_indexOf_4cfef_1 : decode cJ1_indexOf_4cfef 1 = .ok (.invokestatic 88, 3) := by decide +kernel
theorem dJ1_indexOf_4cfef_4 : decode cJ1_indexOf_4cfef 4 = .ok (.ifCond .ne 5, 3) := by decide +kernel
theorem dJ1_indexOf_4cfef_7 : decode cJ1_indexOf_4cfef 7 = .ok (.iconst (-1), 1) := by decide +kernel
theorem dJ1_indexOf_4cfef_8 : decode cJ1_indexOf_4cfef 8 = .ok (.ireturn, 1) := by decide +kernel
theorem dJ1_indexOf_4cfef_9 : decode cJ1_indexOf_4cfef 9 = .ok (.iload_n 2, 1) := by decide +kernel
theorem dJ1_indexOf_4cfef_10 : decode cJ1_indexOf_4cfef 10 = .ok (.iconst 0, 1) := by decide +kernel
theorem dJ1_indexOf_4cfef_11 : decode cJ1_indexOf_4cfef 11 = .ok (.invokestatic 92, 3) := by decide +kernel
theorem dJ1_indexOf_4cfef_14 : decode cJ1_indexOf_4cfef 14 = .ok (.istore_n 2, 1) := by decide +kernel
theorem dJ1_indexOf_4cfef_15 : decode cJ1_indexOf_4cfef 15 = .ok (.iload_n 3, 1) := by decide +kernel
theorem dJ1_indexOf_4cfef_16 : decode cJ1_indexOf_4cfef 16 = .ok (.aload_n 0, 1) := by decide +kernel
theorem dJ1_indexOf_4cfef_17 : decode cJ1_indexOf_4cfef 17 = .ok (.arraylength, 1) := by decide +kernel
theorem dJ1_indexOf_4cfef_18 : decode cJ1_indexOf_4cfef 18 = .ok (.invokestatic 38, 3) := by decide +kernel
theorem dJ1_indexOf_4cfef_21 : decode cJ1_indexOf_4cfef 21 = .ok (.istore_n 3, 1) := by decide +kernel
theorem dJ1_indexOf_4cfef_22 : decode cJ1_indexOf_4cfef 22 = .ok (.iload_n 2, 1) := by decide +kernel
theorem dJ1_indexOf_4cfef_23 : decode cJ1_indexOf_4cfef 23 = .ok (.iload_n 3, 1) := by decide +kernel
theorem dJ1_indexOf_4cfef_24 : decode cJ1_indexOf_4cfef 24 = .ok (.if_icmp .lt 5, 3) := by decide +kernel
theorem dJ1_indexOf_4cfef_29 : decode cJ1_indexOf_4cfef 29 = .ok (.aload_n 0, 1) := by decide +kernel
theorem dJ1_indexOf_4cfef_30 : decode cJ1_indexOf_4cfef 30 = .ok (.iload_n 1, 1) := by decide +kernel
theorem dJ1_indexOf_4cfef_31 : decode cJ1_indexOf_4cfef 31 = .ok (.iload_n 2, 1) := by decide +kernel
theorem dJ1_indexOf_4cfef_32 : decode cJ1_indexOf_4cfef 32 = .ok (.iload_n 3, 1) := by decide +kernel
theorem dJ1_indexOf_4cfef_33 : decode cJ1_indexOf_4cfef 33 = .ok (.invokestatic 95, 3) := by decide +kernel
theorem dJ1_indexOf_4cfef_36 : decode cJ1_indexOf_4cfef 36 = .ok (.ireturn, 1) := by decide +kernel
theorem dJ0_indexOf_7cf53_0 : decode cJ0_indexOf_7cf53 0 = .ok (.aload_n 0, 1) := by decide +kernel
theorem dJ0_indexOf_7cf53_1 : decode cJ0_indexOf_7cf53 1 = .ok (.invokevirtual 492, 3) := by decide +kernel
theorem dJ0_indexOf_7cf53_4 : decode cJ0_indexOf_7cf53 4 = .ok (.ifCond .eq 19, 3) := by decide +kernel
theorem dJ0_indexOf_7cf53_7 : decode cJ0_indexOf_7cf53 7 = .ok (.aload_n 0, 1) := by decide +kernel
theorem dJ0_indexOf_7cf53_8 : decode cJ0_indexOf_7cf53 8 = .ok (.getfield 9, 3) := by decide +kernel
theorem dJ0_indexOf_7cf53_11 : decode cJ0_indexOf_7cf53 11 = .ok (.iload_n 1, 1) := by decide +kernel
theorem dJ0_indexOf_7cf53_12 : decode cJ0_indexOf_7cf53 12 = .ok (.iload_n 2, 1) := by decide +kernel
theorem dJ0_indexOf_7cf53_13 : decode cJ0_indexOf_7cf53 13 = .ok (.aload_n 0, 1) := by decide +kernel
theorem dJ0_indexOf_7cf53_14 : decode cJ0_indexOf_7cf53 14 = .ok (.invokevirtual 505, 3) := by decide +kernel
theorem dJ0_indexOf_7cf53_17 : decode cJ0_indexOf_7cf53 17 = .ok (.invokestatic 637, 3) := by decide +kernel
theorem dJ0_indexOf_7cf53_20 : decode cJ0_indexOf_7cf53 20 = .ok (.goto 16, 3) := by decide +kernel
theorem dJ0_indexOf_7cf53_36 : decode cJ0_indexOf_7cf53 36 = .ok (.ireturn, 1) := by decide +kernel
theorem dJ0_indexOf_0f7a4_0 : decode cJ0_indexOf_0f7a4 0 = .ok (.aload_n 0, 1) := by decide +kernel
theorem dJ0_indexOf_0f7a4_1 : decode cJ0_indexOf_0f7a4 1 = .ok (.iload_n 1, 1) := by decide +kernel
theorem dJ0_indexOf_0f7a4_2 : decode cJ0_indexOf_0f7a4 2 = .ok (.iconst 0, 1) := by decide +kernel
theorem dJ0_indexOf_0f7a4_3 : decode cJ0_indexOf_0f7a4 3 = .ok (.invokevirtual 633, 3) := by decide +kernel
theorem dJ0_indexOf_0f7a4_6 : decode cJ0_indexOf_0f7a4 6 = .ok (.ireturn, 1) := by decide +kernel
theorem dX9_readSign_0 : decode cX9_readSign 0 = .ok (.aload_n 0, 1) := by decide +kernel
theorem dX9_readSign_1 : decode cX9_readSign 1 = .ok (.aload_n 0, 1) := by decide +kernel
theorem dX9_readSign_2 : decode cX9_readSign 2 = .ok (.getfield 15, 3) := by decide +kernel
theorem dX9_readSign_5 : decode cX9_readSign 5 = .ok (.getfield 47, 3) := by decide +kernel
theorem dX9_readSign_8 : decode cX9_readSign 8 = .ok (.aload_n 0, 1) := by decide +kernel
theorem dX9_readSign_9 : decode cX9_readSign 9 = .ok (.getfield 35, 3) := by decide +kernel
theorem dX9_readSign_12 : decode cX9_readSign 12 = .ok (.baload, 1) := by decide +kernel
theorem dX9_readSign_13 : decode cX9_readSign 13 = .ok (.putfield 76, 3) := by decide +kernel
theorem dX9_readSign_16 : decode cX9_readSign 16 = .ok (.aload_n 0, 1) := by decide +kernel
theorem dX9_readSign_17 : decode cX9_readSign 17 = .ok (.dup, 1) := by decide +kernel
theorem dX9_readSign_18 : decode cX9_readSign 18 = .ok (.getfield 35, 3) := by decide +kernel
theorem dX9_readSign_21 : decode cX9_readSign 21 = .ok (.iconst 1, 1) := by decide +kernel
theorem dX9_readSign_22 : decode cX9_readSign 22 = .ok (.iadd, 1) := by decide +kernel
theorem dX9_readSign_23 : decode cX9_readSign 23 = .ok (.putfield 35, 3) := by decide +kernel
theorem dX9_readSign_26 : decode cX9_readSign 26 = .ok (.aload_n 0, 1) := by decide +kernel
theorem dX9_readSign_27 : decode cX9_readSign 27 = .ok (.aload_n 0, 1) := by decide +kernel
theorem dX9_readSign_28 : decode cX9_readSign 28 = .ok (.getfield 76, 3) := by decide +kernel
theorem dX9_readSign_31 : decode cX9_readSign 31 = .ok (.ifCond .le 20, 3) := by decide +kernel
theorem dX9_readSign_34 : decode cX9_readSign 34 = .ok (.ldc 86, 2) := by decide +kernel
theorem dX9_readSign_36 : decode cX9_readSign 36 = .ok (.aload_n 0, 1) := by decide +kernel
theorem dX9_readSign_37 : decode cX9_readSign 37 = .ok (.getfield 76, 3) := by decide +kernel
theorem dX9_readSign_40 : decode cX9_readSign 40 = .ok (.i2c, 1) := by decide +kernel
theorem dX9_readSign_41 : decode cX9_readSign 41 = .ok (.invokevirtual 88, 3) := by decide +kernel
theorem dX9_readSign_44 : decode cX9_readSign 44 = .ok (.ifCond .lt 7, 3) := by decide +kernel
theorem dX9_readSign_47 : decode cX9_readSign 47 = .ok (.iconst 3, 1) := by decide +kernel
theorem dX9_readSign_48 : decode cX9_readSign 48 = .ok (.goto 4, 3) := by decide +kernel
theorem dX9_readSign_51 : decode cX9_readSign 51 = .ok (.iconst 4, 1) := by decide +kernel
theorem dX9_readSign_52 : decode cX9_readSign 52 = .ok (.putfield 58, 3) := by decide +kernel
theorem dX9_readSign_55 : decode cX9_readSign 55 = .ok (.return_, 1) := by decide +kernel
theorem dX9_advance_0 : decode cX9_advance 0 = .ok (.aload_n 0, 1) := by decide +kernel
theorem dX9_advance_1 : decode cX9_advance 1 = .ok (.getfield 35, 3) := by decide +kernel
theorem dX9_advance_4 : decode cX9_advance 4 = .ok (.aload_n 0, 1) := by decide +kernel
theorem dX9_advance_5 : decode cX9_advance 5 = .ok (.getfield 15, 3) := by decide +kernel
theorem dX9_advance_8 : decode cX9_advance 8 = .ok (.getfield 42, 3) := by decide +kernel
theorem dX9_advance_11 : decode cX9_advance 11 = .ok (.if_icmp .ge 34, 3) := by decide +kernel
theorem dX9_advance_14 : decode cX9_advance 14 = .ok (.aload_n 0, 1) := by decide +kernel
theorem dX9_advance_15 : decode cX9_advance 15 = .ok (.getfield 15, 3) := by decide +kernel
theorem dX9_advance_18 : decode cX9_advance 18 = .ok (.getfield 47, 3) := by decide +kernel
theorem dX9_advance_21 : decode cX9_advance 21 = .ok (.aload_n 0, 1) := by decide +kernel
theorem dX9_advance_22 : decode cX9_advance 22 = .ok (.getfield 35, 3) := by decide +kernel
theorem dX9_advance_25 : decode cX9_advance 25 = .ok (.baload, 1) := by decide +kernel
theorem dX9_advance_26 : decode cX9_advance 26 = .ok (.invokestatic 51, 3) := by decide +kernel
theorem dX9_advance_29 : decode cX9_advance 29 = .ok (.ifCond .eq 16, 3) := by decide +kernel
theorem dX9_advance_32 : decode cX9_advance 32 = .ok (.aload_n 0, 1) := by decide +kernel
theorem dX9_advance_33 : decode cX9_advance 33 = .ok (.dup, 1) := by decide +kernel
theorem dX9_advance_34 : decode cX9_advance 34 = .ok (.getfield 35, 3) := by decide +kernel
theorem dX9_advance_37 : decode cX9_advance 37 = .ok (.iconst 1, 1) := by decide +kernel
theorem dX9_advance_38 : decode cX9_advance 38 = .ok (.iadd, 1) := by decide +kernel
theorem dX9_advance_39 : decode cX9_advance 39 = .ok (.putfield 35, 3) := by decide +kernel
theorem dX9_advance_42 : decode cX9_advance 42 = .ok (.goto (-42), 3) := by decide +kernel
theorem dX9_advance_45 : decode cX9_advance 45 = .ok (.aload_n 0, 1) := by decide +kernel
theorem dX9_advance_46 : decode cX9_advance 46 = .ok (.aload_n 0, 1) := by decide +kernel
theorem dX9_advance_47 : decode cX9_advance 47 = .ok (.getfield 35, 3) := by decide +kernel
theorem dX9_advance_50 : decode cX9_advance 50 = .ok (.putfield 55, 3) := by decide +kernel
theorem dX9_advance_53 : decode cX9_advance 53 = .ok (.aload_n 0, 1) := by decide +kernel
theorem dX9_advance_54 : decode cX9_advance 54 = .ok (.getfield 35, 3) := by decide +kernel
theorem dX9_advance_57 : decode cX9_advance 57 = .ok (.aload_n 0, 1) := by decide +kernel
theorem dX9_advance_58 : decode cX9_advance 58 = .ok (.getfield 15, 3) := by decide +kernel
theorem dX9_advance_61 : decode cX9_advance 61 = .ok (.getfield 42, 3) := by decide +kernel
theorem dX9_advance_64 : decode cX9_advance 64 = .ok (.if_icmp .lt 11, 3) := by decide +kernel
theorem dX9_advance_67 : decode cX9_advance 67 = .ok (.aload_n 0, 1) := by decide +kernel
theorem dX9_advance_68 : decode cX9_advance 68 = .ok (.iconst 0, 1) := by decide +kernel
theorem dX9_advance_69 : decode cX9_advance 69 = .ok (.putfield 58, 3) := by decide +kernel
theorem dX9_advance_72 : decode cX9_advance 72 = .ok (.goto 57, 3) := by decide +kernel
theorem dX9_advance_75 : decode cX9_advance 75 = .ok (.aload_n 0, 1) := by decide +kernel
theorem dX9_advance_76 : decode cX9_advance 76 = .ok (.getfield 15, 3) := by decide +kernel
theorem dX9_advance_79 : decode cX9_advance 79 = .ok (.getfield 47, 3) := by decide +kernel
theorem dX9_advance_82 : decode cX9_advance 82 = .ok (.aload_n 0, 1) := by decide +kernel
theorem dX9_advance_83 : decode cX9_advance 83 = .ok (.getfield 35, 3) := by decide +kernel
theorem dX9_advance_86 : decode cX9_advance 86 = .ok (.baload, 1) := by decide +kernel
theorem dX9_advance_87 : decode cX9_advance 87 = .ok (.invokestatic 61, 3) := by decide +kernel
theorem dX9_advance_90 : decode cX9_advance 90 = .ok (.ifCond .eq 10, 3) := by decide +kernel
theorem dX9_advance_93 : decode cX9_advance 93 = .ok (.aload_n 0, 1) := by decide +kernel
theorem dX9_advance_94 : decode cX9_advance 94 = .ok (.invokevirtual 64, 3) := by decide +kernel
theorem dX9_advance_97 : decode cX9_advance 97 = .ok (.goto 32, 3) := by decide +kernel
theorem dX9_advance_100 : decode cX9_advance 100 = .ok (.aload_n 0, 1) := by decide +kernel
theorem dX9_advance_101 : decode cX9_advance 101 = .ok (.getfield 15, 3) := by decide +kernel
theorem dX9_advance_104 : decode cX9_advance 104 = .ok (.getfield 47, 3) := by decide +kernel
theorem dX9_advance_107 : decode cX9_advance 107 = .ok (.aload_n 0, 1) := by decide +kernel
theorem dX9_advance_108 : decode cX9_advance 108 = .ok (.getfield 35, 3) := by decide +kernel
theorem dX9_advance_111 : decode cX9_advance 111 = .ok (.baload, 1) := by decide +kernel
theorem dX9_advance_112 : decode cX9_advance 112 = .ok (.invokestatic 67, 3) := by decide +kernel
theorem dX9_advance_115 : decode cX9_advance 115 = .ok (.ifCond .eq 10, 3) := by decide +kernel
theorem dX9_advance_118 : decode cX9_advance 118 = .ok (.aload_n 0, 1) := by decide +kernel
theorem dX9_advance_119 : decode cX9_advance 119 = .ok (.invokevirtual 70, 3) := by decide +kernel
theorem dX9_advance_122 : decode cX9_advance 122 = .ok (.goto 7, 3) := by decide +kernel
theorem dX9_advance_125 : decode cX9_advance 125 = .ok (.aload_n 0, 1) := by decide +kernel
theorem dX9_advance_126 : decode cX9_advance 126 = .ok (.invokevirtual 73, 3) := by decide +kernel
theorem dX9_advance_129 : decode cX9_advance 129 = .ok (.return_, 1) := by decide +kernel
set_option maxRecDepth 20000 in
theorem ggX4_countWalks_X4_comingTo : GoodIn wsX4_countWalks wsX4_comingTo := goodIn_r _ [28, 4, 29, 30, 31, 9, 32, 1, 33, 2, 3, 38, 39, 40, 41, 42, 43, 44, 45, 46, 47, 48, 49, 50, 51, 52, 53, 54, 55, 56, 57, 58, 59, 60, 61, 62, 63, 64, 65, 66, 67, 68] (by decide +kernel) (by decide +kernel)
set_option maxRecDepth 20000 in
theorem gX4_countWalks_X4_comingTo : GoodIn wsX4_countWalks (wsV RX4 63 RX4 yX4_comingTo wsX4_comingTo) := goodIn_app (goodIn_of _ (by decide +kernel)) ggX4_countWalks_X4_comingTo
set_option maxRecDepth 20000 in
theorem ggX4_countWalks_X4_goingOn : GoodIn wsX4_countWalks wsX4_goingOn := goodIn_r _ [37, 5, 29, 30, 31, 9, 32, 1, 33, 2, 3, 38, 39, 40, 41, 42, 43, 44, 45, 46, 47, 48, 49, 50, 51, 52, 53, 54, 55, 56, 57, 58, 59, 60, 61, 62, 63, 64, 65, 66, 67, 68] (by decide +kernel) (by decide +kernel)
set_option maxRecDepth 20000 in
theorem gX4_countWalks_X4_goingOn : GoodIn wsX4_countWalks (wsV RX4 67 RX4 yX4_goingOn wsX4_goingOn) := goodIn_app (goodIn_of _ (by decide +kernel)) ggX4_countWalks_X4_goingOn
set_option maxRecDepth 20000 in
theorem ggX4_countWalks_X4_isOpen : GoodIn wsX4_countWalks wsX4_isOpen := goodIn_r _ [24, 11, 38, 39, 40, 41, 42, 43, 44, 45, 46, 47] (by decide +kernel) (by decide +kernel)
set_option maxRecDepth 20000 in
theorem gX4_countWalks_X4_isOpen : GoodIn wsX4_countWalks (wsV RX4 59 RX4 yX4_isOpen wsX4_isOpen) := goodIn_app (goodIn_of _ (by decide +kernel)) ggX4_countWalks_X4_isOpen
set_option maxRecDepth 20000 in
theorem ggX4_countWalks_X4_openRooms : GoodIn wsX4_countWalks wsX4_openRooms := goodIn_r _ [10, 11, 12, 13, 14, 15, 16, 17, 18, 19, 20, 38, 39, 40, 41, 42, 43, 44, 45, 46, 47] (by decide +kernel) (by decide +kernel)
set_option maxRecDepth 20000 in
theorem gX4_countWalks_X4_openRooms : GoodIn wsX4_countWalks (wsV RX4 45 RX4 yX4_openRooms wsX4_openRooms) := goodIn_app (goodIn_of _ (by decide +kernel)) ggX4_countWalks_X4_openRooms
set_option maxRecDepth 20000 in
theorem ggX4_onlyRoom_X4_through : GoodIn wsX4_onlyRoom wsX4_through := goodIn_r _ [8, 9, 10, 11, 12, 13, 14, 15, 16, 17, 18, 19, 20] (by decide +kernel) (by decide +kernel)
set_option maxRecDepth 20000 in
theorem gX4_onlyRoom_X4_through : GoodIn wsX4_onlyRoom (wsV RX4 70 RX4 yX4_through wsX4_through) := goodIn_app (goodIn_of _ (by decide +kernel)) ggX4_onlyRoom_X4_through
set_option maxRecDepth 20000 in
theorem ggX4_mostLeft_X4_through : GoodIn wsX4_mostLeft wsX4_through := goodIn_r _ [12, 13, 14, 15, 16, 17, 18, 19, 20, 21, 22, 23, 24] (by decide +kernel) (by decide +kernel)
set_option maxRecDepth 20000 in
theorem gX4_mostLeft_X4_through : GoodIn wsX4_mostLeft (wsV RX4 70 RX4 yX4_through wsX4_through) := goodIn_app (goodIn_of _ (by decide +kernel)) ggX4_mostLeft_X4_through
set_option maxRecDepth 20000 in
theorem ggX4_bestMinute_X4_mostLeft : GoodIn wsX4_bestMinute wsX4_mostLeft := goodIn_r _ [5, 6, 7, 8, 9, 10, 11, 12, 13, 14, 15, 4, 16, 17, 18, 19, 20, 21, 22, 23, 24, 25, 26, 27, 28, 29, 30, 31, 32, 33, 34, 35, 36, 37, 38, 39, 40, 41, 42, 43, 44, 45, 46, 47, 48, 49] (by decide +kernel) (by decide +kernel)
set_option maxRecDepth 20000 in
theorem gX4_bestMinute_X4_mostLeft : GoodIn wsX4_bestMinute (wsV RX4 73 RX4 yX4_mostLeft wsX4_mostLeft) := goodIn_app (goodIn_of _ (by decide +kernel)) ggX4_bestMinute_X4_mostLeft
set_option maxRecDepth 20000 in
theorem ggX9_readWord_X9_isLetter : GoodIn wsX9_readWord wsX9_isLetter := goodIn_r _ [12] (by decide +kernel) (by decide +kernel)
set_option maxRecDepth 20000 in
theorem gX9_readWord_X9_isLetter : GoodIn wsX9_readWord (va_wsS RX9 61 yX9_isLetter wsX9_isLetter) := goodIn_app (goodIn_of _ (by decide +kernel)) ggX9_readWord_X9_isLetter
set_option maxRecDepth 20000 in
theorem ggX9_readWord_X9_numberOfOwn : GoodIn wsX9_readWord wsX9_numberOfOwn := goodIn_r _ [20, 21, 1, 22, 23, 24, 25, 26, 27, 28] (by decide +kernel) (by decide +kernel)
set_option maxRecDepth 20000 in
theorem gX9_readWord_X9_numberOfOwn : GoodIn wsX9_readWord (wsV RX9 83 RX9 yX9_numberOfOwn wsX9_numberOfOwn) := goodIn_app (goodIn_of _ (by decide +kernel)) ggX9_readWord_X9_numberOfOwn
set_option maxRecDepth 20000 in
theorem ggX9_readWord_X9_withLetter : GoodIn wsX9_readWord wsX9_withLetter := goodIn_r _ [15, 16] (by decide +kernel) (by decide +kernel)
set_option maxRecDepth 20000 in
theorem gX9_readWord_X9_withLetter : GoodIn wsX9_readWord (va_wsS RX9 31 yX9_withLetter wsX9_withLetter) := goodIn_app (goodIn_of _ (by decide +kernel)) ggX9_readWord_X9_withLetter
set_option maxRecDepth 20000 in
theorem ggX9_readNumber_X9_isDigit : GoodIn wsX9_readNumber wsX9_isDigit := goodIn_r _ [11] (by decide +kernel) (by decide +kernel)
set_option maxRecDepth 20000 in
theorem gX9_readNumber_X9_isDigit : GoodIn wsX9_readNumber (va_wsS RX9 67 yX9_isDigit wsX9_isDigit) := goodIn_app (goodIn_of _ (by decide +kernel)) ggX9_readNumber_X9_isDigit
set_option maxRecDepth 20000 in
theorem ggX9_readNumber_X9_isLetter : GoodIn wsX9_readNumber wsX9_isLetter := goodIn_r _ [14] (by decide +kernel) (by decide +kernel)
set_option maxRecDepth 20000 in
theorem gX9_readNumber_X9_isLetter : GoodIn wsX9_readNumber (va_wsS RX9 61 yX9_isLetter wsX9_isLetter) := goodIn_app (goodIn_of _ (by decide +kernel)) ggX9_readNumber_X9_isLetter
set_option maxRecDepth 20000 in
theorem ggJ0_length_8abf5_J0_coder_7d493 : GoodIn wsJ0_length_8abf5 wsJ0_coder_7d493 := goodIn_r _ [6, 7, 8] (by decide +kernel) (by decide +kernel)
set_option maxRecDepth 20000 in
theorem gJ0_length_8abf5_J0_coder_7d493 : GoodIn wsJ0_length_8abf5 (wsV RJ0 335 RJ0 yJ0_coder_7d493 wsJ0_coder_7d493) := goodIn_app (goodIn_of _ (by decide +kernel)) ggJ0_length_8abf5_J0_coder_7d493
set_option maxRecDepth 20000 in
theorem ggJ1_indexOf_4cfef_J1_canEncode_9a6ad : GoodIn wsJ1_indexOf_4cfef wsJ1_canEncode_9a6ad := goodIn_r _ [11] (by decide +kernel) (by decide +kernel)
set_option maxRecDepth 20000 in
theorem gJ1_indexOf_4cfef_J1_canEncode_9a6ad : GoodIn wsJ1_indexOf_4cfef (va_wsS RJ1 88 yJ1_canEncode_9a6ad wsJ1_canEncode_9a6ad) := goodIn_app (goodIn_of _ (by decide +kernel)) ggJ1_indexOf_4cfef_J1_canEncode_9a6ad
set_option maxRecDepth 20000 in
theorem ggJ1_indexOf_4cfef_J1_indexOfChar_4cfef : GoodIn wsJ1_indexOf_4cfef wsJ1_indexOfChar_4cfef := goodIn_r _ [14] (by decide +kernel) (by decide +kernel)
set_option maxRecDepth 20000 in
theorem gJ1_indexOf_4cfef_J1_indexOfChar_4cfef : GoodIn wsJ1_indexOf_4cfef (va_wsS RJ1 95 yJ1_indexOfChar_4cfef wsJ1_indexOfChar_4cfef) := goodIn_app (goodIn_of _ (by decide +kernel)) ggJ1_indexOf_4cfef_J1_indexOfChar_4cfef
set_option maxRecDepth 20000 in
theorem ggJ0_indexOf_7cf53_J0_isLatin1_aae02 : GoodIn wsJ0_indexOf_7cf53 wsJ0_isLatin1_aae02 := goodIn_r _ [6, 7, 8] (by decide +kernel) (by decide +kernel)
set_option maxRecDepth 20000 in
theorem gJ0_indexOf_7cf53_J0_isLatin1_aae02 : GoodIn wsJ0_indexOf_7cf53 (wsV RJ0 492 RJ0 yJ0_isLatin1_aae02 wsJ0_isLatin1_aae02) := goodIn_app (goodIn_of _ (by decide +kernel)) ggJ0_indexOf_7cf53_J0_isLatin1_aae02
set_option maxRecDepth 20000 in
theorem ggJ0_indexOf_7cf53_J0_length_8abf5 : GoodIn wsJ0_indexOf_7cf53 wsJ0_length_8abf5 := goodIn_r _ [12, 1, 13, 14, 15, 5, 16, 7, 8] (by decide +kernel) (by decide +kernel)
set_option maxRecDepth 20000 in
theorem gJ0_indexOf_7cf53_J0_length_8abf5 : GoodIn wsJ0_indexOf_7cf53 (wsV RJ0 505 RJ0 yJ0_length_8abf5 wsJ0_length_8abf5) := goodIn_app (goodIn_of _ (by decide +kernel)) ggJ0_indexOf_7cf53_J0_length_8abf5
set_option maxRecDepth 20000 in
theorem ggJ0_indexOf_7cf53_J1_indexOf_4cfef : GoodIn wsJ0_indexOf_7cf53 wsJ1_indexOf_4cfef := goodIn_r _ [20, 21, 22, 23, 24, 25, 26, 27, 28, 29, 19, 30, 31, 32, 33] (by decide +kernel) (by decide +kernel)
set_option maxRecDepth 20000 in
theorem gJ0_indexOf_7cf53_J1_indexOf_4cfef : GoodIn wsJ0_indexOf_7cf53 (va_wsS RJ0 637 yJ1_indexOf_4cfef wsJ1_indexOf_4cfef) := goodIn_app (goodIn_of _ (by decide +kernel)) ggJ0_indexOf_7cf53_J1_indexOf_4cfef
set_option maxRecDepth 20000 in
theorem ggJ0_indexOf_0f7a4_J0_indexOf_7cf53 : GoodIn wsJ0_indexOf_0f7a4 wsJ0_indexOf_7cf53 := goodIn_r _ [5, 6, 7, 8, 9, 4, 10, 11, 12, 13, 14, 15, 16, 17, 18, 19, 20, 21, 22, 23, 24, 25, 26, 27, 28, 29, 30, 31, 32, 33, 34, 35, 36, 37, 38, 39, 40, 41, 42, 43, 44, 45, 46, 47, 48, 49, 50, 51, 52, 53, 54, 55, 56, 57, 58, 59, 60, 61, 62, 63, 64, 65, 66, 67, 68, 69, 70, 71, 72, 73, 74, 75, 76, 77, 78, 79, 80, 81, 82, 83, 84, 85] (by decide +kernel) (by decide +kernel)
set_option maxRecDepth 20000 in
theorem gJ0_indexOf_0f7a4_J0_indexOf_7cf53 : GoodIn wsJ0_indexOf_0f7a4 (wsV RJ0 633 RJ0 yJ0_indexOf_7cf53 wsJ0_indexOf_7cf53) := goodIn_app (goodIn_of _ (by decide +kernel)) ggJ0_indexOf_0f7a4_J0_indexOf_7cf53
set_option maxRecDepth 20000 in
theorem ggX9_readSign_J0_indexOf_0f7a4 : GoodIn wsX9_readSign wsJ0_indexOf_0f7a4 := goodIn_r _ [10, 11, 12, 13, 9, 14, 15, 16, 17, 18, 19, 20, 21, 22, 23, 24, 25, 26, 27, 28, 29, 30, 31, 32, 33, 34, 35, 36, 37, 38, 39, 40, 41, 42, 43, 44, 45, 46, 47, 48, 49, 50, 51, 52, 53, 54, 55, 56, 57, 58, 59, 60, 61, 62, 63, 64, 65, 66, 67, 68, 69, 70, 71, 72, 73, 74, 75, 76, 77, 78, 79, 80, 81, 82, 83, 84, 85, 86, 87, 88, 89, 90, 91, 92, 93, 94] (by decide +kernel) (by decide +kernel)
set_option maxRecDepth 20000 in
theorem gX9_readSign_J0_indexOf_0f7a4 : GoodIn wsX9_readSign (wsV RX9 88 RJ0 yJ0_indexOf_0f7a4 wsJ0_indexOf_0f7a4) := goodIn_app (goodIn_of _ (by decide +kernel)) ggX9_readSign_J0_indexOf_0f7a4
set_option maxRecDepth 20000 in
theorem ggX9_advance_X9_isBlank : GoodIn wsX9_advance wsX9_isBlank := goodIn_r _ [10] (by decide +kernel) (by decide +kernel)
set_option maxRecDepth 20000 in
theorem gX9_advance_X9_isBlank : GoodIn wsX9_advance (va_wsS RX9 51 yX9_isBlank wsX9_isBlank) := goodIn_app (goodIn_of _ (by decide +kernel)) ggX9_advance_X9_isBlank
set_option maxRecDepth 20000 in
theorem ggX9_advance_X9_isDigit : GoodIn wsX9_advance wsX9_isDigit := goodIn_r _ [31] (by decide +kernel) (by decide +kernel)
set_option maxRecDepth 20000 in
theorem gX9_advance_X9_isDigit : GoodIn wsX9_advance (va_wsS RX9 67 yX9_isDigit wsX9_isDigit) := goodIn_app (goodIn_of _ (by decide +kernel)) ggX9_advance_X9_isDigit
set_option maxRecDepth 20000 in
theorem ggX9_advance_X9_isLetter : GoodIn wsX9_advance wsX9_isLetter := goodIn_r _ [13] (by decide +kernel) (by decide +kernel)
set_option maxRecDepth 20000 in
theorem gX9_advance_X9_isLetter : GoodIn wsX9_advance (va_wsS RX9 61 yX9_isLetter wsX9_isLetter) := goodIn_app (goodIn_of _ (by decide +kernel)) ggX9_advance_X9_isLetter
set_option maxRecDepth 20000 in
theorem ggX9_advance_X9_readNumber : GoodIn wsX9_advance wsX9_readNumber := goodIn_r _ [35, 19, 1, 2, 3, 4, 5, 6, 29, 30, 9, 31, 11, 12, 13, 129, 130, 131, 132, 133, 134, 135, 136, 137] (by decide +kernel) (by decide +kernel)
set_option maxRecDepth 20000 in
theorem gX9_advance_X9_readNumber : GoodIn wsX9_advance (wsV RX9 70 RX9 yX9_readNumber wsX9_readNumber) := goodIn_app (goodIn_of _ (by decide +kernel)) ggX9_advance_X9_readNumber
set_option maxRecDepth 20000 in
theorem ggX9_advance_X9_readSign : GoodIn wsX9_advance wsX9_readSign := goodIn_r _ [39, 2, 4, 1, 19, 6, 40, 41, 42, 43, 44, 45, 46, 47, 48, 49, 50, 51, 52, 53, 54, 55, 56, 57, 58, 59, 60, 61, 62, 63, 64, 65, 66, 67, 68, 69, 70, 71, 72, 73, 74, 75, 76, 77, 78, 79, 80, 81, 82, 83, 84, 85, 86, 87, 88, 89, 90, 91, 92, 93, 94, 95, 96, 97, 98, 99, 100, 101, 102, 103, 104, 105, 106, 107, 108, 109, 110, 111, 112, 113, 114, 115, 116, 117, 118, 119, 120, 121, 122, 123, 124, 125, 126, 127, 128, 129, 130, 131, 132, 133, 134, 135, 136, 137] (by decide +kernel) (by decide +kernel)
set_option maxRecDepth 20000 in
theorem gX9_advance_X9_readSign : GoodIn wsX9_advance (wsV RX9 73 RX9 yX9_readSign wsX9_readSign) := goodIn_app (goodIn_of _ (by decide +kernel)) ggX9_advance_X9_readSign
set_option maxRecDepth 20000 in
theorem ggX9_advance_X9_readWord : GoodIn wsX9_advance wsX9_readWord := goodIn_r _ [17, 18, 1, 2, 3, 4, 5, 6, 19, 11, 12, 9, 13, 20, 21, 22, 23, 24, 25, 26, 27, 28, 129, 130, 131, 132, 133, 134, 135, 136, 137] (by decide +kernel) (by decide +kernel)
set_option maxRecDepth 20000 in
theorem gX9_advance_X9_readWord : GoodIn wsX9_advance (wsV RX9 64 RX9 yX9_readWord wsX9_readWord) := goodIn_app (goodIn_of _ (by decide +kernel)) ggX9_advance_X9_readWord
theorem iw_X4_countWalks_X0 : ∀ w ∈ wsX00, w ∈ wsX4_countWalks := fun _ h => List.mem_cons_of_mem _ (List.mem_append_left _ (List.mem_append_right _ h))
theorem iw_X4_countWalks_X4 : ∀ w ∈ wsX40, w ∈ wsX4_countWalks := fun _ h => List.mem_cons_of_mem _ (List.mem_append_left _ (List.mem_append_left _ (List.mem_append_right _ h)))
theorem iw_X4_countWalks_X5 : ∀ w ∈ wsX50, w ∈ wsX4_countWalks := fun _ h => List.mem_cons_of_mem _ (List.mem_append_right _ h)
theorem iw_X4_onlyRoom_X0 : ∀ w ∈ wsX00, w ∈ wsX4_onlyRoom := fun _ h => List.mem_cons_of_mem _ (List.mem_append_left _ (List.mem_append_right _ h))
theorem iw_X4_onlyRoom_X4 : ∀ w ∈ wsX40, w ∈ wsX4_onlyRoom := fun _ h => List.mem_cons_of_mem _ (List.mem_append_left _ (List.mem_append_left _ (List.mem_append_right _ h)))
theorem iw_X4_onlyRoom_X5 : ∀ w ∈ wsX50, w ∈ wsX4_onlyRoom := fun _ h => List.mem_cons_of_mem _ (List.mem_append_right _ h)
theorem iw_X4_mostLeft_X0 : ∀ w ∈ wsX00, w ∈ wsX4_mostLeft := fun _ h => List.mem_cons_of_mem _ (List.mem_append_left _ (List.mem_append_right _ h))
theorem iw_X4_mostLeft_X4 : ∀ w ∈ wsX40, w ∈ wsX4_mostLeft := fun _ h => List.mem_cons_of_mem _ (List.mem_append_left _ (List.mem_append_left _ (List.mem_append_right _ h)))
theorem iw_X4_mostLeft_X5 : ∀ w ∈ wsX50, w ∈ wsX4_mostLeft := fun _ h => List.mem_cons_of_mem _ (List.mem_append_right _ h)
theorem iw_X9_numberOfOwn_X9 : ∀ w ∈ wsX90, w ∈ wsX9_numberOfOwn := fun _ h => List.mem_cons_of_mem _ (List.mem_append_right _ h)
theorem iw_X9_isName_X9 : ∀ w ∈ wsX90, w ∈ wsX9_isName := fun _ h => List.mem_cons_of_mem _ (List.mem_append_right _ h)
theorem iw_X9_isOwn_X9 : ∀ w ∈ wsX90, w ∈ wsX9_isOwn := fun _ h => List.mem_cons_of_mem _ (List.mem_append_right _ h)
theorem iw_X9_isSign_X9 : ∀ w ∈ wsX90, w ∈ wsX9_isSign := fun _ h => List.mem_cons_of_mem _ (List.mem_append_right _ h)
theorem iw_X9_readWord_X8 : ∀ w ∈ wsX80, w ∈ wsX9_readWord := fun _ h => List.mem_cons_of_mem _ (List.mem_append_right _ h)
theorem iw_X9_readWord_X9 : ∀ w ∈ wsX90, w ∈ wsX9_readWord := fun _ h => List.mem_cons_of_mem _ (List.mem_append_left _ (List.mem_append_right _ h))
theorem iw_X9_readNumber_X8 : ∀ w ∈ wsX80, w ∈ wsX9_readNumber := fun _ h => List.mem_cons_of_mem _ (List.mem_append_right _ h)
theorem iw_X9_readNumber_X9 : ∀ w ∈ wsX90, w ∈ wsX9_readNumber := fun _ h => List.mem_cons_of_mem _ (List.mem_append_left _ (List.mem_append_right _ h))
theorem iw_X9_readSign_X8 : ∀ w ∈ wsX80, w ∈ wsX9_readSign := fun _ h => List.mem_cons_of_mem _ (List.mem_append_right _ h)
theorem iw_X9_readSign_X9 : ∀ w ∈ wsX90, w ∈ wsX9_readSign := fun _ h => List.mem_cons_of_mem _ (List.mem_append_left _ (List.mem_append_right _ h))
theorem iw_X9_advance_X8 : ∀ w ∈ wsX80, w ∈ wsX9_advance := fun _ h => List.mem_cons_of_mem _ (List.mem_append_right _ h)
theorem iw_X9_advance_X9 : ∀ w ∈ wsX90, w ∈ wsX9_advance := fun _ h => List.mem_cons_of_mem _ (List.mem_append_left _ (List.mem_append_right _ h))
