def wsX12_divisor : List Cond := .code yX12_divisor cX12_divisor 5 (some .int) :: ([])
def wsX12_creakOf : List Cond := .code yX12_creakOf cX12_creakOf 2 (some .int) :: ([.fieldLink RX12 36 "SoldHouseModel" "creaks" "[I", .fieldLink RX12 280 "SoldHouseModel" "bank" "I"] ++ wsX120)
def wsX12_oneOf : List Cond := .code yX12_oneOf cX12_oneOf 2 (some .int) :: ([.fieldLink RX12 39 "SoldHouseModel" "one" "[I", .fieldLink RX12 280 "SoldHouseModel" "bank" "I"] ++ wsX120)
def wsX12_otherOf : List Cond := .code yX12_otherOf cX12_otherOf 2 (some .int) :: ([.fieldLink RX12 42 "SoldHouseModel" "other" "[I", .fieldLink RX12 280 "SoldHouseModel" "bank" "I"] ++ wsX120)
def wsX12_farOf : List Cond := .code yX12_farOf cX12_farOf 3 (some .int) :: ([.fieldLink RX12 98 "SoldHouseModel" "table" "[I"] ++ wsX120)
def wsX12_offOf : List Cond := .code yX12_offOf cX12_offOf 2 (some .int) :: ([.fieldLink RX12 95 "SoldHouseModel" "all" "[I", .methodLink RX12 421 yX12_farOf, .instanceMethod yX12_farOf, .selects RX12 yX12_farOf yX12_farOf, .initialized RX12, .code yX12_farOf cX12_farOf 3 (some .int), .fieldLink RX12 98 "SoldHouseModel" "table" "[I", .methodLink RX12 424 yX12_lesser, .static yX12_lesser, .code yX12_lesser cX12_lesser 2 (some .int)] ++ wsX120)
def wsX12_asked : List Cond := .code yX12_asked cX12_asked 3 (some .int) :: ([.fieldLink RX12 54 "SoldHouseModel" "toUs" "[I", .fieldLink RX12 280 "SoldHouseModel" "bank" "I", .fieldLink RX12 365 "SoldHouseModel" "askThing" "I", .fieldLink RX12 57 "SoldHouseModel" "toThem" "[I", .fieldLink RX12 95 "SoldHouseModel" "all" "[I", .methodLink RX12 368 yX12_offOf, .instanceMethod yX12_offOf, .selects RX12 yX12_offOf yX12_offOf, .initialized RX12, .code yX12_offOf cX12_offOf 2 (some .int), .methodLink RX12 421 yX12_farOf, .instanceMethod yX12_farOf, .selects RX12 yX12_farOf yX12_farOf, .code yX12_farOf cX12_farOf 3 (some .int), .fieldLink RX12 98 "SoldHouseModel" "table" "[I", .methodLink RX12 424 yX12_lesser, .static yX12_lesser, .code yX12_lesser cX12_lesser 2 (some .int)] ++ wsX120)
def wsX12_comes_r1 : List Cond := [Cond.fieldLink RX12 60 "SoldHouseModel" "ruleFrom" "[I", Cond.fieldLink RX12 280 "SoldHouseModel" "bank" "I", Cond.fieldLink RX12 63 "SoldHouseModel" "ruleTo" "[I", Cond.fieldLink RX12 80 "SoldHouseModel" "code" "[I", Cond.fieldLink RX12 92 "SoldHouseModel" "pile" "[I", Cond.fieldLink RX12 83 "SoldHouseModel" "codeNumber" "[I", Cond.methodLink RX12 226 yX12_isLetter, Cond.static yX12_isLetter, Cond.initialized RX12, Cond.code yX12_isLetter cX12_isLetter 1 (some .boolean), Cond.methodLink RX12 371 yX12_asked, Cond.instanceMethod yX12_asked, Cond.selects RX12 yX12_asked yX12_asked, Cond.code yX12_asked cX12_asked 3 (some .int), Cond.fieldLink RX12 54 "SoldHouseModel" "toUs" "[I", Cond.fieldLink RX12 365 "SoldHouseModel" "askThing" "I", Cond.fieldLink RX12 57 "SoldHouseModel" "toThem" "[I", Cond.fieldLink RX12 95 "SoldHouseModel" "all" "[I", Cond.methodLink RX12 368 yX12_offOf, Cond.instanceMethod yX12_offOf, Cond.selects RX12 yX12_offOf yX12_offOf, Cond.code yX12_offOf cX12_offOf 2 (some .int), Cond.methodLink RX12 421 yX12_farOf, Cond.instanceMethod yX12_farOf]
def wsX12_comes_r2 : List Cond := [Cond.selects RX12 yX12_farOf yX12_farOf, Cond.code yX12_farOf cX12_farOf 3 (some .int), Cond.fieldLink RX12 98 "SoldHouseModel" "table" "[I", Cond.methodLink RX12 424 yX12_lesser, Cond.static yX12_lesser, Cond.code yX12_lesser cX12_lesser 2 (some .int), Cond.methodLink RX12 374 yX12_two, Cond.static yX12_two, Cond.code yX12_two cX12_two 3 (some .int)]
def wsX12_comes : List Cond := .code yX12_comes cX12_comes 4 (some .int) :: ((wsX12_comes_r1 ++ wsX12_comes_r2) ++ wsX120)
def wsX12_sureOf_r1 : List Cond := [Cond.fieldLink RX12 66 "SoldHouseModel" "hasSure" "[Z", Cond.fieldLink RX12 280 "SoldHouseModel" "bank" "I", Cond.fieldLink RX12 365 "SoldHouseModel" "askThing" "I", Cond.methodLink RX12 427 yX12_comes, Cond.instanceMethod yX12_comes, Cond.selects RX12 yX12_comes yX12_comes, Cond.initialized RX12, Cond.code yX12_comes cX12_comes 4 (some .int), Cond.fieldLink RX12 60 "SoldHouseModel" "ruleFrom" "[I", Cond.fieldLink RX12 63 "SoldHouseModel" "ruleTo" "[I", Cond.fieldLink RX12 80 "SoldHouseModel" "code" "[I", Cond.fieldLink RX12 92 "SoldHouseModel" "pile" "[I", Cond.fieldLink RX12 83 "SoldHouseModel" "codeNumber" "[I", Cond.methodLink RX12 226 yX12_isLetter, Cond.static yX12_isLetter, Cond.code yX12_isLetter cX12_isLetter 1 (some .boolean), Cond.methodLink RX12 371 yX12_asked, Cond.instanceMethod yX12_asked, Cond.selects RX12 yX12_asked yX12_asked, Cond.code yX12_asked cX12_asked 3 (some .int), Cond.fieldLink RX12 54 "SoldHouseModel" "toUs" "[I", Cond.fieldLink RX12 57 "SoldHouseModel" "toThem" "[I", Cond.fieldLink RX12 95 "SoldHouseModel" "all" "[I", Cond.methodLink RX12 368 yX12_offOf]
def wsX12_sureOf_r2 : List Cond := [Cond.instanceMethod yX12_offOf, Cond.selects RX12 yX12_offOf yX12_offOf, Cond.code yX12_offOf cX12_offOf 2 (some .int), Cond.methodLink RX12 421 yX12_farOf, Cond.instanceMethod yX12_farOf, Cond.selects RX12 yX12_farOf yX12_farOf, Cond.code yX12_farOf cX12_farOf 3 (some .int), Cond.fieldLink RX12 98 "SoldHouseModel" "table" "[I", Cond.methodLink RX12 424 yX12_lesser, Cond.static yX12_lesser, Cond.code yX12_lesser cX12_lesser 2 (some .int), Cond.methodLink RX12 374 yX12_two, Cond.static yX12_two, Cond.code yX12_two cX12_two 3 (some .int)]
def wsX12_sureOf : List Cond := .code yX12_sureOf cX12_sureOf 3 (some .int) :: ((wsX12_sureOf_r1 ++ wsX12_sureOf_r2) ++ wsX120)
def wsX12_thingsIn : List Cond := .code yX12_thingsIn cX12_thingsIn 5 (some .int) :: ([.fieldLink RX12 95 "SoldHouseModel" "all" "[I", .methodLink RX12 388 yX12_many, .instanceMethod yX12_many, .selects RX12 yX12_many yX12_many, .initialized RX12, .code yX12_many cX12_many 1 (some .int), .fieldLink RX12 27 "SoldHouseModel" "things" "[I", .fieldLink RX12 280 "SoldHouseModel" "bank" "I"] ++ wsX120)
def wsX12_keepAct : List Cond := .code yX12_keepAct cX12_keepAct 2 none :: ([.fieldLink RX12 409 "SoldHouseModel" "acts" "I", .fieldLink RX12 104 "SoldHouseModel" "was" "[I", .fieldLink RX12 95 "SoldHouseModel" "all" "[I", .fieldLink RX12 412 "SoldHouseModel" "undone" "I"] ++ wsX120)
def wsX12_exchange : List Cond := .code yX12_exchange cX12_exchange 3 none :: ([.fieldLink RX12 104 "SoldHouseModel" "was" "[I", .fieldLink RX12 409 "SoldHouseModel" "acts" "I", .fieldLink RX12 95 "SoldHouseModel" "all" "[I"] ++ wsX120)
def wsX12_spoken : List Cond := .code yX12_spoken cX12_spoken 3 none :: ([.fieldLink RX12 95 "SoldHouseModel" "all" "[I", .methodLink RX12 424 yX12_lesser, .static yX12_lesser, .initialized RX12, .code yX12_lesser cX12_lesser 2 (some .int)] ++ wsX120)
def wsX12_tell_r1 : List Cond := [Cond.fieldLink RX12 95 "SoldHouseModel" "all" "[I", Cond.methodLink RX12 436 yX12_isThing, Cond.instanceMethod yX12_isThing, Cond.selects RX12 yX12_isThing yX12_isThing, Cond.initialized RX12, Cond.code yX12_isThing cX12_isThing 2 (some .boolean), Cond.methodLink RX12 388 yX12_many, Cond.instanceMethod yX12_many, Cond.selects RX12 yX12_many yX12_many, Cond.code yX12_many cX12_many 1 (some .int), Cond.fieldLink RX12 27 "SoldHouseModel" "things" "[I", Cond.fieldLink RX12 280 "SoldHouseModel" "bank" "I", Cond.methodLink RX12 381 yX12_isIn, Cond.static yX12_isIn, Cond.code yX12_isIn cX12_isIn 3 (some .boolean), Cond.methodLink RX12 448 yX12_keepAct, Cond.instanceMethod yX12_keepAct, Cond.selects RX12 yX12_keepAct yX12_keepAct, Cond.code yX12_keepAct cX12_keepAct 2 none, Cond.fieldLink RX12 409 "SoldHouseModel" "acts" "I", Cond.fieldLink RX12 104 "SoldHouseModel" "was" "[I", Cond.fieldLink RX12 412 "SoldHouseModel" "undone" "I", Cond.methodLink RX12 451 yX12_spoken, Cond.instanceMethod yX12_spoken]
def wsX12_tell_r2 : List Cond := [Cond.selects RX12 yX12_spoken yX12_spoken, Cond.code yX12_spoken cX12_spoken 3 none, Cond.methodLink RX12 424 yX12_lesser, Cond.static yX12_lesser, Cond.code yX12_lesser cX12_lesser 2 (some .int)]
def wsX12_tell : List Cond := .code yX12_tell cX12_tell 2 (some .int) :: ((wsX12_tell_r1 ++ wsX12_tell_r2) ++ wsX120)
def wsX12_hear_r1 : List Cond := [Cond.fieldLink RX12 95 "SoldHouseModel" "all" "[I", Cond.methodLink RX12 436 yX12_isThing, Cond.instanceMethod yX12_isThing, Cond.selects RX12 yX12_isThing yX12_isThing, Cond.initialized RX12, Cond.code yX12_isThing cX12_isThing 2 (some .boolean), Cond.methodLink RX12 388 yX12_many, Cond.instanceMethod yX12_many, Cond.selects RX12 yX12_many yX12_many, Cond.code yX12_many cX12_many 1 (some .int), Cond.fieldLink RX12 27 "SoldHouseModel" "things" "[I", Cond.fieldLink RX12 280 "SoldHouseModel" "bank" "I", Cond.methodLink RX12 381 yX12_isIn, Cond.static yX12_isIn, Cond.code yX12_isIn cX12_isIn 3 (some .boolean), Cond.methodLink RX12 448 yX12_keepAct, Cond.instanceMethod yX12_keepAct, Cond.selects RX12 yX12_keepAct yX12_keepAct, Cond.code yX12_keepAct cX12_keepAct 2 none, Cond.fieldLink RX12 409 "SoldHouseModel" "acts" "I", Cond.fieldLink RX12 104 "SoldHouseModel" "was" "[I", Cond.fieldLink RX12 412 "SoldHouseModel" "undone" "I", Cond.methodLink RX12 451 yX12_spoken, Cond.instanceMethod yX12_spoken]
def wsX12_hear_r2 : List Cond := [Cond.selects RX12 yX12_spoken yX12_spoken, Cond.code yX12_spoken cX12_spoken 3 none, Cond.methodLink RX12 424 yX12_lesser, Cond.static yX12_lesser, Cond.code yX12_lesser cX12_lesser 2 (some .int)]
def wsX12_hear : List Cond := .code yX12_hear cX12_hear 2 (some .int) :: ((wsX12_hear_r1 ++ wsX12_hear_r2) ++ wsX120)
def wsX12_send : List Cond := .code yX12_send cX12_send 2 (some .int) :: ([.fieldLink RX12 95 "SoldHouseModel" "all" "[I", .methodLink RX12 436 yX12_isThing, .instanceMethod yX12_isThing, .selects RX12 yX12_isThing yX12_isThing, .initialized RX12, .code yX12_isThing cX12_isThing 2 (some .boolean), .methodLink RX12 388 yX12_many, .instanceMethod yX12_many, .selects RX12 yX12_many yX12_many, .code yX12_many cX12_many 1 (some .int), .fieldLink RX12 27 "SoldHouseModel" "things" "[I", .fieldLink RX12 280 "SoldHouseModel" "bank" "I", .methodLink RX12 381 yX12_isIn, .static yX12_isIn, .code yX12_isIn cX12_isIn 3 (some .boolean), .methodLink RX12 448 yX12_keepAct, .instanceMethod yX12_keepAct, .selects RX12 yX12_keepAct yX12_keepAct, .code yX12_keepAct cX12_keepAct 2 none, .fieldLink RX12 409 "SoldHouseModel" "acts" "I", .fieldLink RX12 104 "SoldHouseModel" "was" "[I", .fieldLink RX12 412 "SoldHouseModel" "undone" "I"] ++ wsX120)
theorem dX12_divisor_0 : decode cX12_divisor 0 = .ok (.iload_n 0, 1) := by decide +kernel
theorem dX12_divisor_1 : decode cX12_divisor 1 = .ok (.istore_n 2, 1) := by decide +kernel
theorem dX12_divisor_2 : decode cX12_divisor 2 = .ok (.iload_n 1, 1) := by decide +kernel
theorem dX12_divisor_3 : decode cX12_divisor 3 = .ok (.istore_n 3, 1) := by decide +kernel
theorem dX12_divisor_4 : decode cX12_divisor 4 = .ok (.iload_n 3, 1) := by decide +kernel
theorem dX12_divisor_5 : decode cX12_divisor 5 = .ok (.ifCond .le 16, 3) := by decide +kernel
theorem dX12_divisor_8 : decode cX12_divisor 8 = .ok (.iload_n 2, 1) := by decide +kernel
theorem dX12_divisor_9 : decode cX12_divisor 9 = .ok (.iload_n 3, 1) := by decide +kernel
theorem dX12_divisor_10 : decode cX12_divisor 10 = .ok (.irem, 1) := by decide +kernel
theorem dX12_divisor_11 : decode cX12_divisor 11 = .ok (.istore 4, 2) := by decide +kernel
theorem dX12_divisor_13 : decode cX12_divisor 13 = .ok (.iload_n 3, 1) := by decide +kernel
theorem dX12_divisor_14 : decode cX12_divisor 14 = .ok (.istore_n 2, 1) := by decide +kernel
theorem dX12_divisor_15 : decode cX12_divisor 15 = .ok (.iload 4, 2) := by decide +kernel
theorem dX12_divisor_17 : decode cX12_divisor 17 = .ok (.istore_n 3, 1) := by decide +kernel
theorem dX12_divisor_18 : decode cX12_divisor 18 = .ok (.goto (-14), 3) := by decide +kernel
theorem dX12_divisor_21 : decode cX12_divisor 21 = .ok (.iload_n 2, 1) := by decide +kernel
theorem dX12_divisor_22 : decode cX12_divisor 22 = .ok (.ireturn, 1) := by decide +kernel
theorem dX12_creakOf_0 : decode cX12_creakOf 0 = .ok (.aload_n 0, 1) := by decide +kernel
theorem dX12_creakOf_1 : decode cX12_creakOf 1 = .ok (.getfield 36, 3) := by decide +kernel
theorem dX12_creakOf_4 : decode cX12_creakOf 4 = .ok (.bipush 8, 2) := by decide +kernel
theorem dX12_creakOf_6 : decode cX12_creakOf 6 = .ok (.aload_n 0, 1) := by decide +kernel
theorem dX12_creakOf_7 : decode cX12_creakOf 7 = .ok (.getfield 280, 3) := by decide +kernel
theorem dX12_creakOf_10 : decode cX12_creakOf 10 = .ok (.imul, 1) := by decide +kernel
theorem dX12_creakOf_11 : decode cX12_creakOf 11 = .ok (.iload_n 1, 1) := by decide +kernel
theorem dX12_creakOf_12 : decode cX12_creakOf 12 = .ok (.iadd, 1) := by decide +kernel
theorem dX12_creakOf_13 : decode cX12_creakOf 13 = .ok (.iaload, 1) := by decide +kernel
theorem dX12_creakOf_14 : decode cX12_creakOf 14 = .ok (.ireturn, 1) := by decide +kernel
theorem dX12_oneOf_0 : decode cX12_oneOf 0 = .ok (.aload_n 0, 1) := by decide +kernel
theorem dX12_oneOf_1 : decode cX12_oneOf 1 = .ok (.getfield 39, 3) := by decide +kernel
theorem dX12_oneOf_4 : decode cX12_oneOf 4 = .ok (.bipush 12, 2) := by decide +kernel
theorem dX12_oneOf_6 : decode cX12_oneOf 6 = .ok (.aload_n 0, 1) := by decide +kernel
theorem dX12_oneOf_7 : decode cX12_oneOf 7 = .ok (.getfield 280, 3) := by decide +kernel
theorem dX12_oneOf_10 : decode cX12_oneOf 10 = .ok (.imul, 1) := by decide +kernel
theorem dX12_oneOf_11 : decode cX12_oneOf 11 = .ok (.iload_n 1, 1) := by decide +kernel
theorem dX12_oneOf_12 : decode cX12_oneOf 12 = .ok (.iadd, 1) := by decide +kernel
theorem dX12_oneOf_13 : decode cX12_oneOf 13 = .ok (.iaload, 1) := by decide +kernel
theorem dX12_oneOf_14 : decode cX12_oneOf 14 = .ok (.ireturn, 1) := by decide +kernel
theorem dX12_otherOf_0 : decode cX12_otherOf 0 = .ok (.aload_n 0, 1) := by decide +kernel
theorem dX12_otherOf_1 : decode cX12_otherOf 1 = .ok (.getfield 42, 3) := by decide +kernel
theorem dX12_otherOf_4 : decode cX12_otherOf 4 = .ok (.bipush 12, 2) := by decide +kernel
theorem dX12_otherOf_6 : decode cX12_otherOf 6 = .ok (.aload_n 0, 1) := by decide +kernel
theorem dX12_otherOf_7 : decode cX12_otherOf 7 = .ok (.getfield 280, 3) := by decide +kernel
theorem dX12_otherOf_10 : decode cX12_otherOf 10 = .ok (.imul, 1) := by decide +kernel
theorem dX12_otherOf_11 : decode cX12_otherOf 11 = .ok (.iload_n 1, 1) := by decide +kernel
theorem dX12_otherOf_12 : decode cX12_otherOf 12 = .ok (.iadd, 1) := by decide +kernel
theorem dX12_otherOf_13 : decode cX12_otherOf 13 = .ok (.iaload, 1) := by decide +kernel
theorem dX12_otherOf_14 : decode cX12_otherOf 14 = .ok (.ireturn, 1) := by decide +kernel
theorem dX12_farOf_0 : decode cX12_farOf 0 = .ok (.aload_n 0, 1) := by decide +kernel
theorem dX12_farOf_1 : decode cX12_farOf 1 = .ok (.getfield 98, 3) := by decide +kernel
theorem dX12_farOf_4 : decode cX12_farOf 4 = .ok (.bipush 8, 2) := by decide +kernel
theorem dX12_farOf_6 : decode cX12_farOf 6 = .ok (.iload_n 1, 1) := by decide +kernel
theorem dX12_farOf_7 : decode cX12_farOf 7 = .ok (.imul, 1) := by decide +kernel
theorem dX12_farOf_8 : decode cX12_farOf 8 = .ok (.iload_n 2, 1) := by decide +kernel
theorem dX12_farOf_9 : decode cX12_farOf 9 = .ok (.iadd, 1) := by decide +kernel
theorem dX12_farOf_10 : decode cX12_farOf 10 = .ok (.iaload, 1) := by decide +kernel
theorem dX12_farOf_11 : decode cX12_farOf 11 = .ok (.ireturn, 1) := by decide +kernel
theorem dX12_offOf_0 : decode cX12_offOf 0 = .ok (.bipush 9, 2) := by decide +kernel
theorem dX12_offOf_2 : decode cX12_offOf 2 = .ok (.aload_n 0, 1) := by decide +kernel
theorem dX12_offOf_3 : decode cX12_offOf 3 = .ok (.aload_n 0, 1) := by decide +kernel
theorem dX12_offOf_4 : decode cX12_offOf 4 = .ok (.getfield 95, 3) := by decide +kernel
theorem dX12_offOf_7 : decode cX12_offOf 7 = .ok (.iconst 0, 1) := by decide +kernel
theorem dX12_offOf_8 : decode cX12_offOf 8 = .ok (.iload_n 1, 1) := by decide +kernel
theorem dX12_offOf_9 : decode cX12_offOf 9 = .ok (.iadd, 1) := by decide +kernel
theorem dX12_offOf_10 : decode cX12_offOf 10 = .ok (.iaload, 1) := by decide +kernel
theorem dX12_offOf_11 : decode cX12_offOf 11 = .ok (.aload_n 0, 1) := by decide +kernel
theorem dX12_offOf_12 : decode cX12_offOf 12 = .ok (.getfield 95, 3) := by decide +kernel
theorem dX12_offOf_15 : decode cX12_offOf 15 = .ok (.bipush 6, 2) := by decide +kernel
theorem dX12_offOf_17 : decode cX12_offOf 17 = .ok (.iload_n 1, 1) := by decide +kernel
theorem dX12_offOf_18 : decode cX12_offOf 18 = .ok (.iadd, 1) := by decide +kernel
theorem dX12_offOf_19 : decode cX12_offOf 19 = .ok (.iaload, 1) := by decide +kernel
theorem dX12_offOf_20 : decode cX12_offOf 20 = .ok (.invokevirtual 421, 3) := by decide +kernel
theorem dX12_offOf_23 : decode cX12_offOf 23 = .ok (.invokestatic 424, 3) := by decide +kernel
theorem dX12_offOf_26 : decode cX12_offOf 26 = .ok (.ireturn, 1) := by decide +kernel
theorem dX12_asked_0 : decode cX12_asked 0 = .ok (.iload_n 1, 1) := by decide +kernel
theorem dX12_asked_1 : decode cX12_asked 1 = .ok (.lookupswitch 117 #[(100, 109), (102, 87), (107, 96), (116, 69), (117, 51)], 51) := by decide +kernel
theorem dX12_asked_52 : decode cX12_asked 52 = .ok (.aload_n 0, 1) := by decide +kernel
theorem dX12_asked_53 : decode cX12_asked 53 = .ok (.getfield 54, 3) := by decide +kernel
theorem dX12_asked_56 : decode cX12_asked 56 = .ok (.bipush 6, 2) := by decide +kernel
theorem dX12_asked_58 : decode cX12_asked 58 = .ok (.aload_n 0, 1) := by decide +kernel
theorem dX12_asked_59 : decode cX12_asked 59 = .ok (.getfield 280, 3) := by decide +kernel
theorem dX12_asked_62 : decode cX12_asked 62 = .ok (.imul, 1) := by decide +kernel
theorem dX12_asked_63 : decode cX12_asked 63 = .ok (.aload_n 0, 1) := by decide +kernel
theorem dX12_asked_64 : decode cX12_asked 64 = .ok (.getfield 365, 3) := by decide +kernel
theorem dX12_asked_67 : decode cX12_asked 67 = .ok (.iadd, 1) := by decide +kernel
theorem dX12_asked_68 : decode cX12_asked 68 = .ok (.iaload, 1) := by decide +kernel
theorem dX12_asked_69 : decode cX12_asked 69 = .ok (.ireturn, 1) := by decide +kernel
theorem dX12_asked_70 : decode cX12_asked 70 = .ok (.aload_n 0, 1) := by decide +kernel
theorem dX12_asked_71 : decode cX12_asked 71 = .ok (.getfield 57, 3) := by decide +kernel
theorem dX12_asked_74 : decode cX12_asked 74 = .ok (.bipush 6, 2) := by decide +kernel
theorem dX12_asked_76 : decode cX12_asked 76 = .ok (.aload_n 0, 1) := by decide +kernel
theorem dX12_asked_77 : decode cX12_asked 77 = .ok (.getfield 280, 3) := by decide +kernel
theorem dX12_asked_80 : decode cX12_asked 80 = .ok (.imul, 1) := by decide +kernel
theorem dX12_asked_81 : decode cX12_asked 81 = .ok (.aload_n 0, 1) := by decide +kernel
theorem dX12_asked_82 : decode cX12_asked 82 = .ok (.getfield 365, 3) := by decide +kernel
theorem dX12_asked_85 : decode cX12_asked 85 = .ok (.iadd, 1) := by decide +kernel
theorem dX12_asked_86 : decode cX12_asked 86 = .ok (.iaload, 1) := by decide +kernel
theorem dX12_asked_87 : decode cX12_asked 87 = .ok (.ireturn, 1) := by decide +kernel
theorem dX12_asked_88 : decode cX12_asked 88 = .ok (.aload_n 0, 1) := by decide +kernel
theorem dX12_asked_89 : decode cX12_asked 89 = .ok (.aload_n 0, 1) := by decide +kernel
theorem dX12_asked_90 : decode cX12_asked 90 = .ok (.getfield 365, 3) := by decide +kernel
theorem dX12_asked_93 : decode cX12_asked 93 = .ok (.invokevirtual 368, 3) := by decide +kernel
theorem dX12_asked_96 : decode cX12_asked 96 = .ok (.ireturn, 1) := by decide +kernel
theorem dX12_asked_97 : decode cX12_asked 97 = .ok (.aload_n 0, 1) := by decide +kernel
theorem dX12_asked_98 : decode cX12_asked 98 = .ok (.getfield 95, 3) := by decide +kernel
theorem dX12_asked_101 : decode cX12_asked 101 = .ok (.bipush 18, 2) := by decide +kernel
theorem dX12_asked_103 : decode cX12_asked 103 = .ok (.aload_n 0, 1) := by decide +kernel
theorem dX12_asked_104 : decode cX12_asked 104 = .ok (.getfield 365, 3) := by decide +kernel
theorem dX12_asked_107 : decode cX12_asked 107 = .ok (.iadd, 1) := by decide +kernel
theorem dX12_asked_108 : decode cX12_asked 108 = .ok (.iaload, 1) := by decide +kernel
theorem dX12_asked_109 : decode cX12_asked 109 = .ok (.ireturn, 1) := by decide +kernel
theorem dX12_asked_110 : decode cX12_asked 110 = .ok (.aload_n 0, 1) := by decide +kernel
theorem dX12_asked_111 : decode cX12_asked 111 = .ok (.getfield 95, 3) := by decide +kernel
theorem dX12_asked_114 : decode cX12_asked 114 = .ok (.bipush 30, 2) := by decide +kernel
theorem dX12_asked_116 : decode cX12_asked 116 = .ok (.iaload, 1) := by decide +kernel
theorem dX12_asked_117 : decode cX12_asked 117 = .ok (.ireturn, 1) := by decide +kernel
theorem dX12_asked_118 : decode cX12_asked 118 = .ok (.iload_n 2, 1) := by decide +kernel
theorem dX12_asked_119 : decode cX12_asked 119 = .ok (.ireturn, 1) := by decide +kernel
theorem dX12_comes_0 : decode cX12_comes 0 = .ok (.iconst 0, 1) := by decide +kernel
theorem dX12_comes_1 : decode cX12_comes 1 = .ok (.istore_n 1, 1) := by decide +kernel
theorem dX12_comes_2 : decode cX12_comes 2 = .ok (.aload_n 0, 1) := by decide +kernel
theorem dX12_comes_3 : decode cX12_comes 3 = .ok (.getfield 60, 3) := by decide +kernel
theorem dX12_comes_6 : decode cX12_comes 6 = .ok (.aload_n 0, 1) := by decide +kernel
theorem dX12_comes_7 : decode cX12_comes 7 = .ok (.getfield 280, 3) := by decide +kernel
theorem dX12_comes_10 : decode cX12_comes 10 = .ok (.iaload, 1) := by decide +kernel
theorem dX12_comes_11 : decode cX12_comes 11 = .ok (.istore_n 2, 1) := by decide +kernel
theorem dX12_comes_12 : decode cX12_comes 12 = .ok (.iload_n 2, 1) := by decide +kernel
theorem dX12_comes_13 : decode cX12_comes 13 = .ok (.aload_n 0, 1) := by decide +kernel
theorem dX12_comes_14 : decode cX12_comes 14 = .ok (.getfield 63, 3) := by decide +kernel
theorem dX12_comes_17 : decode cX12_comes 17 = .ok (.aload_n 0, 1) := by decide +kernel
theorem dX12_comes_18 : decode cX12_comes 18 = .ok (.getfield 280, 3) := by decide +kernel
theorem dX12_comes_21 : decode cX12_comes 21 = .ok (.iaload, 1) := by decide +kernel
theorem dX12_comes_22 : decode cX12_comes 22 = .ok (.if_icmp .ge 108, 3) := by decide +kernel
theorem dX12_comes_25 : decode cX12_comes 25 = .ok (.aload_n 0, 1) := by decide +kernel
theorem dX12_comes_26 : decode cX12_comes 26 = .ok (.getfield 80, 3) := by decide +kernel
theorem dX12_comes_29 : decode cX12_comes 29 = .ok (.iload_n 2, 1) := by decide +kernel
theorem dX12_comes_30 : decode cX12_comes 30 = .ok (.iaload, 1) := by decide +kernel
theorem dX12_comes_31 : decode cX12_comes 31 = .ok (.istore_n 3, 1) := by decide +kernel
theorem dX12_comes_32 : decode cX12_comes 32 = .ok (.iload_n 3, 1) := by decide +kernel
theorem dX12_comes_33 : decode cX12_comes 33 = .ok (.bipush 126, 2) := by decide +kernel
theorem dX12_comes_35 : decode cX12_comes 35 = .ok (.if_icmp .ne 30, 3) := by decide +kernel
theorem dX12_comes_38 : decode cX12_comes 38 = .ok (.aload_n 0, 1) := by decide +kernel
theorem dX12_comes_39 : decode cX12_comes 39 = .ok (.getfield 92, 3) := by decide +kernel
theorem dX12_comes_42 : decode cX12_comes 42 = .ok (.iload_n 1, 1) := by decide +kernel
theorem dX12_comes_43 : decode cX12_comes 43 = .ok (.iconst 1, 1) := by decide +kernel
theorem dX12_comes_44 : decode cX12_comes 44 = .ok (.isub, 1) := by decide +kernel
theorem dX12_comes_45 : decode cX12_comes 45 = .ok (.aload_n 0, 1) := by decide +kernel
theorem dX12_comes_46 : decode cX12_comes 46 = .ok (.getfield 92, 3) := by decide +kernel
theorem dX12_comes_49 : decode cX12_comes 49 = .ok (.iload_n 1, 1) := by decide +kernel
theorem dX12_comes_50 : decode cX12_comes 50 = .ok (.iconst 1, 1) := by decide +kernel
theorem dX12_comes_51 : decode cX12_comes 51 = .ok (.isub, 1) := by decide +kernel
theorem dX12_comes_52 : decode cX12_comes 52 = .ok (.iaload, 1) := by decide +kernel
theorem dX12_comes_53 : decode cX12_comes 53 = .ok (.ifCond .ne 7, 3) := by decide +kernel
theorem dX12_comes_56 : decode cX12_comes 56 = .ok (.iconst 1, 1) := by decide +kernel
theorem dX12_comes_57 : decode cX12_comes 57 = .ok (.goto 4, 3) := by decide +kernel
theorem dX12_comes_60 : decode cX12_comes 60 = .ok (.iconst 0, 1) := by decide +kernel
theorem dX12_comes_61 : decode cX12_comes 61 = .ok (.iastore, 1) := by decide +kernel
theorem dX12_comes_62 : decode cX12_comes 62 = .ok (.goto 62, 3) := by decide +kernel
theorem dX12_comes_65 : decode cX12_comes 65 = .ok (.iload_n 3, 1) := by decide +kernel
theorem dX12_comes_66 : decode cX12_comes 66 = .ok (.invokestatic 226, 3) := by decide +kernel
theorem dX12_comes_69 : decode cX12_comes 69 = .ok (.ifCond .eq 26, 3) := by decide +kernel
theorem dX12_comes_72 : decode cX12_comes 72 = .ok (.aload_n 0, 1) := by decide +kernel
theorem dX12_comes_73 : decode cX12_comes 73 = .ok (.getfield 92, 3) := by decide +kernel
theorem dX12_comes_76 : decode cX12_comes 76 = .ok (.iload_n 1, 1) := by decide +kernel
theorem dX12_comes_77 : decode cX12_comes 77 = .ok (.aload_n 0, 1) := by decide +kernel
theorem dX12_comes_78 : decode cX12_comes 78 = .ok (.iload_n 3, 1) := by decide +kernel
theorem dX12_comes_79 : decode cX12_comes 79 = .ok (.aload_n 0, 1) := by decide +kernel
theorem dX12_comes_80 : decode cX12_comes 80 = .ok (.getfield 83, 3) := by decide +kernel
theorem dX12_comes_83 : decode cX12_comes 83 = .ok (.iload_n 2, 1) := by decide +kernel
theorem dX12_comes_84 : decode cX12_comes 84 = .ok (.iaload, 1) := by decide +kernel
theorem dX12_comes_85 : decode cX12_comes 85 = .ok (.invokevirtual 371, 3) := by decide +kernel
theorem dX12_comes_88 : decode cX12_comes 88 = .ok (.iastore, 1) := by decide +kernel
theorem dX12_comes_89 : decode cX12_comes 89 = .ok (.iinc 1 1, 3) := by decide +kernel
theorem dX12_comes_92 : decode cX12_comes 92 = .ok (.goto 32, 3) := by decide +kernel
theorem dX12_comes_95 : decode cX12_comes 95 = .ok (.iinc 1 (-1), 3) := by decide +kernel
theorem dX12_comes_98 : decode cX12_comes 98 = .ok (.aload_n 0, 1) := by decide +kernel
theorem dX12_comes_99 : decode cX12_comes 99 = .ok (.getfield 92, 3) := by decide +kernel
theorem dX12_comes_102 : decode cX12_comes 102 = .ok (.iload_n 1, 1) := by decide +kernel
theorem dX12_comes_103 : decode cX12_comes 103 = .ok (.iconst 1, 1) := by decide +kernel
theorem dX12_comes_104 : decode cX12_comes 104 = .ok (.isub, 1) := by decide +kernel
theorem dX12_comes_105 : decode cX12_comes 105 = .ok (.iload_n 3, 1) := by decide +kernel
theorem dX12_comes_106 : decode cX12_comes 106 = .ok (.aload_n 0, 1) := by decide +kernel
theorem dX12_comes_107 : decode cX12_comes 107 = .ok (.getfield 92, 3) := by decide +kernel
theorem dX12_comes_110 : decode cX12_comes 110 = .ok (.iload_n 1, 1) := by decide +kernel
theorem dX12_comes_111 : decode cX12_comes 111 = .ok (.iconst 1, 1) := by decide +kernel
theorem dX12_comes_112 : decode cX12_comes 112 = .ok (.isub, 1) := by decide +kernel
theorem dX12_comes_113 : decode cX12_comes 113 = .ok (.iaload, 1) := by decide +kernel
theorem dX12_comes_114 : decode cX12_comes 114 = .ok (.aload_n 0, 1) := by decide +kernel
theorem dX12_comes_115 : decode cX12_comes 115 = .ok (.getfield 92, 3) := by decide +kernel
theorem dX12_comes_118 : decode cX12_comes 118 = .ok (.iload_n 1, 1) := by decide +kernel
theorem dX12_comes_119 : decode cX12_comes 119 = .ok (.iaload, 1) := by decide +kernel
theorem dX12_comes_120 : decode cX12_comes 120 = .ok (.invokestatic 374, 3) := by decide +kernel
theorem dX12_comes_123 : decode cX12_comes 123 = .ok (.iastore, 1) := by decide +kernel
theorem dX12_comes_124 : decode cX12_comes 124 = .ok (.iinc 2 1, 3) := by decide +kernel
theorem dX12_comes_127 : decode cX12_comes 127 = .ok (.goto (-115), 3) := by decide +kernel
theorem dX12_comes_130 : decode cX12_comes 130 = .ok (.aload_n 0, 1) := by decide +kernel
theorem dX12_comes_131 : decode cX12_comes 131 = .ok (.getfield 92, 3) := by decide +kernel
theorem dX12_comes_134 : decode cX12_comes 134 = .ok (.iconst 0, 1) := by decide +kernel
theorem dX12_comes_135 : decode cX12_comes 135 = .ok (.iaload, 1) := by decide +kernel
theorem dX12_comes_136 : decode cX12_comes 136 = .ok (.ireturn, 1) := by decide +kernel
theorem dX12_sureOf_0 : decode cX12_sureOf 0 = .ok (.aload_n 0, 1) := by decide +kernel
theorem dX12_sureOf_1 : decode cX12_sureOf 1 = .ok (.getfield 66, 3) := by decide +kernel
theorem dX12_sureOf_4 : decode cX12_sureOf 4 = .ok (.aload_n 0, 1) := by decide +kernel
theorem dX12_sureOf_5 : decode cX12_sureOf 5 = .ok (.getfield 280, 3) := by decide +kernel
theorem dX12_sureOf_8 : decode cX12_sureOf 8 = .ok (.baload, 1) := by decide +kernel
theorem dX12_sureOf_9 : decode cX12_sureOf 9 = .ok (.ifCond .ne 6, 3) := by decide +kernel
theorem dX12_sureOf_12 : decode cX12_sureOf 12 = .ok (.bipush 100, 2) := by decide +kernel
theorem dX12_sureOf_14 : decode cX12_sureOf 14 = .ok (.ireturn, 1) := by decide +kernel
theorem dX12_sureOf_15 : decode cX12_sureOf 15 = .ok (.aload_n 0, 1) := by decide +kernel
theorem dX12_sureOf_16 : decode cX12_sureOf 16 = .ok (.iload_n 1, 1) := by decide +kernel
theorem dX12_sureOf_17 : decode cX12_sureOf 17 = .ok (.putfield 365, 3) := by decide +kernel
theorem dX12_sureOf_20 : decode cX12_sureOf 20 = .ok (.aload_n 0, 1) := by decide +kernel
theorem dX12_sureOf_21 : decode cX12_sureOf 21 = .ok (.invokevirtual 427, 3) := by decide +kernel
theorem dX12_sureOf_24 : decode cX12_sureOf 24 = .ok (.istore_n 2, 1) := by decide +kernel
theorem dX12_sureOf_25 : decode cX12_sureOf 25 = .ok (.iload_n 2, 1) := by decide +kernel
theorem dX12_sureOf_26 : decode cX12_sureOf 26 = .ok (.ifCond .ge 7, 3) := by decide +kernel
theorem dX12_sureOf_29 : decode cX12_sureOf 29 = .ok (.iconst 0, 1) := by decide +kernel
theorem dX12_sureOf_30 : decode cX12_sureOf 30 = .ok (.goto 9, 3) := by decide +kernel
theorem dX12_sureOf_33 : decode cX12_sureOf 33 = .ok (.bipush 100, 2) := by decide +kernel
theorem dX12_sureOf_35 : decode cX12_sureOf 35 = .ok (.iload_n 2, 1) := by decide +kernel
theorem dX12_sureOf_36 : decode cX12_sureOf 36 = .ok (.invokestatic 424, 3) := by decide +kernel
theorem dX12_sureOf_39 : decode cX12_sureOf 39 = .ok (.ireturn, 1) := by decide +kernel
theorem dX12_thingsIn_0 : decode cX12_thingsIn 0 = .ok (.iconst 0, 1) := by decide +kernel
theorem dX12_thingsIn_1 : decode cX12_thingsIn 1 = .ok (.istore_n 3, 1) := by decide +kernel
theorem dX12_thingsIn_2 : decode cX12_thingsIn 2 = .ok (.iconst 0, 1) := by decide +kernel
theorem dX12_thingsIn_3 : decode cX12_thingsIn 3 = .ok (.istore 4, 2) := by decide +kernel
theorem dX12_thingsIn_5 : decode cX12_thingsIn 5 = .ok (.iload 4, 2) := by decide +kernel
theorem dX12_thingsIn_7 : decode cX12_thingsIn 7 = .ok (.aload_n 0, 1) := by decide +kernel
theorem dX12_thingsIn_8 : decode cX12_thingsIn 8 = .ok (.invokevirtual 388, 3) := by decide +kernel
theorem dX12_thingsIn_11 : decode cX12_thingsIn 11 = .ok (.if_icmp .ge 29, 3) := by decide +kernel
theorem dX12_thingsIn_14 : decode cX12_thingsIn 14 = .ok (.aload_n 0, 1) := by decide +kernel
theorem dX12_thingsIn_15 : decode cX12_thingsIn 15 = .ok (.getfield 95, 3) := by decide +kernel
theorem dX12_thingsIn_18 : decode cX12_thingsIn 18 = .ok (.iload_n 1, 1) := by decide +kernel
theorem dX12_thingsIn_19 : decode cX12_thingsIn 19 = .ok (.iload 4, 2) := by decide +kernel
theorem dX12_thingsIn_21 : decode cX12_thingsIn 21 = .ok (.iadd, 1) := by decide +kernel
theorem dX12_thingsIn_22 : decode cX12_thingsIn 22 = .ok (.iaload, 1) := by decide +kernel
theorem dX12_thingsIn_23 : decode cX12_thingsIn 23 = .ok (.iload_n 2, 1) := by decide +kernel
theorem dX12_thingsIn_24 : decode cX12_thingsIn 24 = .ok (.if_icmp .ne 10, 3) := by decide +kernel
theorem dX12_thingsIn_27 : decode cX12_thingsIn 27 = .ok (.iload_n 3, 1) := by decide +kernel
theorem dX12_thingsIn_28 : decode cX12_thingsIn 28 = .ok (.iconst 1, 1) := by decide +kernel
theorem dX12_thingsIn_29 : decode cX12_thingsIn 29 = .ok (.iload 4, 2) := by decide +kernel
theorem dX12_thingsIn_31 : decode cX12_thingsIn 31 = .ok (.ishl, 1) := by decide +kernel
theorem dX12_thingsIn_32 : decode cX12_thingsIn 32 = .ok (.ior, 1) := by decide +kernel
theorem dX12_thingsIn_33 : decode cX12_thingsIn 33 = .ok (.istore_n 3, 1) := by decide +kernel
theorem dX12_thingsIn_34 : decode cX12_thingsIn 34 = .ok (.iinc 4 1, 3) := by decide +kernel
theorem dX12_thingsIn_37 : decode cX12_thingsIn 37 = .ok (.goto (-32), 3) := by decide +kernel
theorem dX12_thingsIn_40 : decode cX12_thingsIn 40 = .ok (.iload_n 3, 1) := by decide +kernel
theorem dX12_thingsIn_41 : decode cX12_thingsIn 41 = .ok (.ireturn, 1) := by decide +kernel
theorem dX12_keepAct_0 : decode cX12_keepAct 0 = .ok (.aload_n 0, 1) := by decide +kernel
theorem dX12_keepAct_1 : decode cX12_keepAct 1 = .ok (.getfield 409, 3) := by decide +kernel
theorem dX12_keepAct_4 : decode cX12_keepAct 4 = .ok (.bipush 40, 2) := by decide +kernel
theorem dX12_keepAct_6 : decode cX12_keepAct 6 = .ok (.if_icmp .ne 43, 3) := by decide +kernel
theorem dX12_keepAct_9 : decode cX12_keepAct 9 = .ok (.iconst 0, 1) := by decide +kernel
theorem dX12_keepAct_10 : decode cX12_keepAct 10 = .ok (.istore_n 1, 1) := by decide +kernel
theorem dX12_keepAct_11 : decode cX12_keepAct 11 = .ok (.iload_n 1, 1) := by decide +kernel
theorem dX12_keepAct_12 : decode cX12_keepAct 12 = .ok (.sipush 1280, 3) := by decide +kernel
theorem dX12_keepAct_15 : decode cX12_keepAct 15 = .ok (.if_icmp .ge 24, 3) := by decide +kernel
theorem dX12_keepAct_18 : decode cX12_keepAct 18 = .ok (.aload_n 0, 1) := by decide +kernel
theorem dX12_keepAct_19 : decode cX12_keepAct 19 = .ok (.getfield 104, 3) := by decide +kernel
theorem dX12_keepAct_22 : decode cX12_keepAct 22 = .ok (.iload_n 1, 1) := by decide +kernel
theorem dX12_keepAct_23 : decode cX12_keepAct 23 = .ok (.aload_n 0, 1) := by decide +kernel
theorem dX12_keepAct_24 : decode cX12_keepAct 24 = .ok (.getfield 104, 3) := by decide +kernel
theorem dX12_keepAct_27 : decode cX12_keepAct 27 = .ok (.iload_n 1, 1) := by decide +kernel
theorem dX12_keepAct_28 : decode cX12_keepAct 28 = .ok (.bipush 32, 2) := by decide +kernel
theorem dX12_keepAct_30 : decode cX12_keepAct 30 = .ok (.iadd, 1) := by decide +kernel
theorem dX12_keepAct_31 : decode cX12_keepAct 31 = .ok (.iaload, 1) := by decide +kernel
theorem dX12_keepAct_32 : decode cX12_keepAct 32 = .ok (.iastore, 1) := by decide +kernel
theorem dX12_keepAct_33 : decode cX12_keepAct 33 = .ok (.iinc 1 1, 3) := by decide +kernel
theorem dX12_keepAct_36 : decode cX12_keepAct 36 = .ok (.goto (-25), 3) := by decide +kernel
theorem dX12_keepAct_39 : decode cX12_keepAct 39 = .ok (.aload_n 0, 1) := by decide +kernel
theorem dX12_keepAct_40 : decode cX12_keepAct 40 = .ok (.dup, 1) := by decide +kernel
theorem dX12_keepAct_41 : decode cX12_keepAct 41 = .ok (.getfield 409, 3) := by decide +kernel
theorem dX12_keepAct_44 : decode cX12_keepAct 44 = .ok (.iconst 1, 1) := by decide +kernel
theorem dX12_keepAct_45 : decode cX12_keepAct 45 = .ok (.isub, 1) := by decide +kernel
theorem dX12_keepAct_46 : decode cX12_keepAct 46 = .ok (.putfield 409, 3) := by decide +kernel
theorem dX12_keepAct_49 : decode cX12_keepAct 49 = .ok (.iconst 0, 1) := by decide +kernel
theorem dX12_keepAct_50 : decode cX12_keepAct 50 = .ok (.istore_n 1, 1) := by decide +kernel
theorem dX12_keepAct_51 : decode cX12_keepAct 51 = .ok (.iload_n 1, 1) := by decide +kernel
theorem dX12_keepAct_52 : decode cX12_keepAct 52 = .ok (.bipush 32, 2) := by decide +kernel
theorem dX12_keepAct_54 : decode cX12_keepAct 54 = .ok (.if_icmp .ge 29, 3) := by decide +kernel
theorem dX12_keepAct_57 : decode cX12_keepAct 57 = .ok (.aload_n 0, 1) := by decide +kernel
theorem dX12_keepAct_58 : decode cX12_keepAct 58 = .ok (.getfield 104, 3) := by decide +kernel
theorem dX12_keepAct_61 : decode cX12_keepAct 61 = .ok (.bipush 32, 2) := by decide +kernel
theorem dX12_keepAct_63 : decode cX12_keepAct 63 = .ok (.aload_n 0, 1) := by decide +kernel
theorem dX12_keepAct_64 : decode cX12_keepAct 64 = .ok (.getfield 409, 3) := by decide +kernel
theorem dX12_keepAct_67 : decode cX12_keepAct 67 = .ok (.imul, 1) := by decide +kernel
theorem dX12_keepAct_68 : decode cX12_keepAct 68 = .ok (.iload_n 1, 1) := by decide +kernel
theorem dX12_keepAct_69 : decode cX12_keepAct 69 = .ok (.iadd, 1) := by decide +kernel
theorem dX12_keepAct_70 : decode cX12_keepAct 70 = .ok (.aload_n 0, 1) := by decide +kernel
theorem dX12_keepAct_71 : decode cX12_keepAct 71 = .ok (.getfield 95, 3) := by decide +kernel
theorem dX12_keepAct_74 : decode cX12_keepAct 74 = .ok (.iload_n 1, 1) := by decide +kernel
theorem dX12_keepAct_75 : decode cX12_keepAct 75 = .ok (.iaload, 1) := by decide +kernel
theorem dX12_keepAct_76 : decode cX12_keepAct 76 = .ok (.iastore, 1) := by decide +kernel
theorem dX12_keepAct_77 : decode cX12_keepAct 77 = .ok (.iinc 1 1, 3) := by decide +kernel
theorem dX12_keepAct_80 : decode cX12_keepAct 80 = .ok (.goto (-29), 3) := by decide +kernel
theorem dX12_keepAct_83 : decode cX12_keepAct 83 = .ok (.aload_n 0, 1) := by decide +kernel
theorem dX12_keepAct_84 : decode cX12_keepAct 84 = .ok (.dup, 1) := by decide +kernel
theorem dX12_keepAct_85 : decode cX12_keepAct 85 = .ok (.getfield 409, 3) := by decide +kernel
theorem dX12_keepAct_88 : decode cX12_keepAct 88 = .ok (.iconst 1, 1) := by decide +kernel
theorem dX12_keepAct_89 : decode cX12_keepAct 89 = .ok (.iadd, 1) := by decide +kernel
theorem dX12_keepAct_90 : decode cX12_keepAct 90 = .ok (.putfield 409, 3) := by decide +kernel
theorem dX12_keepAct_93 : decode cX12_keepAct 93 = .ok (.aload_n 0, 1) := by decide +kernel
theorem dX12_keepAct_94 : decode cX12_keepAct 94 = .ok (.iconst 0, 1) := by decide +kernel
theorem dX12_keepAct_95 : decode cX12_keepAct 95 = .ok (.putfield 412, 3) := by decide +kernel
theorem dX12_keepAct_98 : decode cX12_keepAct 98 = .ok (.return_, 1) := by decide +kernel
theorem dX12_exchange_0 : decode cX12_exchange 0 = .ok (.iconst 0, 1) := by decide +kernel
theorem dX12_exchange_1 : decode cX12_exchange 1 = .ok (.istore_n 1, 1) := by decide +kernel
theorem dX12_exchange_2 : decode cX12_exchange 2 = .ok (.iload_n 1, 1) := by decide +kernel
theorem dX12_exchange_3 : decode cX12_exchange 3 = .ok (.bipush 32, 2) := by decide +kernel
theorem dX12_exchange_5 : decode cX12_exchange 5 = .ok (.if_icmp .ge 51, 3) := by decide +kernel
theorem dX12_exchange_8 : decode cX12_exchange 8 = .ok (.aload_n 0, 1) := by decide +kernel
theorem dX12_exchange_9 : decode cX12_exchange 9 = .ok (.getfield 104, 3) := by decide +kernel
theorem dX12_exchange_12 : decode cX12_exchange 12 = .ok (.bipush 32, 2) := by decide +kernel
theorem dX12_exchange_14 : decode cX12_exchange 14 = .ok (.aload_n 0, 1) := by decide +kernel
theorem dX12_exchange_15 : decode cX12_exchange 15 = .ok (.getfield 409, 3) := by decide +kernel
theorem dX12_exchange_18 : decode cX12_exchange 18 = .ok (.imul, 1) := by decide +kernel
theorem dX12_exchange_19 : decode cX12_exchange 19 = .ok (.iload_n 1, 1) := by decide +kernel
theorem dX12_exchange_20 : decode cX12_exchange 20 = .ok (.iadd, 1) := by decide +kernel
theorem dX12_exchange_21 : decode cX12_exchange 21 = .ok (.iaload, 1) := by decide +kernel
theorem dX12_exchange_22 : decode cX12_exchange 22 = .ok (.istore_n 2, 1) := by decide +kernel
theorem dX12_exchange_23 : decode cX12_exchange 23 = .ok (.aload_n 0, 1) := by decide +kernel
theorem dX12_exchange_24 : decode cX12_exchange 24 = .ok (.getfield 104, 3) := by decide +kernel
theorem dX12_exchange_27 : decode cX12_exchange 27 = .ok (.bipush 32, 2) := by decide +kernel
theorem dX12_exchange_29 : decode cX12_exchange 29 = .ok (.aload_n 0, 1) := by decide +kernel
theorem dX12_exchange_30 : decode cX12_exchange 30 = .ok (.getfield 409, 3) := by decide +kernel
theorem dX12_exchange_33 : decode cX12_exchange 33 = .ok (.imul, 1) := by decide +kernel
theorem dX12_exchange_34 : decode cX12_exchange 34 = .ok (.iload_n 1, 1) := by decide +kernel
theorem dX12_exchange_35 : decode cX12_exchange 35 = .ok (.iadd, 1) := by decide +kernel
theorem dX12_exchange_36 : decode cX12_exchange 36 = .ok (.aload_n 0, 1) := by decide +kernel
theorem dX12_exchange_37 : decode cX12_exchange 37 = .ok (.getfield 95, 3) := by decide +kernel
theorem dX12_exchange_40 : decode cX12_exchange 40 = .ok (.iload_n 1, 1) := by decide +kernel
theorem dX12_exchange_41 : decode cX12_exchange 41 = .ok (.iaload, 1) := by decide +kernel
theorem dX12_exchange_42 : decode cX12_exchange 42 = .ok (.iastore, 1) := by decide +kernel
theorem dX12_exchange_43 : decode cX12_exchange 43 = .ok (.aload_n 0, 1) := by decide +kernel
theorem dX12_exchange_44 : decode cX12_exchange 44 = .ok (.getfield 95, 3) := by decide +kernel
theorem dX12_exchange_47 : decode cX12_exchange 47 = .ok (.iload_n 1, 1) := by decide +kernel
theorem dX12_exchange_48 : decode cX12_exchange 48 = .ok (.iload_n 2, 1) := by decide +kernel
theorem dX12_exchange_49 : decode cX12_exchange 49 = .ok (.iastore, 1) := by decide +kernel
theorem dX12_exchange_50 : decode cX12_exchange 50 = .ok (.iinc 1 1, 3) := by decide +kernel
theorem dX12_exchange_53 : decode cX12_exchange 53 = .ok (.goto (-51), 3) := by decide +kernel
theorem dX12_exchange_56 : decode cX12_exchange 56 = .ok (.return_, 1) := by decide +kernel
theorem dX12_spoken_0 : decode cX12_spoken 0 = .ok (.aload_n 0, 1) := by decide +kernel
theorem dX12_spoken_1 : decode cX12_spoken 1 = .ok (.getfield 95, 3) := by decide +kernel
theorem dX12_spoken_4 : decode cX12_spoken 4 = .ok (.bipush 24, 2) := by decide +kernel
theorem dX12_spoken_6 : decode cX12_spoken 6 = .ok (.iload_n 1, 1) := by decide +kernel
theorem dX12_spoken_7 : decode cX12_spoken 7 = .ok (.iadd, 1) := by decide +kernel
theorem dX12_spoken_8 : decode cX12_spoken 8 = .ok (.iaload, 1) := by decide +kernel
theorem dX12_spoken_9 : decode cX12_spoken 9 = .ok (.iload_n 2, 1) := by decide +kernel
theorem dX12_spoken_10 : decode cX12_spoken 10 = .ok (.if_icmp .eq 28, 3) := by decide +kernel
theorem dX12_spoken_13 : decode cX12_spoken 13 = .ok (.aload_n 0, 1) := by decide +kernel
theorem dX12_spoken_14 : decode cX12_spoken 14 = .ok (.getfield 95, 3) := by decide +kernel
theorem dX12_spoken_17 : decode cX12_spoken 17 = .ok (.bipush 18, 2) := by decide +kernel
theorem dX12_spoken_19 : decode cX12_spoken 19 = .ok (.iload_n 1, 1) := by decide +kernel
theorem dX12_spoken_20 : decode cX12_spoken 20 = .ok (.iadd, 1) := by decide +kernel
theorem dX12_spoken_21 : decode cX12_spoken 21 = .ok (.bipush 99, 2) := by decide +kernel
theorem dX12_spoken_23 : decode cX12_spoken 23 = .ok (.aload_n 0, 1) := by decide +kernel
theorem dX12_spoken_24 : decode cX12_spoken 24 = .ok (.getfield 95, 3) := by decide +kernel
theorem dX12_spoken_27 : decode cX12_spoken 27 = .ok (.bipush 18, 2) := by decide +kernel
theorem dX12_spoken_29 : decode cX12_spoken 29 = .ok (.iload_n 1, 1) := by decide +kernel
theorem dX12_spoken_30 : decode cX12_spoken 30 = .ok (.iadd, 1) := by decide +kernel
theorem dX12_spoken_31 : decode cX12_spoken 31 = .ok (.iaload, 1) := by decide +kernel
theorem dX12_spoken_32 : decode cX12_spoken 32 = .ok (.iconst 1, 1) := by decide +kernel
theorem dX12_spoken_33 : decode cX12_spoken 33 = .ok (.iadd, 1) := by decide +kernel
theorem dX12_spoken_34 : decode cX12_spoken 34 = .ok (.invokestatic 424, 3) := by decide +kernel
theorem dX12_spoken_37 : decode cX12_spoken 37 = .ok (.iastore, 1) := by decide +kernel
theorem dX12_spoken_38 : decode cX12_spoken 38 = .ok (.aload_n 0, 1) := by decide +kernel
theorem dX12_spoken_39 : decode cX12_spoken 39 = .ok (.getfield 95, 3) := by decide +kernel
theorem dX12_spoken_42 : decode cX12_spoken 42 = .ok (.bipush 24, 2) := by decide +kernel
theorem dX12_spoken_44 : decode cX12_spoken 44 = .ok (.iload_n 1, 1) := by decide +kernel
theorem dX12_spoken_45 : decode cX12_spoken 45 = .ok (.iadd, 1) := by decide +kernel
theorem dX12_spoken_46 : decode cX12_spoken 46 = .ok (.iload_n 2, 1) := by decide +kernel
theorem dX12_spoken_47 : decode cX12_spoken 47 = .ok (.iastore, 1) := by decide +kernel
theorem dX12_spoken_48 : decode cX12_spoken 48 = .ok (.return_, 1) := by decide +kernel
theorem dX12_tell_0 : decode cX12_tell 0 = .ok (.aload_n 0, 1) := by decide +kernel
theorem dX12_tell_1 : decode cX12_tell 1 = .ok (.iload_n 1, 1) := by decide +kernel
theorem dX12_tell_2 : decode cX12_tell 2 = .ok (.invokevirtual 436, 3) := by decide +kernel
theorem dX12_tell_5 : decode cX12_tell 5 = .ok (.ifCond .ne 5, 3) := by decide +kernel
theorem dX12_tell_8 : decode cX12_tell 8 = .ok (.iconst (-1), 1) := by decide +kernel
theorem dX12_tell_9 : decode cX12_tell 9 = .ok (.ireturn, 1) := by decide +kernel
theorem dX12_tell_10 : decode cX12_tell 10 = .ok (.aload_n 0, 1) := by decide +kernel
theorem dX12_tell_11 : decode cX12_tell 11 = .ok (.invokevirtual 448, 3) := by decide +kernel
theorem dX12_tell_14 : decode cX12_tell 14 = .ok (.aload_n 0, 1) := by decide +kernel
theorem dX12_tell_15 : decode cX12_tell 15 = .ok (.iload_n 1, 1) := by decide +kernel
theorem dX12_tell_16 : decode cX12_tell 16 = .ok (.iconst 0, 1) := by decide +kernel
theorem dX12_tell_17 : decode cX12_tell 17 = .ok (.invokevirtual 451, 3) := by decide +kernel
theorem dX12_tell_20 : decode cX12_tell 20 = .ok (.aload_n 0, 1) := by decide +kernel
theorem dX12_tell_21 : decode cX12_tell 21 = .ok (.getfield 95, 3) := by decide +kernel
theorem dX12_tell_24 : decode cX12_tell 24 = .ok (.iconst 0, 1) := by decide +kernel
theorem dX12_tell_25 : decode cX12_tell 25 = .ok (.iload_n 1, 1) := by decide +kernel
theorem dX12_tell_26 : decode cX12_tell 26 = .ok (.iadd, 1) := by decide +kernel
theorem dX12_tell_27 : decode cX12_tell 27 = .ok (.iaload, 1) := by decide +kernel
theorem dX12_tell_28 : decode cX12_tell 28 = .ok (.aload_n 0, 1) := by decide +kernel
theorem dX12_tell_29 : decode cX12_tell 29 = .ok (.getfield 95, 3) := by decide +kernel
theorem dX12_tell_32 : decode cX12_tell 32 = .ok (.bipush 6, 2) := by decide +kernel
theorem dX12_tell_34 : decode cX12_tell 34 = .ok (.iload_n 1, 1) := by decide +kernel
theorem dX12_tell_35 : decode cX12_tell 35 = .ok (.iadd, 1) := by decide +kernel
theorem dX12_tell_36 : decode cX12_tell 36 = .ok (.iaload, 1) := by decide +kernel
theorem dX12_tell_37 : decode cX12_tell 37 = .ok (.if_icmp .ne 7, 3) := by decide +kernel
theorem dX12_tell_40 : decode cX12_tell 40 = .ok (.iconst 1, 1) := by decide +kernel
theorem dX12_tell_41 : decode cX12_tell 41 = .ok (.goto 4, 3) := by decide +kernel
theorem dX12_tell_44 : decode cX12_tell 44 = .ok (.iconst 0, 1) := by decide +kernel
theorem dX12_tell_45 : decode cX12_tell 45 = .ok (.ireturn, 1) := by decide +kernel
theorem dX12_hear_0 : decode cX12_hear 0 = .ok (.aload_n 0, 1) := by decide +kernel
theorem dX12_hear_1 : decode cX12_hear 1 = .ok (.iload_n 1, 1) := by decide +kernel
theorem dX12_hear_2 : decode cX12_hear 2 = .ok (.invokevirtual 436, 3) := by decide +kernel
theorem dX12_hear_5 : decode cX12_hear 5 = .ok (.ifCond .ne 5, 3) := by decide +kernel
theorem dX12_hear_8 : decode cX12_hear 8 = .ok (.iconst (-1), 1) := by decide +kernel
theorem dX12_hear_9 : decode cX12_hear 9 = .ok (.ireturn, 1) := by decide +kernel
theorem dX12_hear_10 : decode cX12_hear 10 = .ok (.aload_n 0, 1) := by decide +kernel
theorem dX12_hear_11 : decode cX12_hear 11 = .ok (.invokevirtual 448, 3) := by decide +kernel
theorem dX12_hear_14 : decode cX12_hear 14 = .ok (.aload_n 0, 1) := by decide +kernel
theorem dX12_hear_15 : decode cX12_hear 15 = .ok (.iload_n 1, 1) := by decide +kernel
theorem dX12_hear_16 : decode cX12_hear 16 = .ok (.iconst 1, 1) := by decide +kernel
theorem dX12_hear_17 : decode cX12_hear 17 = .ok (.invokevirtual 451, 3) := by decide +kernel
theorem dX12_hear_20 : decode cX12_hear 20 = .ok (.aload_n 0, 1) := by decide +kernel
theorem dX12_hear_21 : decode cX12_hear 21 = .ok (.getfield 95, 3) := by decide +kernel
theorem dX12_hear_24 : decode cX12_hear 24 = .ok (.bipush 6, 2) := by decide +kernel
theorem dX12_hear_26 : decode cX12_hear 26 = .ok (.iload_n 1, 1) := by decide +kernel
theorem dX12_hear_27 : decode cX12_hear 27 = .ok (.iadd, 1) := by decide +kernel
theorem dX12_hear_28 : decode cX12_hear 28 = .ok (.aload_n 0, 1) := by decide +kernel
theorem dX12_hear_29 : decode cX12_hear 29 = .ok (.getfield 95, 3) := by decide +kernel
theorem dX12_hear_32 : decode cX12_hear 32 = .ok (.iconst 0, 1) := by decide +kernel
theorem dX12_hear_33 : decode cX12_hear 33 = .ok (.iload_n 1, 1) := by decide +kernel
theorem dX12_hear_34 : decode cX12_hear 34 = .ok (.iadd, 1) := by decide +kernel
theorem dX12_hear_35 : decode cX12_hear 35 = .ok (.iaload, 1) := by decide +kernel
theorem dX12_hear_36 : decode cX12_hear 36 = .ok (.iastore, 1) := by decide +kernel
theorem dX12_hear_37 : decode cX12_hear 37 = .ok (.aload_n 0, 1) := by decide +kernel
theorem dX12_hear_38 : decode cX12_hear 38 = .ok (.getfield 95, 3) := by decide +kernel
theorem dX12_hear_41 : decode cX12_hear 41 = .ok (.iconst 0, 1) := by decide +kernel
theorem dX12_hear_42 : decode cX12_hear 42 = .ok (.iload_n 1, 1) := by decide +kernel
theorem dX12_hear_43 : decode cX12_hear 43 = .ok (.iadd, 1) := by decide +kernel
theorem dX12_hear_44 : decode cX12_hear 44 = .ok (.iaload, 1) := by decide +kernel
theorem dX12_hear_45 : decode cX12_hear 45 = .ok (.ireturn, 1) := by decide +kernel
theorem dX12_send_0 : decode cX12_send 0 = .ok (.aload_n 0, 1) := by decide +kernel
theorem dX12_send_1 : decode cX12_send 1 = .ok (.iload_n 1, 1) := by decide +kernel
theorem dX12_send_2 : decode cX12_send 2 = .ok (.invokevirtual 436, 3) := by decide +kernel
theorem dX12_send_5 : decode cX12_send 5 = .ok (.ifCond .ne 5, 3) := by decide +kernel
theorem dX12_send_8 : decode cX12_send 8 = .ok (.iconst (-1), 1) := by decide +kernel
theorem dX12_send_9 : decode cX12_send 9 = .ok (.ireturn, 1) := by decide +kernel
theorem dX12_send_10 : decode cX12_send 10 = .ok (.aload_n 0, 1) := by decide +kernel
theorem dX12_send_11 : decode cX12_send 11 = .ok (.invokevirtual 448, 3) := by decide +kernel
theorem dX12_send_14 : decode cX12_send 14 = .ok (.aload_n 0, 1) := by decide +kernel
theorem dX12_send_15 : decode cX12_send 15 = .ok (.getfield 95, 3) := by decide +kernel
theorem dX12_send_18 : decode cX12_send 18 = .ok (.bipush 12, 2) := by decide +kernel
theorem dX12_send_20 : decode cX12_send 20 = .ok (.iload_n 1, 1) := by decide +kernel
theorem dX12_send_21 : decode cX12_send 21 = .ok (.iadd, 1) := by decide +kernel
theorem dX12_send_22 : decode cX12_send 22 = .ok (.iconst 1, 1) := by decide +kernel
theorem dX12_send_23 : decode cX12_send 23 = .ok (.aload_n 0, 1) := by decide +kernel
theorem dX12_send_24 : decode cX12_send 24 = .ok (.getfield 95, 3) := by decide +kernel
theorem dX12_send_27 : decode cX12_send 27 = .ok (.bipush 12, 2) := by decide +kernel
theorem dX12_send_29 : decode cX12_send 29 = .ok (.iload_n 1, 1) := by decide +kernel
theorem dX12_send_30 : decode cX12_send 30 = .ok (.iadd, 1) := by decide +kernel
theorem dX12_send_31 : decode cX12_send 31 = .ok (.iaload, 1) := by decide +kernel
theorem dX12_send_32 : decode cX12_send 32 = .ok (.isub, 1) := by decide +kernel
theorem dX12_send_33 : decode cX12_send 33 = .ok (.iastore, 1) := by decide +kernel
theorem dX12_send_34 : decode cX12_send 34 = .ok (.aload_n 0, 1) := by decide +kernel
theorem dX12_send_35 : decode cX12_send 35 = .ok (.getfield 95, 3) := by decide +kernel
theorem dX12_send_38 : decode cX12_send 38 = .ok (.bipush 12, 2) := by decide +kernel
theorem dX12_send_40 : decode cX12_send 40 = .ok (.iload_n 1, 1) := by decide +kernel
theorem dX12_send_41 : decode cX12_send 41 = .ok (.iadd, 1) := by decide +kernel
theorem dX12_send_42 : decode cX12_send 42 = .ok (.iaload, 1) := by decide +kernel
theorem dX12_send_43 : decode cX12_send 43 = .ok (.ireturn, 1) := by decide +kernel
set_option maxRecDepth 20000 in
theorem ggX12_offOf_X12_farOf : GoodIn wsX12_offOf wsX12_farOf := goodIn_r _ [6, 7, 11, 12, 13, 14, 15, 16, 17, 18, 19, 20, 21, 22, 23, 24, 25, 26, 27, 28, 29, 30, 31, 32, 33, 34, 35, 36, 37, 38, 39, 40, 41, 42, 43, 44, 45, 46, 47, 48, 49, 50, 51, 52, 53, 54, 55, 56, 57, 58, 59, 60, 61, 62, 63, 64, 65, 66, 67, 68, 69, 70, 71, 72, 73, 74, 75, 76, 77, 78, 79, 80, 81] (by decide +kernel) (by decide +kernel)
set_option maxRecDepth 20000 in
theorem gX12_offOf_X12_farOf : GoodIn wsX12_offOf (wsV RX12 421 RX12 yX12_farOf wsX12_farOf) := goodIn_app (goodIn_of _ (by decide +kernel)) ggX12_offOf_X12_farOf
set_option maxRecDepth 20000 in
theorem ggX12_offOf_X12_lesser : GoodIn wsX12_offOf wsX12_lesser := goodIn_r _ [10] (by decide +kernel) (by decide +kernel)
set_option maxRecDepth 20000 in
theorem gX12_offOf_X12_lesser : GoodIn wsX12_offOf (va_wsS RX12 424 yX12_lesser wsX12_lesser) := goodIn_app (goodIn_of _ (by decide +kernel)) ggX12_offOf_X12_lesser
set_option maxRecDepth 20000 in
theorem ggX12_asked_X12_offOf : GoodIn wsX12_asked wsX12_offOf := goodIn_r _ [10, 5, 11, 12, 13, 9, 14, 15, 16, 17, 18, 19, 20, 21, 22, 23, 24, 25, 26, 27, 28, 29, 30, 31, 32, 33, 34, 35, 36, 37, 38, 39, 40, 41, 42, 43, 44, 45, 46, 47, 48, 49, 50, 51, 52, 53, 54, 55, 56, 57, 58, 59, 60, 61, 62, 63, 64, 65, 66, 67, 68, 69, 70, 71, 72, 73, 74, 75, 76, 77, 78, 79, 80, 81, 82, 83, 84, 85, 86, 87, 88, 89] (by decide +kernel) (by decide +kernel)
set_option maxRecDepth 20000 in
theorem gX12_asked_X12_offOf : GoodIn wsX12_asked (wsV RX12 368 RX12 yX12_offOf wsX12_offOf) := goodIn_app (goodIn_of _ (by decide +kernel)) ggX12_asked_X12_offOf
set_option maxRecDepth 20000 in
theorem ggX12_comes_X12_asked : GoodIn wsX12_comes wsX12_asked := goodIn_r _ [14, 15, 2, 16, 17, 18, 19, 20, 21, 9, 22, 23, 24, 25, 26, 27, 28, 29, 30, 34, 35, 36, 37, 38, 39, 40, 41, 42, 43, 44, 45, 46, 47, 48, 49, 50, 51, 52, 53, 54, 55, 56, 57, 58, 59, 60, 61, 62, 63, 64, 65, 66, 67, 68, 69, 70, 71, 72, 73, 74, 75, 76, 77, 78, 79, 80, 81, 82, 83, 84, 85, 86, 87, 88, 89, 90, 91, 92, 93, 94, 95, 96, 97, 98, 99, 100, 101, 102, 103, 104] (by decide +kernel) (by decide +kernel)
set_option maxRecDepth 20000 in
theorem gX12_comes_X12_asked : GoodIn wsX12_comes (wsV RX12 371 RX12 yX12_asked wsX12_asked) := goodIn_app (goodIn_of _ (by decide +kernel)) ggX12_comes_X12_asked
set_option maxRecDepth 20000 in
theorem ggX12_comes_X12_isLetter : GoodIn wsX12_comes wsX12_isLetter := goodIn_r _ [10] (by decide +kernel) (by decide +kernel)
set_option maxRecDepth 20000 in
theorem gX12_comes_X12_isLetter : GoodIn wsX12_comes (va_wsS RX12 226 yX12_isLetter wsX12_isLetter) := goodIn_app (goodIn_of _ (by decide +kernel)) ggX12_comes_X12_isLetter
set_option maxRecDepth 20000 in
theorem ggX12_comes_X12_two : GoodIn wsX12_comes wsX12_two := goodIn_r _ [33] (by decide +kernel) (by decide +kernel)
set_option maxRecDepth 20000 in
theorem gX12_comes_X12_two : GoodIn wsX12_comes (va_wsS RX12 374 yX12_two wsX12_two) := goodIn_app (goodIn_of _ (by decide +kernel)) ggX12_comes_X12_two
set_option maxRecDepth 20000 in
theorem ggX12_sureOf_X12_comes : GoodIn wsX12_sureOf wsX12_comes := goodIn_r _ [8, 9, 2, 10, 11, 12, 13, 14, 15, 7, 16, 17, 18, 19, 20, 21, 3, 22, 23, 24, 25, 26, 27, 28, 29, 30, 31, 32, 33, 34, 35, 36, 37, 38, 39, 40, 41, 42, 43, 44, 45, 46, 47, 48, 49, 50, 51, 52, 53, 54, 55, 56, 57, 58, 59, 60, 61, 62, 63, 64, 65, 66, 67, 68, 69, 70, 71, 72, 73, 74, 75, 76, 77, 78, 79, 80, 81, 82, 83, 84, 85, 86, 87, 88, 89, 90, 91, 92, 93, 94, 95, 96, 97, 98, 99, 100, 101, 102, 103, 104, 105, 106, 107, 108, 109] (by decide +kernel) (by decide +kernel)
set_option maxRecDepth 20000 in
theorem gX12_sureOf_X12_comes : GoodIn wsX12_sureOf (wsV RX12 427 RX12 yX12_comes wsX12_comes) := goodIn_app (goodIn_of _ (by decide +kernel)) ggX12_sureOf_X12_comes
set_option maxRecDepth 20000 in
theorem ggX12_sureOf_X12_lesser : GoodIn wsX12_sureOf wsX12_lesser := goodIn_r _ [35] (by decide +kernel) (by decide +kernel)
set_option maxRecDepth 20000 in
theorem gX12_sureOf_X12_lesser : GoodIn wsX12_sureOf (va_wsS RX12 424 yX12_lesser wsX12_lesser) := goodIn_app (goodIn_of _ (by decide +kernel)) ggX12_sureOf_X12_lesser
set_option maxRecDepth 20000 in
theorem ggX12_thingsIn_X12_many : GoodIn wsX12_thingsIn wsX12_many := goodIn_r _ [6, 7, 8, 9, 10, 11, 12, 13, 14, 15, 16, 17, 18, 19, 20, 21, 22, 23, 24, 25, 26, 27, 28, 29, 30, 31, 32, 33, 34, 35, 36, 37, 38, 39, 40, 41, 42, 43, 44, 45, 46, 47, 48, 49, 50, 51, 52, 53, 54, 55, 56, 57, 58, 59, 60, 61, 62, 63, 64, 65, 66, 67, 68, 69, 70, 71, 72, 73, 74, 75, 76, 77, 78, 79] (by decide +kernel) (by decide +kernel)
set_option maxRecDepth 20000 in
theorem gX12_thingsIn_X12_many : GoodIn wsX12_thingsIn (wsV RX12 388 RX12 yX12_many wsX12_many) := goodIn_app (goodIn_of _ (by decide +kernel)) ggX12_thingsIn_X12_many
set_option maxRecDepth 20000 in
theorem ggX12_spoken_X12_lesser : GoodIn wsX12_spoken wsX12_lesser := goodIn_r _ [5] (by decide +kernel) (by decide +kernel)
set_option maxRecDepth 20000 in
theorem gX12_spoken_X12_lesser : GoodIn wsX12_spoken (va_wsS RX12 424 yX12_lesser wsX12_lesser) := goodIn_app (goodIn_of _ (by decide +kernel)) ggX12_spoken_X12_lesser
set_option maxRecDepth 20000 in
theorem ggX12_tell_X12_isThing : GoodIn wsX12_tell wsX12_isThing := goodIn_r _ [6, 7, 8, 9, 5, 10, 11, 12, 13, 14, 15, 30, 31, 32, 33, 34, 35, 36, 37, 38, 39, 40, 41, 42, 43, 44, 45, 46, 47, 48, 49, 50, 51, 52, 53, 54, 55, 56, 57, 58, 59, 60, 61, 62, 63, 64, 65, 66, 67, 68, 69, 70, 71, 72, 73, 74, 75, 76, 77, 78, 79, 80, 81, 82, 83, 84, 85, 86, 87, 88, 89, 90, 91, 92, 93, 94, 95, 96, 97, 98, 99, 100] (by decide +kernel) (by decide +kernel)
set_option maxRecDepth 20000 in
theorem gX12_tell_X12_isThing : GoodIn wsX12_tell (wsV RX12 436 RX12 yX12_isThing wsX12_isThing) := goodIn_app (goodIn_of _ (by decide +kernel)) ggX12_tell_X12_isThing
set_option maxRecDepth 20000 in
theorem ggX12_tell_X12_keepAct : GoodIn wsX12_tell wsX12_keepAct := goodIn_r _ [19, 20, 21, 1, 22, 30, 31, 32, 33, 34, 35, 36, 37, 38, 39, 40, 41, 42, 43, 44, 45, 46, 47, 48, 49, 50, 51, 52, 53, 54, 55, 56, 57, 58, 59, 60, 61, 62, 63, 64, 65, 66, 67, 68, 69, 70, 71, 72, 73, 74, 75, 76, 77, 78, 79, 80, 81, 82, 83, 84, 85, 86, 87, 88, 89, 90, 91, 92, 93, 94, 95, 96, 97, 98, 99, 100] (by decide +kernel) (by decide +kernel)
set_option maxRecDepth 20000 in
theorem gX12_tell_X12_keepAct : GoodIn wsX12_tell (wsV RX12 448 RX12 yX12_keepAct wsX12_keepAct) := goodIn_app (goodIn_of _ (by decide +kernel)) ggX12_tell_X12_keepAct
set_option maxRecDepth 20000 in
theorem ggX12_tell_X12_spoken : GoodIn wsX12_tell wsX12_spoken := goodIn_r _ [26, 1, 27, 28, 5, 29, 30, 31, 32, 33, 34, 35, 36, 37, 38, 39, 40, 41, 42, 43, 44, 45, 46, 47, 48, 49, 50, 51, 52, 53, 54, 55, 56, 57, 58, 59, 60, 61, 62, 63, 64, 65, 66, 67, 68, 69, 70, 71, 72, 73, 74, 75, 76, 77, 78, 79, 80, 81, 82, 83, 84, 85, 86, 87, 88, 89, 90, 91, 92, 93, 94, 95, 96, 97, 98, 99, 100] (by decide +kernel) (by decide +kernel)
set_option maxRecDepth 20000 in
theorem gX12_tell_X12_spoken : GoodIn wsX12_tell (wsV RX12 451 RX12 yX12_spoken wsX12_spoken) := goodIn_app (goodIn_of _ (by decide +kernel)) ggX12_tell_X12_spoken
set_option maxRecDepth 20000 in
theorem ggX12_hear_X12_isThing : GoodIn wsX12_hear wsX12_isThing := goodIn_r _ [6, 7, 8, 9, 5, 10, 11, 12, 13, 14, 15, 30, 31, 32, 33, 34, 35, 36, 37, 38, 39, 40, 41, 42, 43, 44, 45, 46, 47, 48, 49, 50, 51, 52, 53, 54, 55, 56, 57, 58, 59, 60, 61, 62, 63, 64, 65, 66, 67, 68, 69, 70, 71, 72, 73, 74, 75, 76, 77, 78, 79, 80, 81, 82, 83, 84, 85, 86, 87, 88, 89, 90, 91, 92, 93, 94, 95, 96, 97, 98, 99, 100] (by decide +kernel) (by decide +kernel)
set_option maxRecDepth 20000 in
theorem gX12_hear_X12_isThing : GoodIn wsX12_hear (wsV RX12 436 RX12 yX12_isThing wsX12_isThing) := goodIn_app (goodIn_of _ (by decide +kernel)) ggX12_hear_X12_isThing
set_option maxRecDepth 20000 in
theorem ggX12_hear_X12_keepAct : GoodIn wsX12_hear wsX12_keepAct := goodIn_r _ [19, 20, 21, 1, 22, 30, 31, 32, 33, 34, 35, 36, 37, 38, 39, 40, 41, 42, 43, 44, 45, 46, 47, 48, 49, 50, 51, 52, 53, 54, 55, 56, 57, 58, 59, 60, 61, 62, 63, 64, 65, 66, 67, 68, 69, 70, 71, 72, 73, 74, 75, 76, 77, 78, 79, 80, 81, 82, 83, 84, 85, 86, 87, 88, 89, 90, 91, 92, 93, 94, 95, 96, 97, 98, 99, 100] (by decide +kernel) (by decide +kernel)
set_option maxRecDepth 20000 in
theorem gX12_hear_X12_keepAct : GoodIn wsX12_hear (wsV RX12 448 RX12 yX12_keepAct wsX12_keepAct) := goodIn_app (goodIn_of _ (by decide +kernel)) ggX12_hear_X12_keepAct
set_option maxRecDepth 20000 in
theorem ggX12_hear_X12_spoken : GoodIn wsX12_hear wsX12_spoken := goodIn_r _ [26, 1, 27, 28, 5, 29, 30, 31, 32, 33, 34, 35, 36, 37, 38, 39, 40, 41, 42, 43, 44, 45, 46, 47, 48, 49, 50, 51, 52, 53, 54, 55, 56, 57, 58, 59, 60, 61, 62, 63, 64, 65, 66, 67, 68, 69, 70, 71, 72, 73, 74, 75, 76, 77, 78, 79, 80, 81, 82, 83, 84, 85, 86, 87, 88, 89, 90, 91, 92, 93, 94, 95, 96, 97, 98, 99, 100] (by decide +kernel) (by decide +kernel)
set_option maxRecDepth 20000 in
theorem gX12_hear_X12_spoken : GoodIn wsX12_hear (wsV RX12 451 RX12 yX12_spoken wsX12_spoken) := goodIn_app (goodIn_of _ (by decide +kernel)) ggX12_hear_X12_spoken
set_option maxRecDepth 20000 in
theorem ggX12_send_X12_isThing : GoodIn wsX12_send wsX12_isThing := goodIn_r _ [6, 7, 8, 9, 5, 10, 11, 12, 13, 14, 15, 23, 24, 25, 26, 27, 28, 29, 30, 31, 32, 33, 34, 35, 36, 37, 38, 39, 40, 41, 42, 43, 44, 45, 46, 47, 48, 49, 50, 51, 52, 53, 54, 55, 56, 57, 58, 59, 60, 61, 62, 63, 64, 65, 66, 67, 68, 69, 70, 71, 72, 73, 74, 75, 76, 77, 78, 79, 80, 81, 82, 83, 84, 85, 86, 87, 88, 89, 90, 91, 92, 93] (by decide +kernel) (by decide +kernel)
set_option maxRecDepth 20000 in
theorem gX12_send_X12_isThing : GoodIn wsX12_send (wsV RX12 436 RX12 yX12_isThing wsX12_isThing) := goodIn_app (goodIn_of _ (by decide +kernel)) ggX12_send_X12_isThing
set_option maxRecDepth 20000 in
theorem ggX12_send_X12_keepAct : GoodIn wsX12_send wsX12_keepAct := goodIn_r _ [19, 20, 21, 1, 22, 23, 24, 25, 26, 27, 28, 29, 30, 31, 32, 33, 34, 35, 36, 37, 38, 39, 40, 41, 42, 43, 44, 45, 46, 47, 48, 49, 50, 51, 52, 53, 54, 55, 56, 57, 58, 59, 60, 61, 62, 63, 64, 65, 66, 67, 68, 69, 70, 71, 72, 73, 74, 75, 76, 77, 78, 79, 80, 81, 82, 83, 84, 85, 86, 87, 88, 89, 90, 91, 92, 93] (by decide +kernel) (by decide +kernel)
set_option maxRecDepth 20000 in
theorem gX12_send_X12_keepAct : GoodIn wsX12_send (wsV RX12 448 RX12 yX12_keepAct wsX12_keepAct) := goodIn_app (goodIn_of _ (by decide +kernel)) ggX12_send_X12_keepAct
theorem iw_X12_creakOf_X12 : ∀ w ∈ wsX120, w ∈ wsX12_creakOf := fun _ h => List.mem_cons_of_mem _ (List.mem_append_right _ h)
theorem iw_X12_oneOf_X12 : ∀ w ∈ wsX120, w ∈ wsX12_oneOf := fun _ h => List.mem_cons_of_mem _ (List.mem_append_right _ h)
theorem iw_X12_otherOf_X12 : ∀ w ∈ wsX120, w ∈ wsX12_otherOf := fun _ h => List.mem_cons_of_mem _ (List.mem_append_right _ h)
theorem iw_X12_farOf_X12 : ∀ w ∈ wsX120, w ∈ wsX12_farOf := fun _ h => List.mem_cons_of_mem _ (List.mem_append_right _ h)
theorem iw_X12_offOf_X12 : ∀ w ∈ wsX120, w ∈ wsX12_offOf := fun _ h => List.mem_cons_of_mem _ (List.mem_append_right _ h)
theorem iw_X12_asked_X12 : ∀ w ∈ wsX120, w ∈ wsX12_asked := fun _ h => List.mem_cons_of_mem _ (List.mem_append_right _ h)
theorem iw_X12_comes_X12 : ∀ w ∈ wsX120, w ∈ wsX12_comes := fun _ h => List.mem_cons_of_mem _ (List.mem_append_right _ h)
theorem iw_X12_sureOf_X12 : ∀ w ∈ wsX120, w ∈ wsX12_sureOf := fun _ h => List.mem_cons_of_mem _ (List.mem_append_right _ h)
theorem iw_X12_thingsIn_X12 : ∀ w ∈ wsX120, w ∈ wsX12_thingsIn := fun _ h => List.mem_cons_of_mem _ (List.mem_append_right _ h)
theorem iw_X12_keepAct_X12 : ∀ w ∈ wsX120, w ∈ wsX12_keepAct := fun _ h => List.mem_cons_of_mem _ (List.mem_append_right _ h)
theorem iw_X12_exchange_X12 : ∀ w ∈ wsX120, w ∈ wsX12_exchange := fun _ h => List.mem_cons_of_mem _ (List.mem_append_right _ h)
theorem iw_X12_spoken_X12 : ∀ w ∈ wsX120, w ∈ wsX12_spoken := fun _ h => List.mem_cons_of_mem _ (List.mem_append_right _ h)
theorem iw_X12_tell_X12 : ∀ w ∈ wsX120, w ∈ wsX12_tell := fun _ h => List.mem_cons_of_mem _ (List.mem_append_right _ h)
theorem iw_X12_hear_X12 : ∀ w ∈ wsX120, w ∈ wsX12_hear := fun _ h => List.mem_cons_of_mem _ (List.mem_append_right _ h)
theorem iw_X12_send_X12 : ∀ w ∈ wsX120, w ∈ wsX12_send := fun _ h => List.mem_cons_of_mem _ (List.mem_append_right _ h)
