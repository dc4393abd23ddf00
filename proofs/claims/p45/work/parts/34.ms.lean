def wsX12_carry_r1 : List Cond := [Cond.fieldLink RX12 24 "SoldHouseModel" "doors" "[I", Cond.fieldLink RX12 280 "SoldHouseModel" "bank" "I", Cond.fieldLink RX12 95 "SoldHouseModel" "all" "[I", Cond.methodLink RX12 436 yX12_isThing, Cond.instanceMethod yX12_isThing, Cond.selects RX12 yX12_isThing yX12_isThing, Cond.initialized RX12, Cond.code yX12_isThing cX12_isThing 2 (some .boolean), Cond.methodLink RX12 388 yX12_many, Cond.instanceMethod yX12_many, Cond.selects RX12 yX12_many yX12_many, Cond.code yX12_many cX12_many 1 (some .int), Cond.fieldLink RX12 27 "SoldHouseModel" "things" "[I", Cond.methodLink RX12 381 yX12_isIn, Cond.static yX12_isIn, Cond.code yX12_isIn cX12_isIn 3 (some .boolean), Cond.methodLink RX12 391 yX12_oneOf, Cond.instanceMethod yX12_oneOf, Cond.selects RX12 yX12_oneOf yX12_oneOf, Cond.code yX12_oneOf cX12_oneOf 2 (some .int), Cond.fieldLink RX12 39 "SoldHouseModel" "one" "[I", Cond.methodLink RX12 394 yX12_otherOf, Cond.instanceMethod yX12_otherOf, Cond.selects RX12 yX12_otherOf yX12_otherOf]
def wsX12_carry_r2 : List Cond := [Cond.code yX12_otherOf cX12_otherOf 2 (some .int), Cond.fieldLink RX12 42 "SoldHouseModel" "other" "[I", Cond.methodLink RX12 448 yX12_keepAct, Cond.instanceMethod yX12_keepAct, Cond.selects RX12 yX12_keepAct yX12_keepAct, Cond.code yX12_keepAct cX12_keepAct 2 none, Cond.fieldLink RX12 409 "SoldHouseModel" "acts" "I", Cond.fieldLink RX12 104 "SoldHouseModel" "was" "[I", Cond.fieldLink RX12 412 "SoldHouseModel" "undone" "I"]
def wsX12_carry : List Cond := .code yX12_carry cX12_carry 4 (some .int) :: ((wsX12_carry_r1 ++ wsX12_carry_r2) ++ wsX120)
def wsX12_goDay_r1 : List Cond := [Cond.fieldLink RX12 95 "SoldHouseModel" "all" "[I", Cond.methodLink RX12 388 yX12_many, Cond.instanceMethod yX12_many, Cond.selects RX12 yX12_many yX12_many, Cond.initialized RX12, Cond.code yX12_many cX12_many 1 (some .int), Cond.fieldLink RX12 27 "SoldHouseModel" "things" "[I", Cond.fieldLink RX12 280 "SoldHouseModel" "bank" "I", Cond.methodLink RX12 439 yX12_sureOf, Cond.instanceMethod yX12_sureOf, Cond.selects RX12 yX12_sureOf yX12_sureOf, Cond.code yX12_sureOf cX12_sureOf 3 (some .int), Cond.fieldLink RX12 66 "SoldHouseModel" "hasSure" "[Z", Cond.fieldLink RX12 365 "SoldHouseModel" "askThing" "I", Cond.methodLink RX12 427 yX12_comes, Cond.instanceMethod yX12_comes, Cond.selects RX12 yX12_comes yX12_comes, Cond.code yX12_comes cX12_comes 4 (some .int), Cond.fieldLink RX12 60 "SoldHouseModel" "ruleFrom" "[I", Cond.fieldLink RX12 63 "SoldHouseModel" "ruleTo" "[I", Cond.fieldLink RX12 80 "SoldHouseModel" "code" "[I", Cond.fieldLink RX12 92 "SoldHouseModel" "pile" "[I", Cond.fieldLink RX12 83 "SoldHouseModel" "codeNumber" "[I", Cond.methodLink RX12 226 yX12_isLetter]
def wsX12_goDay_r2 : List Cond := [Cond.static yX12_isLetter, Cond.code yX12_isLetter cX12_isLetter 1 (some .boolean), Cond.methodLink RX12 371 yX12_asked, Cond.instanceMethod yX12_asked, Cond.selects RX12 yX12_asked yX12_asked, Cond.code yX12_asked cX12_asked 3 (some .int), Cond.fieldLink RX12 54 "SoldHouseModel" "toUs" "[I", Cond.fieldLink RX12 57 "SoldHouseModel" "toThem" "[I", Cond.methodLink RX12 368 yX12_offOf, Cond.instanceMethod yX12_offOf, Cond.selects RX12 yX12_offOf yX12_offOf, Cond.code yX12_offOf cX12_offOf 2 (some .int), Cond.methodLink RX12 421 yX12_farOf, Cond.instanceMethod yX12_farOf, Cond.selects RX12 yX12_farOf yX12_farOf, Cond.code yX12_farOf cX12_farOf 3 (some .int), Cond.fieldLink RX12 98 "SoldHouseModel" "table" "[I", Cond.methodLink RX12 424 yX12_lesser, Cond.static yX12_lesser, Cond.code yX12_lesser cX12_lesser 2 (some .int), Cond.methodLink RX12 374 yX12_two, Cond.static yX12_two, Cond.code yX12_two cX12_two 3 (some .int), Cond.methodLink RX12 378 yX12_places]
def wsX12_goDay_r3 : List Cond := [Cond.instanceMethod yX12_places, Cond.selects RX12 yX12_places yX12_places, Cond.code yX12_places cX12_places 1 (some .int), Cond.fieldLink RX12 20 "SoldHouseModel" "rooms" "[I"]
def wsX12_goDay : List Cond := .code yX12_goDay cX12_goDay 3 (some .int) :: ((wsX12_goDay_r1 ++ (wsX12_goDay_r2 ++ wsX12_goDay_r3)) ++ wsX120)
def wsX12_day_r1 : List Cond := [Cond.fieldLink RX12 95 "SoldHouseModel" "all" "[I", Cond.methodLink RX12 448 yX12_keepAct, Cond.instanceMethod yX12_keepAct, Cond.selects RX12 yX12_keepAct yX12_keepAct, Cond.initialized RX12, Cond.code yX12_keepAct cX12_keepAct 2 none, Cond.fieldLink RX12 409 "SoldHouseModel" "acts" "I", Cond.fieldLink RX12 104 "SoldHouseModel" "was" "[I", Cond.fieldLink RX12 412 "SoldHouseModel" "undone" "I", Cond.methodLink RX12 454 yX12_goDay, Cond.instanceMethod yX12_goDay, Cond.selects RX12 yX12_goDay yX12_goDay, Cond.code yX12_goDay cX12_goDay 3 (some .int), Cond.methodLink RX12 388 yX12_many, Cond.instanceMethod yX12_many, Cond.selects RX12 yX12_many yX12_many, Cond.code yX12_many cX12_many 1 (some .int), Cond.fieldLink RX12 27 "SoldHouseModel" "things" "[I", Cond.fieldLink RX12 280 "SoldHouseModel" "bank" "I", Cond.methodLink RX12 439 yX12_sureOf, Cond.instanceMethod yX12_sureOf, Cond.selects RX12 yX12_sureOf yX12_sureOf, Cond.code yX12_sureOf cX12_sureOf 3 (some .int), Cond.fieldLink RX12 66 "SoldHouseModel" "hasSure" "[Z"]
def wsX12_day_r2 : List Cond := [Cond.fieldLink RX12 365 "SoldHouseModel" "askThing" "I", Cond.methodLink RX12 427 yX12_comes, Cond.instanceMethod yX12_comes, Cond.selects RX12 yX12_comes yX12_comes, Cond.code yX12_comes cX12_comes 4 (some .int), Cond.fieldLink RX12 60 "SoldHouseModel" "ruleFrom" "[I", Cond.fieldLink RX12 63 "SoldHouseModel" "ruleTo" "[I", Cond.fieldLink RX12 80 "SoldHouseModel" "code" "[I", Cond.fieldLink RX12 92 "SoldHouseModel" "pile" "[I", Cond.fieldLink RX12 83 "SoldHouseModel" "codeNumber" "[I", Cond.methodLink RX12 226 yX12_isLetter, Cond.static yX12_isLetter, Cond.code yX12_isLetter cX12_isLetter 1 (some .boolean), Cond.methodLink RX12 371 yX12_asked, Cond.instanceMethod yX12_asked, Cond.selects RX12 yX12_asked yX12_asked, Cond.code yX12_asked cX12_asked 3 (some .int), Cond.fieldLink RX12 54 "SoldHouseModel" "toUs" "[I", Cond.fieldLink RX12 57 "SoldHouseModel" "toThem" "[I", Cond.methodLink RX12 368 yX12_offOf, Cond.instanceMethod yX12_offOf, Cond.selects RX12 yX12_offOf yX12_offOf, Cond.code yX12_offOf cX12_offOf 2 (some .int), Cond.methodLink RX12 421 yX12_farOf]
def wsX12_day_r3 : List Cond := [Cond.instanceMethod yX12_farOf, Cond.selects RX12 yX12_farOf yX12_farOf, Cond.code yX12_farOf cX12_farOf 3 (some .int), Cond.fieldLink RX12 98 "SoldHouseModel" "table" "[I", Cond.methodLink RX12 424 yX12_lesser, Cond.static yX12_lesser, Cond.code yX12_lesser cX12_lesser 2 (some .int), Cond.methodLink RX12 374 yX12_two, Cond.static yX12_two, Cond.code yX12_two cX12_two 3 (some .int), Cond.methodLink RX12 378 yX12_places, Cond.instanceMethod yX12_places, Cond.selects RX12 yX12_places yX12_places, Cond.code yX12_places cX12_places 1 (some .int), Cond.fieldLink RX12 20 "SoldHouseModel" "rooms" "[I"]
def wsX12_day : List Cond := .code yX12_day cX12_day 1 (some .int) :: ((wsX12_day_r1 ++ (wsX12_day_r2 ++ wsX12_day_r3)) ++ wsX120)
def wsX12_undo : List Cond := .code yX12_undo cX12_undo 1 (some .boolean) :: ([.fieldLink RX12 409 "SoldHouseModel" "acts" "I", .fieldLink RX12 412 "SoldHouseModel" "undone" "I", .methodLink RX12 457 yX12_exchange, .instanceMethod yX12_exchange, .selects RX12 yX12_exchange yX12_exchange, .initialized RX12, .code yX12_exchange cX12_exchange 3 none, .fieldLink RX12 104 "SoldHouseModel" "was" "[I", .fieldLink RX12 95 "SoldHouseModel" "all" "[I"] ++ wsX120)
def wsX12_redo : List Cond := .code yX12_redo cX12_redo 1 (some .boolean) :: ([.fieldLink RX12 412 "SoldHouseModel" "undone" "I", .fieldLink RX12 409 "SoldHouseModel" "acts" "I", .methodLink RX12 457 yX12_exchange, .instanceMethod yX12_exchange, .selects RX12 yX12_exchange yX12_exchange, .initialized RX12, .code yX12_exchange cX12_exchange 3 none, .fieldLink RX12 104 "SoldHouseModel" "was" "[I", .fieldLink RX12 95 "SoldHouseModel" "all" "[I"] ++ wsX120)
def wsX12_thing_r1 : List Cond := [Cond.fieldLink RX12 95 "SoldHouseModel" "all" "[I", Cond.fieldLink RX12 54 "SoldHouseModel" "toUs" "[I", Cond.fieldLink RX12 280 "SoldHouseModel" "bank" "I", Cond.fieldLink RX12 57 "SoldHouseModel" "toThem" "[I", Cond.methodLink RX12 436 yX12_isThing, Cond.instanceMethod yX12_isThing, Cond.selects RX12 yX12_isThing yX12_isThing, Cond.initialized RX12, Cond.code yX12_isThing cX12_isThing 2 (some .boolean), Cond.methodLink RX12 388 yX12_many, Cond.instanceMethod yX12_many, Cond.selects RX12 yX12_many yX12_many, Cond.code yX12_many cX12_many 1 (some .int), Cond.fieldLink RX12 27 "SoldHouseModel" "things" "[I", Cond.methodLink RX12 381 yX12_isIn, Cond.static yX12_isIn, Cond.code yX12_isIn cX12_isIn 3 (some .boolean), Cond.methodLink RX12 439 yX12_sureOf, Cond.instanceMethod yX12_sureOf, Cond.selects RX12 yX12_sureOf yX12_sureOf, Cond.code yX12_sureOf cX12_sureOf 3 (some .int), Cond.fieldLink RX12 66 "SoldHouseModel" "hasSure" "[Z", Cond.fieldLink RX12 365 "SoldHouseModel" "askThing" "I", Cond.methodLink RX12 427 yX12_comes]
def wsX12_thing_r2 : List Cond := [Cond.instanceMethod yX12_comes, Cond.selects RX12 yX12_comes yX12_comes, Cond.code yX12_comes cX12_comes 4 (some .int), Cond.fieldLink RX12 60 "SoldHouseModel" "ruleFrom" "[I", Cond.fieldLink RX12 63 "SoldHouseModel" "ruleTo" "[I", Cond.fieldLink RX12 80 "SoldHouseModel" "code" "[I", Cond.fieldLink RX12 92 "SoldHouseModel" "pile" "[I", Cond.fieldLink RX12 83 "SoldHouseModel" "codeNumber" "[I", Cond.methodLink RX12 226 yX12_isLetter, Cond.static yX12_isLetter, Cond.code yX12_isLetter cX12_isLetter 1 (some .boolean), Cond.methodLink RX12 371 yX12_asked, Cond.instanceMethod yX12_asked, Cond.selects RX12 yX12_asked yX12_asked, Cond.code yX12_asked cX12_asked 3 (some .int), Cond.methodLink RX12 368 yX12_offOf, Cond.instanceMethod yX12_offOf, Cond.selects RX12 yX12_offOf yX12_offOf, Cond.code yX12_offOf cX12_offOf 2 (some .int), Cond.methodLink RX12 421 yX12_farOf, Cond.instanceMethod yX12_farOf, Cond.selects RX12 yX12_farOf yX12_farOf, Cond.code yX12_farOf cX12_farOf 3 (some .int), Cond.fieldLink RX12 98 "SoldHouseModel" "table" "[I"]
def wsX12_thing_r3 : List Cond := [Cond.methodLink RX12 424 yX12_lesser, Cond.static yX12_lesser, Cond.code yX12_lesser cX12_lesser 2 (some .int), Cond.methodLink RX12 374 yX12_two, Cond.static yX12_two, Cond.code yX12_two cX12_two 3 (some .int)]
def wsX12_thing : List Cond := .code yX12_thing cX12_thing 3 (some .int) :: ((wsX12_thing_r1 ++ (wsX12_thing_r2 ++ wsX12_thing_r3)) ++ wsX120)
def wsX12_stay_r1 : List Cond := [Cond.fieldLink RX12 95 "SoldHouseModel" "all" "[I", Cond.methodLink RX12 436 yX12_isThing, Cond.instanceMethod yX12_isThing, Cond.selects RX12 yX12_isThing yX12_isThing, Cond.initialized RX12, Cond.code yX12_isThing cX12_isThing 2 (some .boolean), Cond.methodLink RX12 388 yX12_many, Cond.instanceMethod yX12_many, Cond.selects RX12 yX12_many yX12_many, Cond.code yX12_many cX12_many 1 (some .int), Cond.fieldLink RX12 27 "SoldHouseModel" "things" "[I", Cond.fieldLink RX12 280 "SoldHouseModel" "bank" "I", Cond.methodLink RX12 381 yX12_isIn, Cond.static yX12_isIn, Cond.code yX12_isIn cX12_isIn 3 (some .boolean), Cond.methodLink RX12 439 yX12_sureOf, Cond.instanceMethod yX12_sureOf, Cond.selects RX12 yX12_sureOf yX12_sureOf, Cond.code yX12_sureOf cX12_sureOf 3 (some .int), Cond.fieldLink RX12 66 "SoldHouseModel" "hasSure" "[Z", Cond.fieldLink RX12 365 "SoldHouseModel" "askThing" "I", Cond.methodLink RX12 427 yX12_comes, Cond.instanceMethod yX12_comes, Cond.selects RX12 yX12_comes yX12_comes]
def wsX12_stay_r2 : List Cond := [Cond.code yX12_comes cX12_comes 4 (some .int), Cond.fieldLink RX12 60 "SoldHouseModel" "ruleFrom" "[I", Cond.fieldLink RX12 63 "SoldHouseModel" "ruleTo" "[I", Cond.fieldLink RX12 80 "SoldHouseModel" "code" "[I", Cond.fieldLink RX12 92 "SoldHouseModel" "pile" "[I", Cond.fieldLink RX12 83 "SoldHouseModel" "codeNumber" "[I", Cond.methodLink RX12 226 yX12_isLetter, Cond.static yX12_isLetter, Cond.code yX12_isLetter cX12_isLetter 1 (some .boolean), Cond.methodLink RX12 371 yX12_asked, Cond.instanceMethod yX12_asked, Cond.selects RX12 yX12_asked yX12_asked, Cond.code yX12_asked cX12_asked 3 (some .int), Cond.fieldLink RX12 54 "SoldHouseModel" "toUs" "[I", Cond.fieldLink RX12 57 "SoldHouseModel" "toThem" "[I", Cond.methodLink RX12 368 yX12_offOf, Cond.instanceMethod yX12_offOf, Cond.selects RX12 yX12_offOf yX12_offOf, Cond.code yX12_offOf cX12_offOf 2 (some .int), Cond.methodLink RX12 421 yX12_farOf, Cond.instanceMethod yX12_farOf, Cond.selects RX12 yX12_farOf yX12_farOf, Cond.code yX12_farOf cX12_farOf 3 (some .int), Cond.fieldLink RX12 98 "SoldHouseModel" "table" "[I"]
def wsX12_stay_r3 : List Cond := [Cond.methodLink RX12 424 yX12_lesser, Cond.static yX12_lesser, Cond.code yX12_lesser cX12_lesser 2 (some .int), Cond.methodLink RX12 374 yX12_two, Cond.static yX12_two, Cond.code yX12_two cX12_two 3 (some .int), Cond.methodLink RX12 496 yX12_divisor, Cond.static yX12_divisor, Cond.code yX12_divisor cX12_divisor 5 (some .int)]
def wsX12_stay : List Cond := .code yX12_stay cX12_stay 8 (some .int) :: ((wsX12_stay_r1 ++ (wsX12_stay_r2 ++ wsX12_stay_r3)) ++ wsX120)
def wsX12_keepNow : List Cond := .code yX12_keepNow cX12_keepNow 2 none :: ([.fieldLink RX12 134 "SoldHouseModel" "kept" "[I", .fieldLink RX12 95 "SoldHouseModel" "all" "[I"] ++ wsX120)
def wsX12_bringBack : List Cond := .code yX12_bringBack cX12_bringBack 2 none :: ([.fieldLink RX12 95 "SoldHouseModel" "all" "[I", .fieldLink RX12 134 "SoldHouseModel" "kept" "[I"] ++ wsX120)
def wsX12_rightOnes : List Cond := .code yX12_rightOnes cX12_rightOnes 3 (some .int) :: ([.fieldLink RX12 95 "SoldHouseModel" "all" "[I", .methodLink RX12 388 yX12_many, .instanceMethod yX12_many, .selects RX12 yX12_many yX12_many, .initialized RX12, .code yX12_many cX12_many 1 (some .int), .fieldLink RX12 27 "SoldHouseModel" "things" "[I", .fieldLink RX12 280 "SoldHouseModel" "bank" "I"] ++ wsX120)
def wsX12_will_r1 : List Cond := [Cond.fieldLink RX12 95 "SoldHouseModel" "all" "[I", Cond.methodLink RX12 436 yX12_isThing, Cond.instanceMethod yX12_isThing, Cond.selects RX12 yX12_isThing yX12_isThing, Cond.initialized RX12, Cond.code yX12_isThing cX12_isThing 2 (some .boolean), Cond.methodLink RX12 388 yX12_many, Cond.instanceMethod yX12_many, Cond.selects RX12 yX12_many yX12_many, Cond.code yX12_many cX12_many 1 (some .int), Cond.fieldLink RX12 27 "SoldHouseModel" "things" "[I", Cond.fieldLink RX12 280 "SoldHouseModel" "bank" "I", Cond.methodLink RX12 381 yX12_isIn, Cond.static yX12_isIn, Cond.code yX12_isIn cX12_isIn 3 (some .boolean), Cond.methodLink RX12 499 yX12_keepNow, Cond.instanceMethod yX12_keepNow, Cond.selects RX12 yX12_keepNow yX12_keepNow, Cond.code yX12_keepNow cX12_keepNow 2 none, Cond.fieldLink RX12 134 "SoldHouseModel" "kept" "[I", Cond.methodLink RX12 454 yX12_goDay, Cond.instanceMethod yX12_goDay, Cond.selects RX12 yX12_goDay yX12_goDay, Cond.code yX12_goDay cX12_goDay 3 (some .int)]
def wsX12_will_r2 : List Cond := [Cond.methodLink RX12 439 yX12_sureOf, Cond.instanceMethod yX12_sureOf, Cond.selects RX12 yX12_sureOf yX12_sureOf, Cond.code yX12_sureOf cX12_sureOf 3 (some .int), Cond.fieldLink RX12 66 "SoldHouseModel" "hasSure" "[Z", Cond.fieldLink RX12 365 "SoldHouseModel" "askThing" "I", Cond.methodLink RX12 427 yX12_comes, Cond.instanceMethod yX12_comes, Cond.selects RX12 yX12_comes yX12_comes, Cond.code yX12_comes cX12_comes 4 (some .int), Cond.fieldLink RX12 60 "SoldHouseModel" "ruleFrom" "[I", Cond.fieldLink RX12 63 "SoldHouseModel" "ruleTo" "[I", Cond.fieldLink RX12 80 "SoldHouseModel" "code" "[I", Cond.fieldLink RX12 92 "SoldHouseModel" "pile" "[I", Cond.fieldLink RX12 83 "SoldHouseModel" "codeNumber" "[I", Cond.methodLink RX12 226 yX12_isLetter, Cond.static yX12_isLetter, Cond.code yX12_isLetter cX12_isLetter 1 (some .boolean), Cond.methodLink RX12 371 yX12_asked, Cond.instanceMethod yX12_asked, Cond.selects RX12 yX12_asked yX12_asked, Cond.code yX12_asked cX12_asked 3 (some .int), Cond.fieldLink RX12 54 "SoldHouseModel" "toUs" "[I", Cond.fieldLink RX12 57 "SoldHouseModel" "toThem" "[I"]
def wsX12_will_r3 : List Cond := [Cond.methodLink RX12 368 yX12_offOf, Cond.instanceMethod yX12_offOf, Cond.selects RX12 yX12_offOf yX12_offOf, Cond.code yX12_offOf cX12_offOf 2 (some .int), Cond.methodLink RX12 421 yX12_farOf, Cond.instanceMethod yX12_farOf, Cond.selects RX12 yX12_farOf yX12_farOf, Cond.code yX12_farOf cX12_farOf 3 (some .int), Cond.fieldLink RX12 98 "SoldHouseModel" "table" "[I", Cond.methodLink RX12 424 yX12_lesser, Cond.static yX12_lesser, Cond.code yX12_lesser cX12_lesser 2 (some .int), Cond.methodLink RX12 374 yX12_two, Cond.static yX12_two, Cond.code yX12_two cX12_two 3 (some .int), Cond.methodLink RX12 378 yX12_places, Cond.instanceMethod yX12_places, Cond.selects RX12 yX12_places yX12_places, Cond.code yX12_places cX12_places 1 (some .int), Cond.fieldLink RX12 20 "SoldHouseModel" "rooms" "[I", Cond.methodLink RX12 502 yX12_bringBack, Cond.instanceMethod yX12_bringBack, Cond.selects RX12 yX12_bringBack yX12_bringBack, Cond.code yX12_bringBack cX12_bringBack 2 none]
def wsX12_will : List Cond := .code yX12_will cX12_will 5 (some .int) :: ((wsX12_will_r1 ++ (wsX12_will_r2 ++ wsX12_will_r3)) ++ wsX120)
def wsX12_lost_r1 : List Cond := [Cond.methodLink RX12 388 yX12_many, Cond.instanceMethod yX12_many, Cond.selects RX12 yX12_many yX12_many, Cond.initialized RX12, Cond.code yX12_many cX12_many 1 (some .int), Cond.fieldLink RX12 27 "SoldHouseModel" "things" "[I", Cond.fieldLink RX12 280 "SoldHouseModel" "bank" "I", Cond.methodLink RX12 499 yX12_keepNow, Cond.instanceMethod yX12_keepNow, Cond.selects RX12 yX12_keepNow yX12_keepNow, Cond.code yX12_keepNow cX12_keepNow 2 none, Cond.fieldLink RX12 134 "SoldHouseModel" "kept" "[I", Cond.fieldLink RX12 95 "SoldHouseModel" "all" "[I", Cond.methodLink RX12 493 yX12_rightOnes, Cond.instanceMethod yX12_rightOnes, Cond.selects RX12 yX12_rightOnes yX12_rightOnes, Cond.code yX12_rightOnes cX12_rightOnes 3 (some .int), Cond.methodLink RX12 454 yX12_goDay, Cond.instanceMethod yX12_goDay, Cond.selects RX12 yX12_goDay yX12_goDay, Cond.code yX12_goDay cX12_goDay 3 (some .int), Cond.methodLink RX12 439 yX12_sureOf, Cond.instanceMethod yX12_sureOf, Cond.selects RX12 yX12_sureOf yX12_sureOf]
def wsX12_lost_r2 : List Cond := [Cond.code yX12_sureOf cX12_sureOf 3 (some .int), Cond.fieldLink RX12 66 "SoldHouseModel" "hasSure" "[Z", Cond.fieldLink RX12 365 "SoldHouseModel" "askThing" "I", Cond.methodLink RX12 427 yX12_comes, Cond.instanceMethod yX12_comes, Cond.selects RX12 yX12_comes yX12_comes, Cond.code yX12_comes cX12_comes 4 (some .int), Cond.fieldLink RX12 60 "SoldHouseModel" "ruleFrom" "[I", Cond.fieldLink RX12 63 "SoldHouseModel" "ruleTo" "[I", Cond.fieldLink RX12 80 "SoldHouseModel" "code" "[I", Cond.fieldLink RX12 92 "SoldHouseModel" "pile" "[I", Cond.fieldLink RX12 83 "SoldHouseModel" "codeNumber" "[I", Cond.methodLink RX12 226 yX12_isLetter, Cond.static yX12_isLetter, Cond.code yX12_isLetter cX12_isLetter 1 (some .boolean), Cond.methodLink RX12 371 yX12_asked, Cond.instanceMethod yX12_asked, Cond.selects RX12 yX12_asked yX12_asked, Cond.code yX12_asked cX12_asked 3 (some .int), Cond.fieldLink RX12 54 "SoldHouseModel" "toUs" "[I", Cond.fieldLink RX12 57 "SoldHouseModel" "toThem" "[I", Cond.methodLink RX12 368 yX12_offOf, Cond.instanceMethod yX12_offOf, Cond.selects RX12 yX12_offOf yX12_offOf]
def wsX12_lost_r3 : List Cond := [Cond.code yX12_offOf cX12_offOf 2 (some .int), Cond.methodLink RX12 421 yX12_farOf, Cond.instanceMethod yX12_farOf, Cond.selects RX12 yX12_farOf yX12_farOf, Cond.code yX12_farOf cX12_farOf 3 (some .int), Cond.fieldLink RX12 98 "SoldHouseModel" "table" "[I", Cond.methodLink RX12 424 yX12_lesser, Cond.static yX12_lesser, Cond.code yX12_lesser cX12_lesser 2 (some .int), Cond.methodLink RX12 374 yX12_two, Cond.static yX12_two, Cond.code yX12_two cX12_two 3 (some .int), Cond.methodLink RX12 378 yX12_places, Cond.instanceMethod yX12_places, Cond.selects RX12 yX12_places yX12_places, Cond.code yX12_places cX12_places 1 (some .int), Cond.fieldLink RX12 20 "SoldHouseModel" "rooms" "[I", Cond.methodLink RX12 502 yX12_bringBack, Cond.instanceMethod yX12_bringBack, Cond.selects RX12 yX12_bringBack yX12_bringBack, Cond.code yX12_bringBack cX12_bringBack 2 none]
def wsX12_lost : List Cond := .code yX12_lost cX12_lost 4 (some .int) :: ((wsX12_lost_r1 ++ (wsX12_lost_r2 ++ wsX12_lost_r3)) ++ wsX120)
def wsX12_later : List Cond := .code yX12_later cX12_later 2 (some .int) :: ([.fieldLink RX12 505 "SoldHouseModel" "time" "I", .constant RX12 512 (100000), .methodLink RX12 381 yX12_isIn, .static yX12_isIn, .initialized RX12, .code yX12_isIn cX12_isIn 3 (some .boolean)] ++ wsX120)
def wsX12_image : List Cond := .code yX12_image cX12_image 3 (some .int) :: ([.fieldLink RX12 161 "SoldHouseModel" "boxAll" "[I", .fieldLink RX12 95 "SoldHouseModel" "all" "[I", .fieldLink RX12 164 "SoldHouseModel" "isBoxed" "[Z", .methodLink RX12 381 yX12_isIn, .static yX12_isIn, .initialized RX12, .code yX12_isIn cX12_isIn 3 (some .boolean)] ++ wsX120)
def wsX12_back : List Cond := .code yX12_back cX12_back 3 (some .int) :: ([.fieldLink RX12 164 "SoldHouseModel" "isBoxed" "[Z", .fieldLink RX12 95 "SoldHouseModel" "all" "[I", .fieldLink RX12 161 "SoldHouseModel" "boxAll" "[I", .fieldLink RX12 409 "SoldHouseModel" "acts" "I", .fieldLink RX12 412 "SoldHouseModel" "undone" "I", .methodLink RX12 381 yX12_isIn, .static yX12_isIn, .initialized RX12, .code yX12_isIn cX12_isIn 3 (some .boolean)] ++ wsX120)
theorem dX12_carry_0 : decode cX12_carry 0 = .ok (.aload_n 0, 1) := by decide +kernel
theorem dX12_carry_1 : decode cX12_carry 1 = .ok (.iload_n 1, 1) := by decide +kernel
theorem dX12_carry_2 : decode cX12_carry 2 = .ok (.invokevirtual 436, 3) := by decide +kernel
theorem dX12_carry_5 : decode cX12_carry 5 = .ok (.ifCond .eq 22, 3) := by decide +kernel
theorem dX12_carry_8 : decode cX12_carry 8 = .ok (.iload_n 2, 1) := by decide +kernel
theorem dX12_carry_9 : decode cX12_carry 9 = .ok (.iconst 0, 1) := by decide +kernel
theorem dX12_carry_10 : decode cX12_carry 10 = .ok (.aload_n 0, 1) := by decide +kernel
theorem dX12_carry_11 : decode cX12_carry 11 = .ok (.getfield 24, 3) := by decide +kernel
theorem dX12_carry_14 : decode cX12_carry 14 = .ok (.aload_n 0, 1) := by decide +kernel
theorem dX12_carry_15 : decode cX12_carry 15 = .ok (.getfield 280, 3) := by decide +kernel
theorem dX12_carry_18 : decode cX12_carry 18 = .ok (.iaload, 1) := by decide +kernel
theorem dX12_carry_19 : decode cX12_carry 19 = .ok (.iconst 1, 1) := by decide +kernel
theorem dX12_carry_20 : decode cX12_carry 20 = .ok (.isub, 1) := by decide +kernel
theorem dX12_carry_21 : decode cX12_carry 21 = .ok (.invokestatic 381, 3) := by decide +kernel
theorem dX12_carry_24 : decode cX12_carry 24 = .ok (.ifCond .ne 5, 3) := by decide +kernel
theorem dX12_carry_27 : decode cX12_carry 27 = .ok (.iconst (-1), 1) := by decide +kernel
theorem dX12_carry_28 : decode cX12_carry 28 = .ok (.ireturn, 1) := by decide +kernel
theorem dX12_carry_29 : decode cX12_carry 29 = .ok (.aload_n 0, 1) := by decide +kernel
theorem dX12_carry_30 : decode cX12_carry 30 = .ok (.getfield 95, 3) := by decide +kernel
theorem dX12_carry_33 : decode cX12_carry 33 = .ok (.iconst 0, 1) := by decide +kernel
theorem dX12_carry_34 : decode cX12_carry 34 = .ok (.iload_n 1, 1) := by decide +kernel
theorem dX12_carry_35 : decode cX12_carry 35 = .ok (.iadd, 1) := by decide +kernel
theorem dX12_carry_36 : decode cX12_carry 36 = .ok (.iaload, 1) := by decide +kernel
theorem dX12_carry_37 : decode cX12_carry 37 = .ok (.istore_n 3, 1) := by decide +kernel
theorem dX12_carry_38 : decode cX12_carry 38 = .ok (.aload_n 0, 1) := by decide +kernel
theorem dX12_carry_39 : decode cX12_carry 39 = .ok (.iload_n 2, 1) := by decide +kernel
theorem dX12_carry_40 : decode cX12_carry 40 = .ok (.invokevirtual 391, 3) := by decide +kernel
theorem dX12_carry_43 : decode cX12_carry 43 = .ok (.iload_n 3, 1) := by decide +kernel
theorem dX12_carry_44 : decode cX12_carry 44 = .ok (.if_icmp .eq 14, 3) := by decide +kernel
theorem dX12_carry_47 : decode cX12_carry 47 = .ok (.aload_n 0, 1) := by decide +kernel
theorem dX12_carry_48 : decode cX12_carry 48 = .ok (.iload_n 2, 1) := by decide +kernel
theorem dX12_carry_49 : decode cX12_carry 49 = .ok (.invokevirtual 394, 3) := by decide +kernel
theorem dX12_carry_52 : decode cX12_carry 52 = .ok (.iload_n 3, 1) := by decide +kernel
theorem dX12_carry_53 : decode cX12_carry 53 = .ok (.if_icmp .eq 5, 3) := by decide +kernel
theorem dX12_carry_56 : decode cX12_carry 56 = .ok (.iconst (-1), 1) := by decide +kernel
theorem dX12_carry_57 : decode cX12_carry 57 = .ok (.ireturn, 1) := by decide +kernel
theorem dX12_carry_58 : decode cX12_carry 58 = .ok (.aload_n 0, 1) := by decide +kernel
theorem dX12_carry_59 : decode cX12_carry 59 = .ok (.invokevirtual 448, 3) := by decide +kernel
theorem dX12_carry_62 : decode cX12_carry 62 = .ok (.aload_n 0, 1) := by decide +kernel
theorem dX12_carry_63 : decode cX12_carry 63 = .ok (.getfield 95, 3) := by decide +kernel
theorem dX12_carry_66 : decode cX12_carry 66 = .ok (.iconst 0, 1) := by decide +kernel
theorem dX12_carry_67 : decode cX12_carry 67 = .ok (.iload_n 1, 1) := by decide +kernel
theorem dX12_carry_68 : decode cX12_carry 68 = .ok (.iadd, 1) := by decide +kernel
theorem dX12_carry_69 : decode cX12_carry 69 = .ok (.aload_n 0, 1) := by decide +kernel
theorem dX12_carry_70 : decode cX12_carry 70 = .ok (.iload_n 2, 1) := by decide +kernel
theorem dX12_carry_71 : decode cX12_carry 71 = .ok (.invokevirtual 391, 3) := by decide +kernel
theorem dX12_carry_74 : decode cX12_carry 74 = .ok (.iload_n 3, 1) := by decide +kernel
theorem dX12_carry_75 : decode cX12_carry 75 = .ok (.if_icmp .ne 11, 3) := by decide +kernel
theorem dX12_carry_78 : decode cX12_carry 78 = .ok (.aload_n 0, 1) := by decide +kernel
theorem dX12_carry_79 : decode cX12_carry 79 = .ok (.iload_n 2, 1) := by decide +kernel
theorem dX12_carry_80 : decode cX12_carry 80 = .ok (.invokevirtual 394, 3) := by decide +kernel
theorem dX12_carry_83 : decode cX12_carry 83 = .ok (.goto 8, 3) := by decide +kernel
theorem dX12_carry_86 : decode cX12_carry 86 = .ok (.aload_n 0, 1) := by decide +kernel
theorem dX12_carry_87 : decode cX12_carry 87 = .ok (.iload_n 2, 1) := by decide +kernel
theorem dX12_carry_88 : decode cX12_carry 88 = .ok (.invokevirtual 391, 3) := by decide +kernel
theorem dX12_carry_91 : decode cX12_carry 91 = .ok (.iastore, 1) := by decide +kernel
theorem dX12_carry_92 : decode cX12_carry 92 = .ok (.aload_n 0, 1) := by decide +kernel
theorem dX12_carry_93 : decode cX12_carry 93 = .ok (.getfield 95, 3) := by decide +kernel
theorem dX12_carry_96 : decode cX12_carry 96 = .ok (.bipush 18, 2) := by decide +kernel
theorem dX12_carry_98 : decode cX12_carry 98 = .ok (.iload_n 1, 1) := by decide +kernel
theorem dX12_carry_99 : decode cX12_carry 99 = .ok (.iadd, 1) := by decide +kernel
theorem dX12_carry_100 : decode cX12_carry 100 = .ok (.iconst 0, 1) := by decide +kernel
theorem dX12_carry_101 : decode cX12_carry 101 = .ok (.iastore, 1) := by decide +kernel
theorem dX12_carry_102 : decode cX12_carry 102 = .ok (.aload_n 0, 1) := by decide +kernel
theorem dX12_carry_103 : decode cX12_carry 103 = .ok (.getfield 95, 3) := by decide +kernel
theorem dX12_carry_106 : decode cX12_carry 106 = .ok (.bipush 24, 2) := by decide +kernel
theorem dX12_carry_108 : decode cX12_carry 108 = .ok (.iload_n 1, 1) := by decide +kernel
theorem dX12_carry_109 : decode cX12_carry 109 = .ok (.iadd, 1) := by decide +kernel
theorem dX12_carry_110 : decode cX12_carry 110 = .ok (.iconst (-1), 1) := by decide +kernel
theorem dX12_carry_111 : decode cX12_carry 111 = .ok (.iastore, 1) := by decide +kernel
theorem dX12_carry_112 : decode cX12_carry 112 = .ok (.aload_n 0, 1) := by decide +kernel
theorem dX12_carry_113 : decode cX12_carry 113 = .ok (.getfield 95, 3) := by decide +kernel
theorem dX12_carry_116 : decode cX12_carry 116 = .ok (.iconst 0, 1) := by decide +kernel
theorem dX12_carry_117 : decode cX12_carry 117 = .ok (.iload_n 1, 1) := by decide +kernel
theorem dX12_carry_118 : decode cX12_carry 118 = .ok (.iadd, 1) := by decide +kernel
theorem dX12_carry_119 : decode cX12_carry 119 = .ok (.iaload, 1) := by decide +kernel
theorem dX12_carry_120 : decode cX12_carry 120 = .ok (.ireturn, 1) := by decide +kernel
theorem dX12_goDay_0 : decode cX12_goDay 0 = .ok (.iconst 0, 1) := by decide +kernel
theorem dX12_goDay_1 : decode cX12_goDay 1 = .ok (.istore_n 1, 1) := by decide +kernel
theorem dX12_goDay_2 : decode cX12_goDay 2 = .ok (.iconst 0, 1) := by decide +kernel
theorem dX12_goDay_3 : decode cX12_goDay 3 = .ok (.istore_n 2, 1) := by decide +kernel
theorem dX12_goDay_4 : decode cX12_goDay 4 = .ok (.iload_n 2, 1) := by decide +kernel
theorem dX12_goDay_5 : decode cX12_goDay 5 = .ok (.aload_n 0, 1) := by decide +kernel
theorem dX12_goDay_6 : decode cX12_goDay 6 = .ok (.invokevirtual 388, 3) := by decide +kernel
theorem dX12_goDay_9 : decode cX12_goDay 9 = .ok (.if_icmp .ge 86, 3) := by decide +kernel
theorem dX12_goDay_12 : decode cX12_goDay 12 = .ok (.aload_n 0, 1) := by decide +kernel
theorem dX12_goDay_13 : decode cX12_goDay 13 = .ok (.getfield 95, 3) := by decide +kernel
theorem dX12_goDay_16 : decode cX12_goDay 16 = .ok (.bipush 31, 2) := by decide +kernel
theorem dX12_goDay_18 : decode cX12_goDay 18 = .ok (.sipush 137, 3) := by decide +kernel
theorem dX12_goDay_21 : decode cX12_goDay 21 = .ok (.aload_n 0, 1) := by decide +kernel
theorem dX12_goDay_22 : decode cX12_goDay 22 = .ok (.getfield 95, 3) := by decide +kernel
theorem dX12_goDay_25 : decode cX12_goDay 25 = .ok (.bipush 31, 2) := by decide +kernel
theorem dX12_goDay_27 : decode cX12_goDay 27 = .ok (.iaload, 1) := by decide +kernel
theorem dX12_goDay_28 : decode cX12_goDay 28 = .ok (.imul, 1) := by decide +kernel
theorem dX12_goDay_29 : decode cX12_goDay 29 = .ok (.bipush 71, 2) := by decide +kernel
theorem dX12_goDay_31 : decode cX12_goDay 31 = .ok (.iadd, 1) := by decide +kernel
theorem dX12_goDay_32 : decode cX12_goDay 32 = .ok (.sipush 1000, 3) := by decide +kernel
theorem dX12_goDay_35 : decode cX12_goDay 35 = .ok (.irem, 1) := by decide +kernel
theorem dX12_goDay_36 : decode cX12_goDay 36 = .ok (.iastore, 1) := by decide +kernel
theorem dX12_goDay_37 : decode cX12_goDay 37 = .ok (.aload_n 0, 1) := by decide +kernel
theorem dX12_goDay_38 : decode cX12_goDay 38 = .ok (.getfield 95, 3) := by decide +kernel
theorem dX12_goDay_41 : decode cX12_goDay 41 = .ok (.bipush 31, 2) := by decide +kernel
theorem dX12_goDay_43 : decode cX12_goDay 43 = .ok (.iaload, 1) := by decide +kernel
theorem dX12_goDay_44 : decode cX12_goDay 44 = .ok (.bipush 100, 2) := by decide +kernel
theorem dX12_goDay_46 : decode cX12_goDay 46 = .ok (.irem, 1) := by decide +kernel
theorem dX12_goDay_47 : decode cX12_goDay 47 = .ok (.aload_n 0, 1) := by decide +kernel
theorem dX12_goDay_48 : decode cX12_goDay 48 = .ok (.iload_n 2, 1) := by decide +kernel
theorem dX12_goDay_49 : decode cX12_goDay 49 = .ok (.invokevirtual 439, 3) := by decide +kernel
theorem dX12_goDay_52 : decode cX12_goDay 52 = .ok (.if_icmp .ge 6, 3) := by decide +kernel
theorem dX12_goDay_55 : decode cX12_goDay 55 = .ok (.goto 34, 3) := by decide +kernel
theorem dX12_goDay_58 : decode cX12_goDay 58 = .ok (.aload_n 0, 1) := by decide +kernel
theorem dX12_goDay_59 : decode cX12_goDay 59 = .ok (.getfield 95, 3) := by decide +kernel
theorem dX12_goDay_62 : decode cX12_goDay 62 = .ok (.bipush 6, 2) := by decide +kernel
theorem dX12_goDay_64 : decode cX12_goDay 64 = .ok (.iload_n 2, 1) := by decide +kernel
theorem dX12_goDay_65 : decode cX12_goDay 65 = .ok (.iadd, 1) := by decide +kernel
theorem dX12_goDay_66 : decode cX12_goDay 66 = .ok (.aload_n 0, 1) := by decide +kernel
theorem dX12_goDay_67 : decode cX12_goDay 67 = .ok (.getfield 95, 3) := by decide +kernel
theorem dX12_goDay_70 : decode cX12_goDay 70 = .ok (.bipush 6, 2) := by decide +kernel
theorem dX12_goDay_72 : decode cX12_goDay 72 = .ok (.iload_n 2, 1) := by decide +kernel
theorem dX12_goDay_73 : decode cX12_goDay 73 = .ok (.iadd, 1) := by decide +kernel
theorem dX12_goDay_74 : decode cX12_goDay 74 = .ok (.iaload, 1) := by decide +kernel
theorem dX12_goDay_75 : decode cX12_goDay 75 = .ok (.iconst 1, 1) := by decide +kernel
theorem dX12_goDay_76 : decode cX12_goDay 76 = .ok (.iadd, 1) := by decide +kernel
theorem dX12_goDay_77 : decode cX12_goDay 77 = .ok (.aload_n 0, 1) := by decide +kernel
theorem dX12_goDay_78 : decode cX12_goDay 78 = .ok (.invokevirtual 378, 3) := by decide +kernel
theorem dX12_goDay_81 : decode cX12_goDay 81 = .ok (.irem, 1) := by decide +kernel
theorem dX12_goDay_82 : decode cX12_goDay 82 = .ok (.iastore, 1) := by decide +kernel
theorem dX12_goDay_83 : decode cX12_goDay 83 = .ok (.iload_n 1, 1) := by decide +kernel
theorem dX12_goDay_84 : decode cX12_goDay 84 = .ok (.iconst 1, 1) := by decide +kernel
theorem dX12_goDay_85 : decode cX12_goDay 85 = .ok (.iload_n 2, 1) := by decide +kernel
theorem dX12_goDay_86 : decode cX12_goDay 86 = .ok (.ishl, 1) := by decide +kernel
theorem dX12_goDay_87 : decode cX12_goDay 87 = .ok (.ior, 1) := by decide +kernel
theorem dX12_goDay_88 : decode cX12_goDay 88 = .ok (.istore_n 1, 1) := by decide +kernel
theorem dX12_goDay_89 : decode cX12_goDay 89 = .ok (.iinc 2 1, 3) := by decide +kernel
theorem dX12_goDay_92 : decode cX12_goDay 92 = .ok (.goto (-88), 3) := by decide +kernel
theorem dX12_goDay_95 : decode cX12_goDay 95 = .ok (.aload_n 0, 1) := by decide +kernel
theorem dX12_goDay_96 : decode cX12_goDay 96 = .ok (.getfield 95, 3) := by decide +kernel
theorem dX12_goDay_99 : decode cX12_goDay 99 = .ok (.bipush 30, 2) := by decide +kernel
theorem dX12_goDay_101 : decode cX12_goDay 101 = .ok (.dup2, 1) := by decide +kernel
theorem dX12_goDay_102 : decode cX12_goDay 102 = .ok (.iaload, 1) := by decide +kernel
theorem dX12_goDay_103 : decode cX12_goDay 103 = .ok (.iconst 1, 1) := by decide +kernel
theorem dX12_goDay_104 : decode cX12_goDay 104 = .ok (.iadd, 1) := by decide +kernel
theorem dX12_goDay_105 : decode cX12_goDay 105 = .ok (.iastore, 1) := by decide +kernel
theorem dX12_goDay_106 : decode cX12_goDay 106 = .ok (.iload_n 1, 1) := by decide +kernel
theorem dX12_goDay_107 : decode cX12_goDay 107 = .ok (.ireturn, 1) := by decide +kernel
theorem dX12_day_0 : decode cX12_day 0 = .ok (.aload_n 0, 1) := by decide +kernel
theorem dX12_day_1 : decode cX12_day 1 = .ok (.getfield 95, 3) := by decide +kernel
theorem dX12_day_4 : decode cX12_day 4 = .ok (.bipush 30, 2) := by decide +kernel
theorem dX12_day_6 : decode cX12_day 6 = .ok (.iaload, 1) := by decide +kernel
theorem dX12_day_7 : decode cX12_day 7 = .ok (.sipush 999, 3) := by decide +kernel
theorem dX12_day_10 : decode cX12_day 10 = .ok (.if_icmp .ne 5, 3) := by decide +kernel
theorem dX12_day_13 : decode cX12_day 13 = .ok (.iconst (-1), 1) := by decide +kernel
theorem dX12_day_14 : decode cX12_day 14 = .ok (.ireturn, 1) := by decide +kernel
theorem dX12_day_15 : decode cX12_day 15 = .ok (.aload_n 0, 1) := by decide +kernel
theorem dX12_day_16 : decode cX12_day 16 = .ok (.invokevirtual 448, 3) := by decide +kernel
theorem dX12_day_19 : decode cX12_day 19 = .ok (.aload_n 0, 1) := by decide +kernel
theorem dX12_day_20 : decode cX12_day 20 = .ok (.invokevirtual 454, 3) := by decide +kernel
theorem dX12_day_23 : decode cX12_day 23 = .ok (.ireturn, 1) := by decide +kernel
theorem dX12_undo_0 : decode cX12_undo 0 = .ok (.aload_n 0, 1) := by decide +kernel
theorem dX12_undo_1 : decode cX12_undo 1 = .ok (.getfield 409, 3) := by decide +kernel
theorem dX12_undo_4 : decode cX12_undo 4 = .ok (.ifCond .ne 5, 3) := by decide +kernel
theorem dX12_undo_7 : decode cX12_undo 7 = .ok (.iconst 0, 1) := by decide +kernel
theorem dX12_undo_8 : decode cX12_undo 8 = .ok (.ireturn, 1) := by decide +kernel
theorem dX12_undo_9 : decode cX12_undo 9 = .ok (.aload_n 0, 1) := by decide +kernel
theorem dX12_undo_10 : decode cX12_undo 10 = .ok (.dup, 1) := by decide +kernel
theorem dX12_undo_11 : decode cX12_undo 11 = .ok (.getfield 409, 3) := by decide +kernel
theorem dX12_undo_14 : decode cX12_undo 14 = .ok (.iconst 1, 1) := by decide +kernel
theorem dX12_undo_15 : decode cX12_undo 15 = .ok (.isub, 1) := by decide +kernel
theorem dX12_undo_16 : decode cX12_undo 16 = .ok (.putfield 409, 3) := by decide +kernel
theorem dX12_undo_19 : decode cX12_undo 19 = .ok (.aload_n 0, 1) := by decide +kernel
theorem dX12_undo_20 : decode cX12_undo 20 = .ok (.dup, 1) := by decide +kernel
theorem dX12_undo_21 : decode cX12_undo 21 = .ok (.getfield 412, 3) := by decide +kernel
theorem dX12_undo_24 : decode cX12_undo 24 = .ok (.iconst 1, 1) := by decide +kernel
theorem dX12_undo_25 : decode cX12_undo 25 = .ok (.iadd, 1) := by decide +kernel
theorem dX12_undo_26 : decode cX12_undo 26 = .ok (.putfield 412, 3) := by decide +kernel
theorem dX12_undo_29 : decode cX12_undo 29 = .ok (.aload_n 0, 1) := by decide +kernel
theorem dX12_undo_30 : decode cX12_undo 30 = .ok (.invokevirtual 457, 3) := by decide +kernel
theorem dX12_undo_33 : decode cX12_undo 33 = .ok (.iconst 1, 1) := by decide +kernel
theorem dX12_undo_34 : decode cX12_undo 34 = .ok (.ireturn, 1) := by decide +kernel
theorem dX12_redo_0 : decode cX12_redo 0 = .ok (.aload_n 0, 1) := by decide +kernel
theorem dX12_redo_1 : decode cX12_redo 1 = .ok (.getfield 412, 3) := by decide +kernel
theorem dX12_redo_4 : decode cX12_redo 4 = .ok (.ifCond .ne 5, 3) := by decide +kernel
theorem dX12_redo_7 : decode cX12_redo 7 = .ok (.iconst 0, 1) := by decide +kernel
theorem dX12_redo_8 : decode cX12_redo 8 = .ok (.ireturn, 1) := by decide +kernel
theorem dX12_redo_9 : decode cX12_redo 9 = .ok (.aload_n 0, 1) := by decide +kernel
theorem dX12_redo_10 : decode cX12_redo 10 = .ok (.invokevirtual 457, 3) := by decide +kernel
theorem dX12_redo_13 : decode cX12_redo 13 = .ok (.aload_n 0, 1) := by decide +kernel
theorem dX12_redo_14 : decode cX12_redo 14 = .ok (.dup, 1) := by decide +kernel
theorem dX12_redo_15 : decode cX12_redo 15 = .ok (.getfield 409, 3) := by decide +kernel
theorem dX12_redo_18 : decode cX12_redo 18 = .ok (.iconst 1, 1) := by decide +kernel
theorem dX12_redo_19 : decode cX12_redo 19 = .ok (.iadd, 1) := by decide +kernel
theorem dX12_redo_20 : decode cX12_redo 20 = .ok (.putfield 409, 3) := by decide +kernel
theorem dX12_redo_23 : decode cX12_redo 23 = .ok (.aload_n 0, 1) := by decide +kernel
theorem dX12_redo_24 : decode cX12_redo 24 = .ok (.dup, 1) := by decide +kernel
theorem dX12_redo_25 : decode cX12_redo 25 = .ok (.getfield 412, 3) := by decide +kernel
theorem dX12_redo_28 : decode cX12_redo 28 = .ok (.iconst 1, 1) := by decide +kernel
theorem dX12_redo_29 : decode cX12_redo 29 = .ok (.isub, 1) := by decide +kernel
theorem dX12_redo_30 : decode cX12_redo 30 = .ok (.putfield 412, 3) := by decide +kernel
theorem dX12_redo_33 : decode cX12_redo 33 = .ok (.iconst 1, 1) := by decide +kernel
theorem dX12_redo_34 : decode cX12_redo 34 = .ok (.ireturn, 1) := by decide +kernel
theorem dX12_thing_0 : decode cX12_thing 0 = .ok (.aload_n 0, 1) := by decide +kernel
theorem dX12_thing_1 : decode cX12_thing 1 = .ok (.iload_n 1, 1) := by decide +kernel
theorem dX12_thing_2 : decode cX12_thing 2 = .ok (.invokevirtual 436, 3) := by decide +kernel
theorem dX12_thing_5 : decode cX12_thing 5 = .ok (.ifCond .ne 6, 3) := by decide +kernel
theorem dX12_thing_8 : decode cX12_thing 8 = .ok (.bipush (-2), 2) := by decide +kernel
theorem dX12_thing_10 : decode cX12_thing 10 = .ok (.ireturn, 1) := by decide +kernel
theorem dX12_thing_11 : decode cX12_thing 11 = .ok (.iload_n 2, 1) := by decide +kernel
theorem dX12_thing_12 : decode cX12_thing 12 = .ok (.tableswitch 133 0 7 #[48, 57, 67, 77, 92, 107, 117, 127], 48) := by decide +kernel
theorem dX12_thing_60 : decode cX12_thing 60 = .ok (.aload_n 0, 1) := by decide +kernel
theorem dX12_thing_61 : decode cX12_thing 61 = .ok (.getfield 95, 3) := by decide +kernel
theorem dX12_thing_64 : decode cX12_thing 64 = .ok (.iconst 0, 1) := by decide +kernel
theorem dX12_thing_65 : decode cX12_thing 65 = .ok (.iload_n 1, 1) := by decide +kernel
theorem dX12_thing_66 : decode cX12_thing 66 = .ok (.iadd, 1) := by decide +kernel
theorem dX12_thing_67 : decode cX12_thing 67 = .ok (.iaload, 1) := by decide +kernel
theorem dX12_thing_68 : decode cX12_thing 68 = .ok (.ireturn, 1) := by decide +kernel
theorem dX12_thing_69 : decode cX12_thing 69 = .ok (.aload_n 0, 1) := by decide +kernel
theorem dX12_thing_70 : decode cX12_thing 70 = .ok (.getfield 95, 3) := by decide +kernel
theorem dX12_thing_73 : decode cX12_thing 73 = .ok (.bipush 6, 2) := by decide +kernel
theorem dX12_thing_75 : decode cX12_thing 75 = .ok (.iload_n 1, 1) := by decide +kernel
theorem dX12_thing_76 : decode cX12_thing 76 = .ok (.iadd, 1) := by decide +kernel
theorem dX12_thing_77 : decode cX12_thing 77 = .ok (.iaload, 1) := by decide +kernel
theorem dX12_thing_78 : decode cX12_thing 78 = .ok (.ireturn, 1) := by decide +kernel
theorem dX12_thing_79 : decode cX12_thing 79 = .ok (.aload_n 0, 1) := by decide +kernel
theorem dX12_thing_80 : decode cX12_thing 80 = .ok (.getfield 95, 3) := by decide +kernel
theorem dX12_thing_83 : decode cX12_thing 83 = .ok (.bipush 12, 2) := by decide +kernel
theorem dX12_thing_85 : decode cX12_thing 85 = .ok (.iload_n 1, 1) := by decide +kernel
theorem dX12_thing_86 : decode cX12_thing 86 = .ok (.iadd, 1) := by decide +kernel
theorem dX12_thing_87 : decode cX12_thing 87 = .ok (.iaload, 1) := by decide +kernel
theorem dX12_thing_88 : decode cX12_thing 88 = .ok (.ireturn, 1) := by decide +kernel
theorem dX12_thing_89 : decode cX12_thing 89 = .ok (.aload_n 0, 1) := by decide +kernel
theorem dX12_thing_90 : decode cX12_thing 90 = .ok (.getfield 54, 3) := by decide +kernel
theorem dX12_thing_93 : decode cX12_thing 93 = .ok (.bipush 6, 2) := by decide +kernel
theorem dX12_thing_95 : decode cX12_thing 95 = .ok (.aload_n 0, 1) := by decide +kernel
theorem dX12_thing_96 : decode cX12_thing 96 = .ok (.getfield 280, 3) := by decide +kernel
theorem dX12_thing_99 : decode cX12_thing 99 = .ok (.imul, 1) := by decide +kernel
theorem dX12_thing_100 : decode cX12_thing 100 = .ok (.iload_n 1, 1) := by decide +kernel
theorem dX12_thing_101 : decode cX12_thing 101 = .ok (.iadd, 1) := by decide +kernel
theorem dX12_thing_102 : decode cX12_thing 102 = .ok (.iaload, 1) := by decide +kernel
theorem dX12_thing_103 : decode cX12_thing 103 = .ok (.ireturn, 1) := by decide +kernel
theorem dX12_thing_104 : decode cX12_thing 104 = .ok (.aload_n 0, 1) := by decide +kernel
theorem dX12_thing_105 : decode cX12_thing 105 = .ok (.getfield 57, 3) := by decide +kernel
theorem dX12_thing_108 : decode cX12_thing 108 = .ok (.bipush 6, 2) := by decide +kernel
theorem dX12_thing_110 : decode cX12_thing 110 = .ok (.aload_n 0, 1) := by decide +kernel
theorem dX12_thing_111 : decode cX12_thing 111 = .ok (.getfield 280, 3) := by decide +kernel
theorem dX12_thing_114 : decode cX12_thing 114 = .ok (.imul, 1) := by decide +kernel
theorem dX12_thing_115 : decode cX12_thing 115 = .ok (.iload_n 1, 1) := by decide +kernel
theorem dX12_thing_116 : decode cX12_thing 116 = .ok (.iadd, 1) := by decide +kernel
theorem dX12_thing_117 : decode cX12_thing 117 = .ok (.iaload, 1) := by decide +kernel
theorem dX12_thing_118 : decode cX12_thing 118 = .ok (.ireturn, 1) := by decide +kernel
theorem dX12_thing_119 : decode cX12_thing 119 = .ok (.aload_n 0, 1) := by decide +kernel
theorem dX12_thing_120 : decode cX12_thing 120 = .ok (.getfield 95, 3) := by decide +kernel
theorem dX12_thing_123 : decode cX12_thing 123 = .ok (.bipush 18, 2) := by decide +kernel
theorem dX12_thing_125 : decode cX12_thing 125 = .ok (.iload_n 1, 1) := by decide +kernel
theorem dX12_thing_126 : decode cX12_thing 126 = .ok (.iadd, 1) := by decide +kernel
theorem dX12_thing_127 : decode cX12_thing 127 = .ok (.iaload, 1) := by decide +kernel
theorem dX12_thing_128 : decode cX12_thing 128 = .ok (.ireturn, 1) := by decide +kernel
theorem dX12_thing_129 : decode cX12_thing 129 = .ok (.aload_n 0, 1) := by decide +kernel
theorem dX12_thing_130 : decode cX12_thing 130 = .ok (.getfield 95, 3) := by decide +kernel
theorem dX12_thing_133 : decode cX12_thing 133 = .ok (.bipush 24, 2) := by decide +kernel
theorem dX12_thing_135 : decode cX12_thing 135 = .ok (.iload_n 1, 1) := by decide +kernel
theorem dX12_thing_136 : decode cX12_thing 136 = .ok (.iadd, 1) := by decide +kernel
theorem dX12_thing_137 : decode cX12_thing 137 = .ok (.iaload, 1) := by decide +kernel
theorem dX12_thing_138 : decode cX12_thing 138 = .ok (.ireturn, 1) := by decide +kernel
theorem dX12_thing_139 : decode cX12_thing 139 = .ok (.aload_n 0, 1) := by decide +kernel
theorem dX12_thing_140 : decode cX12_thing 140 = .ok (.iload_n 1, 1) := by decide +kernel
theorem dX12_thing_141 : decode cX12_thing 141 = .ok (.invokevirtual 439, 3) := by decide +kernel
theorem dX12_thing_144 : decode cX12_thing 144 = .ok (.ireturn, 1) := by decide +kernel
theorem dX12_thing_145 : decode cX12_thing 145 = .ok (.bipush (-2), 2) := by decide +kernel
theorem dX12_thing_147 : decode cX12_thing 147 = .ok (.ireturn, 1) := by decide +kernel
theorem dX12_stay_0 : decode cX12_stay 0 = .ok (.aload_n 0, 1) := by decide +kernel
theorem dX12_stay_1 : decode cX12_stay 1 = .ok (.iload_n 1, 1) := by decide +kernel
theorem dX12_stay_2 : decode cX12_stay 2 = .ok (.invokevirtual 436, 3) := by decide +kernel
theorem dX12_stay_5 : decode cX12_stay 5 = .ok (.ifCond .eq 21, 3) := by decide +kernel
theorem dX12_stay_8 : decode cX12_stay 8 = .ok (.iload_n 2, 1) := by decide +kernel
theorem dX12_stay_9 : decode cX12_stay 9 = .ok (.iconst 0, 1) := by decide +kernel
theorem dX12_stay_10 : decode cX12_stay 10 = .ok (.iconst 4, 1) := by decide +kernel
theorem dX12_stay_11 : decode cX12_stay 11 = .ok (.invokestatic 381, 3) := by decide +kernel
theorem dX12_stay_14 : decode cX12_stay 14 = .ok (.ifCond .eq 12, 3) := by decide +kernel
theorem dX12_stay_17 : decode cX12_stay 17 = .ok (.iload_n 3, 1) := by decide +kernel
theorem dX12_stay_18 : decode cX12_stay 18 = .ok (.iconst 0, 1) := by decide +kernel
theorem dX12_stay_19 : decode cX12_stay 19 = .ok (.iconst 1, 1) := by decide +kernel
theorem dX12_stay_20 : decode cX12_stay 20 = .ok (.invokestatic 381, 3) := by decide +kernel
theorem dX12_stay_23 : decode cX12_stay 23 = .ok (.ifCond .ne 5, 3) := by decide +kernel
theorem dX12_stay_26 : decode cX12_stay 26 = .ok (.iconst (-1), 1) := by decide +kernel
theorem dX12_stay_27 : decode cX12_stay 27 = .ok (.ireturn, 1) := by decide +kernel
theorem dX12_stay_28 : decode cX12_stay 28 = .ok (.iconst 1, 1) := by decide +kernel
theorem dX12_stay_29 : decode cX12_stay 29 = .ok (.istore 4, 2) := by decide +kernel
theorem dX12_stay_31 : decode cX12_stay 31 = .ok (.iconst 1, 1) := by decide +kernel
theorem dX12_stay_32 : decode cX12_stay 32 = .ok (.istore 5, 2) := by decide +kernel
theorem dX12_stay_34 : decode cX12_stay 34 = .ok (.aload_n 0, 1) := by decide +kernel
theorem dX12_stay_35 : decode cX12_stay 35 = .ok (.getfield 95, 3) := by decide +kernel
theorem dX12_stay_38 : decode cX12_stay 38 = .ok (.bipush 30, 2) := by decide +kernel
theorem dX12_stay_40 : decode cX12_stay 40 = .ok (.iaload, 1) := by decide +kernel
theorem dX12_stay_41 : decode cX12_stay 41 = .ok (.istore 6, 2) := by decide +kernel
theorem dX12_stay_43 : decode cX12_stay 43 = .ok (.iconst 0, 1) := by decide +kernel
theorem dX12_stay_44 : decode cX12_stay 44 = .ok (.istore 7, 2) := by decide +kernel
theorem dX12_stay_46 : decode cX12_stay 46 = .ok (.iload 7, 2) := by decide +kernel
theorem dX12_stay_48 : decode cX12_stay 48 = .ok (.iload_n 2, 1) := by decide +kernel
theorem dX12_stay_49 : decode cX12_stay 49 = .ok (.if_icmp .ge 37, 3) := by decide +kernel
theorem dX12_stay_52 : decode cX12_stay 52 = .ok (.iload 4, 2) := by decide +kernel
theorem dX12_stay_54 : decode cX12_stay 54 = .ok (.aload_n 0, 1) := by decide +kernel
theorem dX12_stay_55 : decode cX12_stay 55 = .ok (.iload_n 1, 1) := by decide +kernel
theorem dX12_stay_56 : decode cX12_stay 56 = .ok (.invokevirtual 439, 3) := by decide +kernel
theorem dX12_stay_59 : decode cX12_stay 59 = .ok (.imul, 1) := by decide +kernel
theorem dX12_stay_60 : decode cX12_stay 60 = .ok (.istore 4, 2) := by decide +kernel
theorem dX12_stay_62 : decode cX12_stay 62 = .ok (.iload 5, 2) := by decide +kernel
theorem dX12_stay_64 : decode cX12_stay 64 = .ok (.bipush 100, 2) := by decide +kernel
theorem dX12_stay_66 : decode cX12_stay 66 = .ok (.imul, 1) := by decide +kernel
theorem dX12_stay_67 : decode cX12_stay 67 = .ok (.istore 5, 2) := by decide +kernel
theorem dX12_stay_69 : decode cX12_stay 69 = .ok (.aload_n 0, 1) := by decide +kernel
theorem dX12_stay_70 : decode cX12_stay 70 = .ok (.getfield 95, 3) := by decide +kernel
theorem dX12_stay_73 : decode cX12_stay 73 = .ok (.bipush 30, 2) := by decide +kernel
theorem dX12_stay_75 : decode cX12_stay 75 = .ok (.dup2, 1) := by decide +kernel
theorem dX12_stay_76 : decode cX12_stay 76 = .ok (.iaload, 1) := by decide +kernel
theorem dX12_stay_77 : decode cX12_stay 77 = .ok (.iconst 1, 1) := by decide +kernel
theorem dX12_stay_78 : decode cX12_stay 78 = .ok (.iadd, 1) := by decide +kernel
theorem dX12_stay_79 : decode cX12_stay 79 = .ok (.iastore, 1) := by decide +kernel
theorem dX12_stay_80 : decode cX12_stay 80 = .ok (.iinc 7 1, 3) := by decide +kernel
theorem dX12_stay_83 : decode cX12_stay 83 = .ok (.goto (-37), 3) := by decide +kernel
theorem dX12_stay_86 : decode cX12_stay 86 = .ok (.aload_n 0, 1) := by decide +kernel
theorem dX12_stay_87 : decode cX12_stay 87 = .ok (.getfield 95, 3) := by decide +kernel
theorem dX12_stay_90 : decode cX12_stay 90 = .ok (.bipush 30, 2) := by decide +kernel
theorem dX12_stay_92 : decode cX12_stay 92 = .ok (.iload 6, 2) := by decide +kernel
theorem dX12_stay_94 : decode cX12_stay 94 = .ok (.iastore, 1) := by decide +kernel
theorem dX12_stay_95 : decode cX12_stay 95 = .ok (.iload_n 3, 1) := by decide +kernel
theorem dX12_stay_96 : decode cX12_stay 96 = .ok (.ifCond .ne 8, 3) := by decide +kernel
theorem dX12_stay_99 : decode cX12_stay 99 = .ok (.iload 4, 2) := by decide +kernel
theorem dX12_stay_101 : decode cX12_stay 101 = .ok (.goto 5, 3) := by decide +kernel
theorem dX12_stay_104 : decode cX12_stay 104 = .ok (.iload 5, 2) := by decide +kernel
theorem dX12_stay_106 : decode cX12_stay 106 = .ok (.iload 5, 2) := by decide +kernel
theorem dX12_stay_108 : decode cX12_stay 108 = .ok (.iload 4, 2) := by decide +kernel
theorem dX12_stay_110 : decode cX12_stay 110 = .ok (.invokestatic 496, 3) := by decide +kernel
theorem dX12_stay_113 : decode cX12_stay 113 = .ok (.idiv, 1) := by decide +kernel
theorem dX12_stay_114 : decode cX12_stay 114 = .ok (.ireturn, 1) := by decide +kernel
theorem dX12_keepNow_0 : decode cX12_keepNow 0 = .ok (.iconst 0, 1) := by decide +kernel
theorem dX12_keepNow_1 : decode cX12_keepNow 1 = .ok (.istore_n 1, 1) := by decide +kernel
theorem dX12_keepNow_2 : decode cX12_keepNow 2 = .ok (.iload_n 1, 1) := by decide +kernel
theorem dX12_keepNow_3 : decode cX12_keepNow 3 = .ok (.bipush 32, 2) := by decide +kernel
theorem dX12_keepNow_5 : decode cX12_keepNow 5 = .ok (.if_icmp .ge 21, 3) := by decide +kernel
theorem dX12_keepNow_8 : decode cX12_keepNow 8 = .ok (.aload_n 0, 1) := by decide +kernel
theorem dX12_keepNow_9 : decode cX12_keepNow 9 = .ok (.getfield 134, 3) := by decide +kernel
theorem dX12_keepNow_12 : decode cX12_keepNow 12 = .ok (.iload_n 1, 1) := by decide +kernel
theorem dX12_keepNow_13 : decode cX12_keepNow 13 = .ok (.aload_n 0, 1) := by decide +kernel
theorem dX12_keepNow_14 : decode cX12_keepNow 14 = .ok (.getfield 95, 3) := by decide +kernel
theorem dX12_keepNow_17 : decode cX12_keepNow 17 = .ok (.iload_n 1, 1) := by decide +kernel
theorem dX12_keepNow_18 : decode cX12_keepNow 18 = .ok (.iaload, 1) := by decide +kernel
theorem dX12_keepNow_19 : decode cX12_keepNow 19 = .ok (.iastore, 1) := by decide +kernel
theorem dX12_keepNow_20 : decode cX12_keepNow 20 = .ok (.iinc 1 1, 3) := by decide +kernel
theorem dX12_keepNow_23 : decode cX12_keepNow 23 = .ok (.goto (-21), 3) := by decide +kernel
theorem dX12_keepNow_26 : decode cX12_keepNow 26 = .ok (.return_, 1) := by decide +kernel
theorem dX12_bringBack_0 : decode cX12_bringBack 0 = .ok (.iconst 0, 1) := by decide +kernel
theorem dX12_bringBack_1 : decode cX12_bringBack 1 = .ok (.istore_n 1, 1) := by decide +kernel
theorem dX12_bringBack_2 : decode cX12_bringBack 2 = .ok (.iload_n 1, 1) := by decide +kernel
theorem dX12_bringBack_3 : decode cX12_bringBack 3 = .ok (.bipush 32, 2) := by decide +kernel
theorem dX12_bringBack_5 : decode cX12_bringBack 5 = .ok (.if_icmp .ge 21, 3) := by decide +kernel
theorem dX12_bringBack_8 : decode cX12_bringBack 8 = .ok (.aload_n 0, 1) := by decide +kernel
theorem dX12_bringBack_9 : decode cX12_bringBack 9 = .ok (.getfield 95, 3) := by decide +kernel
theorem dX12_bringBack_12 : decode cX12_bringBack 12 = .ok (.iload_n 1, 1) := by decide +kernel
theorem dX12_bringBack_13 : decode cX12_bringBack 13 = .ok (.aload_n 0, 1) := by decide +kernel
theorem dX12_bringBack_14 : decode cX12_bringBack 14 = .ok (.getfield 134, 3) := by decide +kernel
theorem dX12_bringBack_17 : decode cX12_bringBack 17 = .ok (.iload_n 1, 1) := by decide +kernel
theorem dX12_bringBack_18 : decode cX12_bringBack 18 = .ok (.iaload, 1) := by decide +kernel
theorem dX12_bringBack_19 : decode cX12_bringBack 19 = .ok (.iastore, 1) := by decide +kernel
theorem dX12_bringBack_20 : decode cX12_bringBack 20 = .ok (.iinc 1 1, 3) := by decide +kernel
theorem dX12_bringBack_23 : decode cX12_bringBack 23 = .ok (.goto (-21), 3) := by decide +kernel
theorem dX12_bringBack_26 : decode cX12_bringBack 26 = .ok (.return_, 1) := by decide +kernel
theorem dX12_rightOnes_0 : decode cX12_rightOnes 0 = .ok (.iconst 0, 1) := by decide +kernel
theorem dX12_rightOnes_1 : decode cX12_rightOnes 1 = .ok (.istore_n 1, 1) := by decide +kernel
theorem dX12_rightOnes_2 : decode cX12_rightOnes 2 = .ok (.iconst 0, 1) := by decide +kernel
theorem dX12_rightOnes_3 : decode cX12_rightOnes 3 = .ok (.istore_n 2, 1) := by decide +kernel
theorem dX12_rightOnes_4 : decode cX12_rightOnes 4 = .ok (.iload_n 2, 1) := by decide +kernel
theorem dX12_rightOnes_5 : decode cX12_rightOnes 5 = .ok (.aload_n 0, 1) := by decide +kernel
theorem dX12_rightOnes_6 : decode cX12_rightOnes 6 = .ok (.invokevirtual 388, 3) := by decide +kernel
theorem dX12_rightOnes_9 : decode cX12_rightOnes 9 = .ok (.if_icmp .ge 35, 3) := by decide +kernel
theorem dX12_rightOnes_12 : decode cX12_rightOnes 12 = .ok (.aload_n 0, 1) := by decide +kernel
theorem dX12_rightOnes_13 : decode cX12_rightOnes 13 = .ok (.getfield 95, 3) := by decide +kernel
theorem dX12_rightOnes_16 : decode cX12_rightOnes 16 = .ok (.iconst 0, 1) := by decide +kernel
theorem dX12_rightOnes_17 : decode cX12_rightOnes 17 = .ok (.iload_n 2, 1) := by decide +kernel
theorem dX12_rightOnes_18 : decode cX12_rightOnes 18 = .ok (.iadd, 1) := by decide +kernel
theorem dX12_rightOnes_19 : decode cX12_rightOnes 19 = .ok (.iaload, 1) := by decide +kernel
theorem dX12_rightOnes_20 : decode cX12_rightOnes 20 = .ok (.aload_n 0, 1) := by decide +kernel
theorem dX12_rightOnes_21 : decode cX12_rightOnes 21 = .ok (.getfield 95, 3) := by decide +kernel
theorem dX12_rightOnes_24 : decode cX12_rightOnes 24 = .ok (.bipush 6, 2) := by decide +kernel
theorem dX12_rightOnes_26 : decode cX12_rightOnes 26 = .ok (.iload_n 2, 1) := by decide +kernel
theorem dX12_rightOnes_27 : decode cX12_rightOnes 27 = .ok (.iadd, 1) := by decide +kernel
theorem dX12_rightOnes_28 : decode cX12_rightOnes 28 = .ok (.iaload, 1) := by decide +kernel
theorem dX12_rightOnes_29 : decode cX12_rightOnes 29 = .ok (.if_icmp .ne 9, 3) := by decide +kernel
theorem dX12_rightOnes_32 : decode cX12_rightOnes 32 = .ok (.iload_n 1, 1) := by decide +kernel
theorem dX12_rightOnes_33 : decode cX12_rightOnes 33 = .ok (.iconst 1, 1) := by decide +kernel
theorem dX12_rightOnes_34 : decode cX12_rightOnes 34 = .ok (.iload_n 2, 1) := by decide +kernel
theorem dX12_rightOnes_35 : decode cX12_rightOnes 35 = .ok (.ishl, 1) := by decide +kernel
theorem dX12_rightOnes_36 : decode cX12_rightOnes 36 = .ok (.ior, 1) := by decide +kernel
theorem dX12_rightOnes_37 : decode cX12_rightOnes 37 = .ok (.istore_n 1, 1) := by decide +kernel
theorem dX12_rightOnes_38 : decode cX12_rightOnes 38 = .ok (.iinc 2 1, 3) := by decide +kernel
theorem dX12_rightOnes_41 : decode cX12_rightOnes 41 = .ok (.goto (-37), 3) := by decide +kernel
theorem dX12_rightOnes_44 : decode cX12_rightOnes 44 = .ok (.iload_n 1, 1) := by decide +kernel
theorem dX12_rightOnes_45 : decode cX12_rightOnes 45 = .ok (.ireturn, 1) := by decide +kernel
theorem dX12_will_0 : decode cX12_will 0 = .ok (.aload_n 0, 1) := by decide +kernel
theorem dX12_will_1 : decode cX12_will 1 = .ok (.iload_n 1, 1) := by decide +kernel
theorem dX12_will_2 : decode cX12_will 2 = .ok (.invokevirtual 436, 3) := by decide +kernel
theorem dX12_will_5 : decode cX12_will 5 = .ok (.ifCond .eq 13, 3) := by decide +kernel
theorem dX12_will_8 : decode cX12_will 8 = .ok (.iload_n 2, 1) := by decide +kernel
theorem dX12_will_9 : decode cX12_will 9 = .ok (.iconst 0, 1) := by decide +kernel
theorem dX12_will_10 : decode cX12_will 10 = .ok (.bipush 60, 2) := by decide +kernel
theorem dX12_will_12 : decode cX12_will 12 = .ok (.invokestatic 381, 3) := by decide +kernel
theorem dX12_will_15 : decode cX12_will 15 = .ok (.ifCond .ne 5, 3) := by decide +kernel
theorem dX12_will_18 : decode cX12_will 18 = .ok (.iconst (-1), 1) := by decide +kernel
theorem dX12_will_19 : decode cX12_will 19 = .ok (.ireturn, 1) := by decide +kernel
theorem dX12_will_20 : decode cX12_will 20 = .ok (.aload_n 0, 1) := by decide +kernel
theorem dX12_will_21 : decode cX12_will 21 = .ok (.invokevirtual 499, 3) := by decide +kernel
theorem dX12_will_24 : decode cX12_will 24 = .ok (.iconst 0, 1) := by decide +kernel
theorem dX12_will_25 : decode cX12_will 25 = .ok (.istore_n 3, 1) := by decide +kernel
theorem dX12_will_26 : decode cX12_will 26 = .ok (.iconst 0, 1) := by decide +kernel
theorem dX12_will_27 : decode cX12_will 27 = .ok (.istore 4, 2) := by decide +kernel
theorem dX12_will_29 : decode cX12_will 29 = .ok (.iload 4, 2) := by decide +kernel
theorem dX12_will_31 : decode cX12_will 31 = .ok (.iload_n 2, 1) := by decide +kernel
theorem dX12_will_32 : decode cX12_will 32 = .ok (.if_icmp .ge 16, 3) := by decide +kernel
theorem dX12_will_35 : decode cX12_will 35 = .ok (.iload_n 3, 1) := by decide +kernel
theorem dX12_will_36 : decode cX12_will 36 = .ok (.aload_n 0, 1) := by decide +kernel
theorem dX12_will_37 : decode cX12_will 37 = .ok (.invokevirtual 454, 3) := by decide +kernel
theorem dX12_will_40 : decode cX12_will 40 = .ok (.ior, 1) := by decide +kernel
theorem dX12_will_41 : decode cX12_will 41 = .ok (.istore_n 3, 1) := by decide +kernel
theorem dX12_will_42 : decode cX12_will 42 = .ok (.iinc 4 1, 3) := by decide +kernel
theorem dX12_will_45 : decode cX12_will 45 = .ok (.goto (-16), 3) := by decide +kernel
theorem dX12_will_48 : decode cX12_will 48 = .ok (.aload_n 0, 1) := by decide +kernel
theorem dX12_will_49 : decode cX12_will 49 = .ok (.getfield 95, 3) := by decide +kernel
theorem dX12_will_52 : decode cX12_will 52 = .ok (.bipush 6, 2) := by decide +kernel
theorem dX12_will_54 : decode cX12_will 54 = .ok (.iload_n 1, 1) := by decide +kernel
theorem dX12_will_55 : decode cX12_will 55 = .ok (.iadd, 1) := by decide +kernel
theorem dX12_will_56 : decode cX12_will 56 = .ok (.iaload, 1) := by decide +kernel
theorem dX12_will_57 : decode cX12_will 57 = .ok (.istore 4, 2) := by decide +kernel
theorem dX12_will_59 : decode cX12_will 59 = .ok (.aload_n 0, 1) := by decide +kernel
theorem dX12_will_60 : decode cX12_will 60 = .ok (.invokevirtual 502, 3) := by decide +kernel
theorem dX12_will_63 : decode cX12_will 63 = .ok (.iload 4, 2) := by decide +kernel
theorem dX12_will_65 : decode cX12_will 65 = .ok (.ireturn, 1) := by decide +kernel
theorem dX12_lost_0 : decode cX12_lost 0 = .ok (.aload_n 0, 1) := by decide +kernel
theorem dX12_lost_1 : decode cX12_lost 1 = .ok (.invokevirtual 388, 3) := by decide +kernel
theorem dX12_lost_4 : decode cX12_lost 4 = .ok (.ifCond .ne 5, 3) := by decide +kernel
theorem dX12_lost_7 : decode cX12_lost 7 = .ok (.iconst (-1), 1) := by decide +kernel
theorem dX12_lost_8 : decode cX12_lost 8 = .ok (.ireturn, 1) := by decide +kernel
theorem dX12_lost_9 : decode cX12_lost 9 = .ok (.aload_n 0, 1) := by decide +kernel
theorem dX12_lost_10 : decode cX12_lost 10 = .ok (.invokevirtual 499, 3) := by decide +kernel
theorem dX12_lost_13 : decode cX12_lost 13 = .ok (.iconst 0, 1) := by decide +kernel
theorem dX12_lost_14 : decode cX12_lost 14 = .ok (.istore_n 1, 1) := by decide +kernel
theorem dX12_lost_15 : decode cX12_lost 15 = .ok (.iconst 0, 1) := by decide +kernel
theorem dX12_lost_16 : decode cX12_lost 16 = .ok (.istore_n 2, 1) := by decide +kernel
theorem dX12_lost_17 : decode cX12_lost 17 = .ok (.iload_n 1, 1) := by decide +kernel
theorem dX12_lost_18 : decode cX12_lost 18 = .ok (.bipush 60, 2) := by decide +kernel
theorem dX12_lost_20 : decode cX12_lost 20 = .ok (.if_icmp .ge 23, 3) := by decide +kernel
theorem dX12_lost_23 : decode cX12_lost 23 = .ok (.aload_n 0, 1) := by decide +kernel
theorem dX12_lost_24 : decode cX12_lost 24 = .ok (.invokevirtual 493, 3) := by decide +kernel
theorem dX12_lost_27 : decode cX12_lost 27 = .ok (.ifCond .eq 16, 3) := by decide +kernel
theorem dX12_lost_30 : decode cX12_lost 30 = .ok (.iload_n 2, 1) := by decide +kernel
theorem dX12_lost_31 : decode cX12_lost 31 = .ok (.aload_n 0, 1) := by decide +kernel
theorem dX12_lost_32 : decode cX12_lost 32 = .ok (.invokevirtual 454, 3) := by decide +kernel
theorem dX12_lost_35 : decode cX12_lost 35 = .ok (.ior, 1) := by decide +kernel
theorem dX12_lost_36 : decode cX12_lost 36 = .ok (.istore_n 2, 1) := by decide +kernel
theorem dX12_lost_37 : decode cX12_lost 37 = .ok (.iinc 1 1, 3) := by decide +kernel
theorem dX12_lost_40 : decode cX12_lost 40 = .ok (.goto (-23), 3) := by decide +kernel
theorem dX12_lost_43 : decode cX12_lost 43 = .ok (.aload_n 0, 1) := by decide +kernel
theorem dX12_lost_44 : decode cX12_lost 44 = .ok (.invokevirtual 493, 3) := by decide +kernel
theorem dX12_lost_47 : decode cX12_lost 47 = .ok (.ifCond .ne 7, 3) := by decide +kernel
theorem dX12_lost_50 : decode cX12_lost 50 = .ok (.iconst 1, 1) := by decide +kernel
theorem dX12_lost_51 : decode cX12_lost 51 = .ok (.goto 4, 3) := by decide +kernel
theorem dX12_lost_54 : decode cX12_lost 54 = .ok (.iconst 0, 1) := by decide +kernel
theorem dX12_lost_55 : decode cX12_lost 55 = .ok (.istore_n 3, 1) := by decide +kernel
theorem dX12_lost_56 : decode cX12_lost 56 = .ok (.aload_n 0, 1) := by decide +kernel
theorem dX12_lost_57 : decode cX12_lost 57 = .ok (.invokevirtual 502, 3) := by decide +kernel
theorem dX12_lost_60 : decode cX12_lost 60 = .ok (.iload_n 3, 1) := by decide +kernel
theorem dX12_lost_61 : decode cX12_lost 61 = .ok (.ifCond .eq 7, 3) := by decide +kernel
theorem dX12_lost_64 : decode cX12_lost 64 = .ok (.iload_n 1, 1) := by decide +kernel
theorem dX12_lost_65 : decode cX12_lost 65 = .ok (.goto 4, 3) := by decide +kernel
theorem dX12_lost_68 : decode cX12_lost 68 = .ok (.iconst (-1), 1) := by decide +kernel
theorem dX12_lost_69 : decode cX12_lost 69 = .ok (.ireturn, 1) := by decide +kernel
theorem dX12_later_0 : decode cX12_later 0 = .ok (.iload_n 1, 1) := by decide +kernel
theorem dX12_later_1 : decode cX12_later 1 = .ok (.iconst 0, 1) := by decide +kernel
theorem dX12_later_2 : decode cX12_later 2 = .ok (.sipush 1000, 3) := by decide +kernel
theorem dX12_later_5 : decode cX12_later 5 = .ok (.invokestatic 381, 3) := by decide +kernel
theorem dX12_later_8 : decode cX12_later 8 = .ok (.ifCond .eq 15, 3) := by decide +kernel
theorem dX12_later_11 : decode cX12_later 11 = .ok (.aload_n 0, 1) := by decide +kernel
theorem dX12_later_12 : decode cX12_later 12 = .ok (.getfield 505, 3) := by decide +kernel
theorem dX12_later_15 : decode cX12_later 15 = .ok (.iload_n 1, 1) := by decide +kernel
theorem dX12_later_16 : decode cX12_later 16 = .ok (.iadd, 1) := by decide +kernel
theorem dX12_later_17 : decode cX12_later 17 = .ok (.ldc_w 512, 3) := by decide +kernel
theorem dX12_later_20 : decode cX12_later 20 = .ok (.if_icmp .le 5, 3) := by decide +kernel
theorem dX12_later_23 : decode cX12_later 23 = .ok (.iconst (-1), 1) := by decide +kernel
theorem dX12_later_24 : decode cX12_later 24 = .ok (.ireturn, 1) := by decide +kernel
theorem dX12_later_25 : decode cX12_later 25 = .ok (.aload_n 0, 1) := by decide +kernel
theorem dX12_later_26 : decode cX12_later 26 = .ok (.dup, 1) := by decide +kernel
theorem dX12_later_27 : decode cX12_later 27 = .ok (.getfield 505, 3) := by decide +kernel
theorem dX12_later_30 : decode cX12_later 30 = .ok (.iload_n 1, 1) := by decide +kernel
theorem dX12_later_31 : decode cX12_later 31 = .ok (.iadd, 1) := by decide +kernel
theorem dX12_later_32 : decode cX12_later 32 = .ok (.putfield 505, 3) := by decide +kernel
theorem dX12_later_35 : decode cX12_later 35 = .ok (.aload_n 0, 1) := by decide +kernel
theorem dX12_later_36 : decode cX12_later 36 = .ok (.getfield 505, 3) := by decide +kernel
theorem dX12_later_39 : decode cX12_later 39 = .ok (.ireturn, 1) := by decide +kernel
theorem dX12_image_0 : decode cX12_image 0 = .ok (.iload_n 1, 1) := by decide +kernel
theorem dX12_image_1 : decode cX12_image 1 = .ok (.iconst 0, 1) := by decide +kernel
theorem dX12_image_2 : decode cX12_image 2 = .ok (.iconst 2, 1) := by decide +kernel
theorem dX12_image_3 : decode cX12_image 3 = .ok (.invokestatic 381, 3) := by decide +kernel
theorem dX12_image_6 : decode cX12_image 6 = .ok (.ifCond .ne 5, 3) := by decide +kernel
theorem dX12_image_9 : decode cX12_image 9 = .ok (.iconst (-1), 1) := by decide +kernel
theorem dX12_image_10 : decode cX12_image 10 = .ok (.ireturn, 1) := by decide +kernel
theorem dX12_image_11 : decode cX12_image 11 = .ok (.iconst 0, 1) := by decide +kernel
theorem dX12_image_12 : decode cX12_image 12 = .ok (.istore_n 2, 1) := by decide +kernel
theorem dX12_image_13 : decode cX12_image 13 = .ok (.iload_n 2, 1) := by decide +kernel
theorem dX12_image_14 : decode cX12_image 14 = .ok (.bipush 32, 2) := by decide +kernel
theorem dX12_image_16 : decode cX12_image 16 = .ok (.if_icmp .ge 26, 3) := by decide +kernel
theorem dX12_image_19 : decode cX12_image 19 = .ok (.aload_n 0, 1) := by decide +kernel
theorem dX12_image_20 : decode cX12_image 20 = .ok (.getfield 161, 3) := by decide +kernel
theorem dX12_image_23 : decode cX12_image 23 = .ok (.bipush 32, 2) := by decide +kernel
theorem dX12_image_25 : decode cX12_image 25 = .ok (.iload_n 1, 1) := by decide +kernel
theorem dX12_image_26 : decode cX12_image 26 = .ok (.imul, 1) := by decide +kernel
theorem dX12_image_27 : decode cX12_image 27 = .ok (.iload_n 2, 1) := by decide +kernel
theorem dX12_image_28 : decode cX12_image 28 = .ok (.iadd, 1) := by decide +kernel
theorem dX12_image_29 : decode cX12_image 29 = .ok (.aload_n 0, 1) := by decide +kernel
theorem dX12_image_30 : decode cX12_image 30 = .ok (.getfield 95, 3) := by decide +kernel
theorem dX12_image_33 : decode cX12_image 33 = .ok (.iload_n 2, 1) := by decide +kernel
theorem dX12_image_34 : decode cX12_image 34 = .ok (.iaload, 1) := by decide +kernel
theorem dX12_image_35 : decode cX12_image 35 = .ok (.iastore, 1) := by decide +kernel
theorem dX12_image_36 : decode cX12_image 36 = .ok (.iinc 2 1, 3) := by decide +kernel
theorem dX12_image_39 : decode cX12_image 39 = .ok (.goto (-26), 3) := by decide +kernel
theorem dX12_image_42 : decode cX12_image 42 = .ok (.aload_n 0, 1) := by decide +kernel
theorem dX12_image_43 : decode cX12_image 43 = .ok (.getfield 164, 3) := by decide +kernel
theorem dX12_image_46 : decode cX12_image 46 = .ok (.iload_n 1, 1) := by decide +kernel
theorem dX12_image_47 : decode cX12_image 47 = .ok (.iconst 1, 1) := by decide +kernel
theorem dX12_image_48 : decode cX12_image 48 = .ok (.bastore, 1) := by decide +kernel
theorem dX12_image_49 : decode cX12_image 49 = .ok (.aload_n 0, 1) := by decide +kernel
theorem dX12_image_50 : decode cX12_image 50 = .ok (.getfield 95, 3) := by decide +kernel
theorem dX12_image_53 : decode cX12_image 53 = .ok (.bipush 30, 2) := by decide +kernel
theorem dX12_image_55 : decode cX12_image 55 = .ok (.iaload, 1) := by decide +kernel
theorem dX12_image_56 : decode cX12_image 56 = .ok (.ireturn, 1) := by decide +kernel
theorem dX12_back_0 : decode cX12_back 0 = .ok (.iload_n 1, 1) := by decide +kernel
theorem dX12_back_1 : decode cX12_back 1 = .ok (.iconst 0, 1) := by decide +kernel
theorem dX12_back_2 : decode cX12_back 2 = .ok (.iconst 2, 1) := by decide +kernel
theorem dX12_back_3 : decode cX12_back 3 = .ok (.invokestatic 381, 3) := by decide +kernel
theorem dX12_back_6 : decode cX12_back 6 = .ok (.ifCond .eq 12, 3) := by decide +kernel
theorem dX12_back_9 : decode cX12_back 9 = .ok (.aload_n 0, 1) := by decide +kernel
theorem dX12_back_10 : decode cX12_back 10 = .ok (.getfield 164, 3) := by decide +kernel
theorem dX12_back_13 : decode cX12_back 13 = .ok (.iload_n 1, 1) := by decide +kernel
theorem dX12_back_14 : decode cX12_back 14 = .ok (.baload, 1) := by decide +kernel
theorem dX12_back_15 : decode cX12_back 15 = .ok (.ifCond .ne 5, 3) := by decide +kernel
theorem dX12_back_18 : decode cX12_back 18 = .ok (.iconst (-1), 1) := by decide +kernel
theorem dX12_back_19 : decode cX12_back 19 = .ok (.ireturn, 1) := by decide +kernel
theorem dX12_back_20 : decode cX12_back 20 = .ok (.iconst 0, 1) := by decide +kernel
theorem dX12_back_21 : decode cX12_back 21 = .ok (.istore_n 2, 1) := by decide +kernel
theorem dX12_back_22 : decode cX12_back 22 = .ok (.iload_n 2, 1) := by decide +kernel
theorem dX12_back_23 : decode cX12_back 23 = .ok (.bipush 32, 2) := by decide +kernel
theorem dX12_back_25 : decode cX12_back 25 = .ok (.if_icmp .ge 26, 3) := by decide +kernel
theorem dX12_back_28 : decode cX12_back 28 = .ok (.aload_n 0, 1) := by decide +kernel
theorem dX12_back_29 : decode cX12_back 29 = .ok (.getfield 95, 3) := by decide +kernel
theorem dX12_back_32 : decode cX12_back 32 = .ok (.iload_n 2, 1) := by decide +kernel
theorem dX12_back_33 : decode cX12_back 33 = .ok (.aload_n 0, 1) := by decide +kernel
theorem dX12_back_34 : decode cX12_back 34 = .ok (.getfield 161, 3) := by decide +kernel
theorem dX12_back_37 : decode cX12_back 37 = .ok (.bipush 32, 2) := by decide +kernel
theorem dX12_back_39 : decode cX12_back 39 = .ok (.iload_n 1, 1) := by decide +kernel
theorem dX12_back_40 : decode cX12_back 40 = .ok (.imul, 1) := by decide +kernel
theorem dX12_back_41 : decode cX12_back 41 = .ok (.iload_n 2, 1) := by decide +kernel
theorem dX12_back_42 : decode cX12_back 42 = .ok (.iadd, 1) := by decide +kernel
theorem dX12_back_43 : decode cX12_back 43 = .ok (.iaload, 1) := by decide +kernel
theorem dX12_back_44 : decode cX12_back 44 = .ok (.iastore, 1) := by decide +kernel
theorem dX12_back_45 : decode cX12_back 45 = .ok (.iinc 2 1, 3) := by decide +kernel
theorem dX12_back_48 : decode cX12_back 48 = .ok (.goto (-26), 3) := by decide +kernel
theorem dX12_back_51 : decode cX12_back 51 = .ok (.aload_n 0, 1) := by decide +kernel
theorem dX12_back_52 : decode cX12_back 52 = .ok (.iconst 0, 1) := by decide +kernel
theorem dX12_back_53 : decode cX12_back 53 = .ok (.putfield 409, 3) := by decide +kernel
theorem dX12_back_56 : decode cX12_back 56 = .ok (.aload_n 0, 1) := by decide +kernel
theorem dX12_back_57 : decode cX12_back 57 = .ok (.iconst 0, 1) := by decide +kernel
theorem dX12_back_58 : decode cX12_back 58 = .ok (.putfield 412, 3) := by decide +kernel
theorem dX12_back_61 : decode cX12_back 61 = .ok (.aload_n 0, 1) := by decide +kernel
theorem dX12_back_62 : decode cX12_back 62 = .ok (.getfield 95, 3) := by decide +kernel
theorem dX12_back_65 : decode cX12_back 65 = .ok (.bipush 30, 2) := by decide +kernel
theorem dX12_back_67 : decode cX12_back 67 = .ok (.iaload, 1) := by decide +kernel
theorem dX12_back_68 : decode cX12_back 68 = .ok (.ireturn, 1) := by decide +kernel
set_option maxRecDepth 20000 in
theorem ggX12_carry_X12_isIn : GoodIn wsX12_carry wsX12_isIn := goodIn_r _ [16] (by decide +kernel) (by decide +kernel)
set_option maxRecDepth 20000 in
theorem gX12_carry_X12_isIn : GoodIn wsX12_carry (va_wsS RX12 381 yX12_isIn wsX12_isIn) := goodIn_app (goodIn_of _ (by decide +kernel)) ggX12_carry_X12_isIn
set_option maxRecDepth 20000 in
theorem ggX12_carry_X12_isThing : GoodIn wsX12_carry wsX12_isThing := goodIn_r _ [8, 9, 10, 11, 7, 12, 13, 2, 14, 15, 16, 34, 35, 36, 37, 38, 39, 40, 41, 42, 43, 44, 45, 46, 47, 48, 49, 50, 51, 52, 53, 54, 55, 56, 57, 58, 59, 60, 61, 62, 63, 64, 65, 66, 67, 68, 69, 70, 71, 72, 73, 74, 75, 76, 77, 78, 79, 80, 81, 82, 83, 84, 85, 86, 87, 88, 89, 90, 91, 92, 93, 94, 95, 96, 97, 98, 99, 100, 101, 102, 103, 104] (by decide +kernel) (by decide +kernel)
set_option maxRecDepth 20000 in
theorem gX12_carry_X12_isThing : GoodIn wsX12_carry (wsV RX12 436 RX12 yX12_isThing wsX12_isThing) := goodIn_app (goodIn_of _ (by decide +kernel)) ggX12_carry_X12_isThing
set_option maxRecDepth 20000 in
theorem ggX12_carry_X12_keepAct : GoodIn wsX12_carry wsX12_keepAct := goodIn_r _ [30, 31, 32, 3, 33, 34, 35, 36, 37, 38, 39, 40, 41, 42, 43, 44, 45, 46, 47, 48, 49, 50, 51, 52, 53, 54, 55, 56, 57, 58, 59, 60, 61, 62, 63, 64, 65, 66, 67, 68, 69, 70, 71, 72, 73, 74, 75, 76, 77, 78, 79, 80, 81, 82, 83, 84, 85, 86, 87, 88, 89, 90, 91, 92, 93, 94, 95, 96, 97, 98, 99, 100, 101, 102, 103, 104] (by decide +kernel) (by decide +kernel)
set_option maxRecDepth 20000 in
theorem gX12_carry_X12_keepAct : GoodIn wsX12_carry (wsV RX12 448 RX12 yX12_keepAct wsX12_keepAct) := goodIn_app (goodIn_of _ (by decide +kernel)) ggX12_carry_X12_keepAct
set_option maxRecDepth 20000 in
theorem ggX12_carry_X12_oneOf : GoodIn wsX12_carry wsX12_oneOf := goodIn_r _ [20, 21, 2, 34, 35, 36, 37, 38, 39, 40, 41, 42, 43, 44, 45, 46, 47, 48, 49, 50, 51, 52, 53, 54, 55, 56, 57, 58, 59, 60, 61, 62, 63, 64, 65, 66, 67, 68, 69, 70, 71, 72, 73, 74, 75, 76, 77, 78, 79, 80, 81, 82, 83, 84, 85, 86, 87, 88, 89, 90, 91, 92, 93, 94, 95, 96, 97, 98, 99, 100, 101, 102, 103, 104] (by decide +kernel) (by decide +kernel)
set_option maxRecDepth 20000 in
theorem gX12_carry_X12_oneOf : GoodIn wsX12_carry (wsV RX12 391 RX12 yX12_oneOf wsX12_oneOf) := goodIn_app (goodIn_of _ (by decide +kernel)) ggX12_carry_X12_oneOf
set_option maxRecDepth 20000 in
theorem ggX12_carry_X12_otherOf : GoodIn wsX12_carry wsX12_otherOf := goodIn_r _ [25, 26, 2, 34, 35, 36, 37, 38, 39, 40, 41, 42, 43, 44, 45, 46, 47, 48, 49, 50, 51, 52, 53, 54, 55, 56, 57, 58, 59, 60, 61, 62, 63, 64, 65, 66, 67, 68, 69, 70, 71, 72, 73, 74, 75, 76, 77, 78, 79, 80, 81, 82, 83, 84, 85, 86, 87, 88, 89, 90, 91, 92, 93, 94, 95, 96, 97, 98, 99, 100, 101, 102, 103, 104] (by decide +kernel) (by decide +kernel)
set_option maxRecDepth 20000 in
theorem gX12_carry_X12_otherOf : GoodIn wsX12_carry (wsV RX12 394 RX12 yX12_otherOf wsX12_otherOf) := goodIn_app (goodIn_of _ (by decide +kernel)) ggX12_carry_X12_otherOf
set_option maxRecDepth 20000 in
theorem ggX12_goDay_X12_many : GoodIn wsX12_goDay wsX12_many := goodIn_r _ [6, 7, 8, 53, 54, 55, 56, 57, 58, 59, 60, 61, 62, 63, 64, 65, 66, 67, 68, 69, 70, 71, 72, 73, 74, 75, 76, 77, 78, 79, 80, 81, 82, 83, 84, 85, 86, 87, 88, 89, 90, 91, 92, 93, 94, 95, 96, 97, 98, 99, 100, 101, 102, 103, 104, 105, 106, 107, 108, 109, 110, 111, 112, 113, 114, 115, 116, 117, 118, 119, 120, 121, 122, 123] (by decide +kernel) (by decide +kernel)
set_option maxRecDepth 20000 in
theorem gX12_goDay_X12_many : GoodIn wsX12_goDay (wsV RX12 388 RX12 yX12_many wsX12_many) := goodIn_app (goodIn_of _ (by decide +kernel)) ggX12_goDay_X12_many
set_option maxRecDepth 20000 in
theorem ggX12_goDay_X12_places : GoodIn wsX12_goDay wsX12_places := goodIn_r _ [51, 52, 8, 53, 54, 55, 56, 57, 58, 59, 60, 61, 62, 63, 64, 65, 66, 67, 68, 69, 70, 71, 72, 73, 74, 75, 76, 77, 78, 79, 80, 81, 82, 83, 84, 85, 86, 87, 88, 89, 90, 91, 92, 93, 94, 95, 96, 97, 98, 99, 100, 101, 102, 103, 104, 105, 106, 107, 108, 109, 110, 111, 112, 113, 114, 115, 116, 117, 118, 119, 120, 121, 122, 123] (by decide +kernel) (by decide +kernel)
set_option maxRecDepth 20000 in
theorem gX12_goDay_X12_places : GoodIn wsX12_goDay (wsV RX12 378 RX12 yX12_places wsX12_places) := goodIn_app (goodIn_of _ (by decide +kernel)) ggX12_goDay_X12_places
set_option maxRecDepth 20000 in
theorem ggX12_goDay_X12_sureOf : GoodIn wsX12_goDay wsX12_sureOf := goodIn_r _ [12, 13, 8, 14, 15, 16, 17, 5, 18, 19, 20, 21, 22, 23, 24, 25, 26, 27, 28, 29, 30, 31, 32, 1, 33, 34, 35, 36, 37, 38, 39, 40, 41, 42, 43, 44, 45, 46, 47, 53, 54, 55, 56, 57, 58, 59, 60, 61, 62, 63, 64, 65, 66, 67, 68, 69, 70, 71, 72, 73, 74, 75, 76, 77, 78, 79, 80, 81, 82, 83, 84, 85, 86, 87, 88, 89, 90, 91, 92, 93, 94, 95, 96, 97, 98, 99, 100, 101, 102, 103, 104, 105, 106, 107, 108, 109, 110, 111, 112, 113, 114, 115, 116, 117, 118, 119, 120, 121, 122, 123] (by decide +kernel) (by decide +kernel)
set_option maxRecDepth 20000 in
theorem gX12_goDay_X12_sureOf : GoodIn wsX12_goDay (wsV RX12 439 RX12 yX12_sureOf wsX12_sureOf) := goodIn_app (goodIn_of _ (by decide +kernel)) ggX12_goDay_X12_sureOf
set_option maxRecDepth 20000 in
theorem ggX12_day_X12_goDay : GoodIn wsX12_day wsX12_goDay := goodIn_r _ [13, 1, 14, 15, 16, 5, 17, 18, 19, 20, 21, 22, 23, 24, 25, 26, 27, 28, 29, 30, 31, 32, 33, 34, 35, 36, 37, 38, 39, 40, 41, 42, 43, 44, 45, 46, 47, 48, 49, 50, 51, 52, 53, 54, 55, 56, 57, 58, 59, 60, 61, 62, 63, 64, 65, 66, 67, 68, 69, 70, 71, 72, 73, 74, 75, 76, 77, 78, 79, 80, 81, 82, 83, 84, 85, 86, 87, 88, 89, 90, 91, 92, 93, 94, 95, 96, 97, 98, 99, 100, 101, 102, 103, 104, 105, 106, 107, 108, 109, 110, 111, 112, 113, 114, 115, 116, 117, 118, 119, 120, 121, 122, 123, 124, 125, 126, 127, 128, 129, 130, 131, 132, 133, 134] (by decide +kernel) (by decide +kernel)
set_option maxRecDepth 20000 in
theorem gX12_day_X12_goDay : GoodIn wsX12_day (wsV RX12 454 RX12 yX12_goDay wsX12_goDay) := goodIn_app (goodIn_of _ (by decide +kernel)) ggX12_day_X12_goDay
set_option maxRecDepth 20000 in
theorem ggX12_day_X12_keepAct : GoodIn wsX12_day wsX12_keepAct := goodIn_r _ [6, 7, 8, 1, 9, 64, 65, 66, 67, 68, 69, 70, 71, 72, 73, 74, 75, 76, 77, 78, 79, 80, 81, 82, 83, 84, 85, 86, 87, 88, 89, 90, 91, 92, 93, 94, 95, 96, 97, 98, 99, 100, 101, 102, 103, 104, 105, 106, 107, 108, 109, 110, 111, 112, 113, 114, 115, 116, 117, 118, 119, 120, 121, 122, 123, 124, 125, 126, 127, 128, 129, 130, 131, 132, 133, 134] (by decide +kernel) (by decide +kernel)
set_option maxRecDepth 20000 in
theorem gX12_day_X12_keepAct : GoodIn wsX12_day (wsV RX12 448 RX12 yX12_keepAct wsX12_keepAct) := goodIn_app (goodIn_of _ (by decide +kernel)) ggX12_day_X12_keepAct
set_option maxRecDepth 20000 in
theorem ggX12_undo_X12_exchange : GoodIn wsX12_undo wsX12_exchange := goodIn_r _ [7, 8, 1, 9, 10, 11, 12, 13, 14, 15, 16, 17, 18, 19, 20, 21, 22, 23, 24, 25, 26, 27, 28, 29, 30, 31, 32, 33, 34, 35, 36, 37, 38, 39, 40, 41, 42, 43, 44, 45, 46, 47, 48, 49, 50, 51, 52, 53, 54, 55, 56, 57, 58, 59, 60, 61, 62, 63, 64, 65, 66, 67, 68, 69, 70, 71, 72, 73, 74, 75, 76, 77, 78, 79, 80] (by decide +kernel) (by decide +kernel)
set_option maxRecDepth 20000 in
theorem gX12_undo_X12_exchange : GoodIn wsX12_undo (wsV RX12 457 RX12 yX12_exchange wsX12_exchange) := goodIn_app (goodIn_of _ (by decide +kernel)) ggX12_undo_X12_exchange
set_option maxRecDepth 20000 in
theorem ggX12_redo_X12_exchange : GoodIn wsX12_redo wsX12_exchange := goodIn_r _ [7, 8, 2, 9, 10, 11, 12, 13, 14, 15, 16, 17, 18, 19, 20, 21, 22, 23, 24, 25, 26, 27, 28, 29, 30, 31, 32, 33, 34, 35, 36, 37, 38, 39, 40, 41, 42, 43, 44, 45, 46, 47, 48, 49, 50, 51, 52, 53, 54, 55, 56, 57, 58, 59, 60, 61, 62, 63, 64, 65, 66, 67, 68, 69, 70, 71, 72, 73, 74, 75, 76, 77, 78, 79, 80] (by decide +kernel) (by decide +kernel)
set_option maxRecDepth 20000 in
theorem gX12_redo_X12_exchange : GoodIn wsX12_redo (wsV RX12 457 RX12 yX12_exchange wsX12_exchange) := goodIn_app (goodIn_of _ (by decide +kernel)) ggX12_redo_X12_exchange
set_option maxRecDepth 20000 in
theorem ggX12_thing_X12_isThing : GoodIn wsX12_thing wsX12_isThing := goodIn_r _ [9, 10, 11, 12, 8, 13, 14, 3, 15, 16, 17, 55, 56, 57, 58, 59, 60, 61, 62, 63, 64, 65, 66, 67, 68, 69, 70, 71, 72, 73, 74, 75, 76, 77, 78, 79, 80, 81, 82, 83, 84, 85, 86, 87, 88, 89, 90, 91, 92, 93, 94, 95, 96, 97, 98, 99, 100, 101, 102, 103, 104, 105, 106, 107, 108, 109, 110, 111, 112, 113, 114, 115, 116, 117, 118, 119, 120, 121, 122, 123, 124, 125] (by decide +kernel) (by decide +kernel)
set_option maxRecDepth 20000 in
theorem gX12_thing_X12_isThing : GoodIn wsX12_thing (wsV RX12 436 RX12 yX12_isThing wsX12_isThing) := goodIn_app (goodIn_of _ (by decide +kernel)) ggX12_thing_X12_isThing
set_option maxRecDepth 20000 in
theorem ggX12_thing_X12_sureOf : GoodIn wsX12_thing wsX12_sureOf := goodIn_r _ [21, 22, 3, 23, 24, 25, 26, 8, 27, 28, 29, 30, 31, 32, 33, 34, 35, 36, 37, 38, 39, 2, 4, 1, 40, 41, 42, 43, 44, 45, 46, 47, 48, 49, 50, 51, 52, 53, 54, 55, 56, 57, 58, 59, 60, 61, 62, 63, 64, 65, 66, 67, 68, 69, 70, 71, 72, 73, 74, 75, 76, 77, 78, 79, 80, 81, 82, 83, 84, 85, 86, 87, 88, 89, 90, 91, 92, 93, 94, 95, 96, 97, 98, 99, 100, 101, 102, 103, 104, 105, 106, 107, 108, 109, 110, 111, 112, 113, 114, 115, 116, 117, 118, 119, 120, 121, 122, 123, 124, 125] (by decide +kernel) (by decide +kernel)
set_option maxRecDepth 20000 in
theorem gX12_thing_X12_sureOf : GoodIn wsX12_thing (wsV RX12 439 RX12 yX12_sureOf wsX12_sureOf) := goodIn_app (goodIn_of _ (by decide +kernel)) ggX12_thing_X12_sureOf
set_option maxRecDepth 20000 in
theorem ggX12_stay_X12_divisor : GoodIn wsX12_stay wsX12_divisor := goodIn_r _ [57] (by decide +kernel) (by decide +kernel)
set_option maxRecDepth 20000 in
theorem gX12_stay_X12_divisor : GoodIn wsX12_stay (va_wsS RX12 496 yX12_divisor wsX12_divisor) := goodIn_app (goodIn_of _ (by decide +kernel)) ggX12_stay_X12_divisor
set_option maxRecDepth 20000 in
theorem ggX12_stay_X12_isIn : GoodIn wsX12_stay wsX12_isIn := goodIn_r _ [15] (by decide +kernel) (by decide +kernel)
set_option maxRecDepth 20000 in
theorem gX12_stay_X12_isIn : GoodIn wsX12_stay (va_wsS RX12 381 yX12_isIn wsX12_isIn) := goodIn_app (goodIn_of _ (by decide +kernel)) ggX12_stay_X12_isIn
set_option maxRecDepth 20000 in
theorem ggX12_stay_X12_isThing : GoodIn wsX12_stay wsX12_isThing := goodIn_r _ [6, 7, 8, 9, 5, 10, 11, 12, 13, 14, 15, 58, 59, 60, 61, 62, 63, 64, 65, 66, 67, 68, 69, 70, 71, 72, 73, 74, 75, 76, 77, 78, 79, 80, 81, 82, 83, 84, 85, 86, 87, 88, 89, 90, 91, 92, 93, 94, 95, 96, 97, 98, 99, 100, 101, 102, 103, 104, 105, 106, 107, 108, 109, 110, 111, 112, 113, 114, 115, 116, 117, 118, 119, 120, 121, 122, 123, 124, 125, 126, 127, 128] (by decide +kernel) (by decide +kernel)
set_option maxRecDepth 20000 in
theorem gX12_stay_X12_isThing : GoodIn wsX12_stay (wsV RX12 436 RX12 yX12_isThing wsX12_isThing) := goodIn_app (goodIn_of _ (by decide +kernel)) ggX12_stay_X12_isThing
set_option maxRecDepth 20000 in
theorem ggX12_stay_X12_sureOf : GoodIn wsX12_stay wsX12_sureOf := goodIn_r _ [19, 20, 12, 21, 22, 23, 24, 5, 25, 26, 27, 28, 29, 30, 31, 32, 33, 34, 35, 36, 37, 38, 39, 1, 40, 41, 42, 43, 44, 45, 46, 47, 48, 49, 50, 51, 52, 53, 54, 58, 59, 60, 61, 62, 63, 64, 65, 66, 67, 68, 69, 70, 71, 72, 73, 74, 75, 76, 77, 78, 79, 80, 81, 82, 83, 84, 85, 86, 87, 88, 89, 90, 91, 92, 93, 94, 95, 96, 97, 98, 99, 100, 101, 102, 103, 104, 105, 106, 107, 108, 109, 110, 111, 112, 113, 114, 115, 116, 117, 118, 119, 120, 121, 122, 123, 124, 125, 126, 127, 128] (by decide +kernel) (by decide +kernel)
set_option maxRecDepth 20000 in
theorem gX12_stay_X12_sureOf : GoodIn wsX12_stay (wsV RX12 439 RX12 yX12_sureOf wsX12_sureOf) := goodIn_app (goodIn_of _ (by decide +kernel)) ggX12_stay_X12_sureOf
set_option maxRecDepth 20000 in
theorem ggX12_rightOnes_X12_many : GoodIn wsX12_rightOnes wsX12_many := goodIn_r _ [6, 7, 8, 9, 10, 11, 12, 13, 14, 15, 16, 17, 18, 19, 20, 21, 22, 23, 24, 25, 26, 27, 28, 29, 30, 31, 32, 33, 34, 35, 36, 37, 38, 39, 40, 41, 42, 43, 44, 45, 46, 47, 48, 49, 50, 51, 52, 53, 54, 55, 56, 57, 58, 59, 60, 61, 62, 63, 64, 65, 66, 67, 68, 69, 70, 71, 72, 73, 74, 75, 76, 77, 78, 79] (by decide +kernel) (by decide +kernel)
set_option maxRecDepth 20000 in
theorem gX12_rightOnes_X12_many : GoodIn wsX12_rightOnes (wsV RX12 388 RX12 yX12_many wsX12_many) := goodIn_app (goodIn_of _ (by decide +kernel)) ggX12_rightOnes_X12_many
set_option maxRecDepth 20000 in
theorem ggX12_will_X12_bringBack : GoodIn wsX12_will wsX12_bringBack := goodIn_r _ [72, 1, 20, 73, 74, 75, 76, 77, 78, 79, 80, 81, 82, 83, 84, 85, 86, 87, 88, 89, 90, 91, 92, 93, 94, 95, 96, 97, 98, 99, 100, 101, 102, 103, 104, 105, 106, 107, 108, 109, 110, 111, 112, 113, 114, 115, 116, 117, 118, 119, 120, 121, 122, 123, 124, 125, 126, 127, 128, 129, 130, 131, 132, 133, 134, 135, 136, 137, 138, 139, 140, 141, 142, 143] (by decide +kernel) (by decide +kernel)
set_option maxRecDepth 20000 in
theorem gX12_will_X12_bringBack : GoodIn wsX12_will (wsV RX12 502 RX12 yX12_bringBack wsX12_bringBack) := goodIn_app (goodIn_of _ (by decide +kernel)) ggX12_will_X12_bringBack
set_option maxRecDepth 20000 in
theorem ggX12_will_X12_goDay : GoodIn wsX12_will wsX12_goDay := goodIn_r _ [24, 1, 7, 8, 9, 5, 10, 11, 12, 25, 26, 27, 28, 29, 30, 31, 32, 33, 34, 35, 36, 37, 38, 39, 40, 41, 42, 43, 44, 45, 46, 47, 48, 49, 50, 51, 52, 53, 54, 55, 56, 57, 58, 59, 60, 61, 62, 63, 64, 65, 66, 67, 68, 73, 74, 75, 76, 77, 78, 79, 80, 81, 82, 83, 84, 85, 86, 87, 88, 89, 90, 91, 92, 93, 94, 95, 96, 97, 98, 99, 100, 101, 102, 103, 104, 105, 106, 107, 108, 109, 110, 111, 112, 113, 114, 115, 116, 117, 118, 119, 120, 121, 122, 123, 124, 125, 126, 127, 128, 129, 130, 131, 132, 133, 134, 135, 136, 137, 138, 139, 140, 141, 142, 143] (by decide +kernel) (by decide +kernel)
set_option maxRecDepth 20000 in
theorem gX12_will_X12_goDay : GoodIn wsX12_will (wsV RX12 454 RX12 yX12_goDay wsX12_goDay) := goodIn_app (goodIn_of _ (by decide +kernel)) ggX12_will_X12_goDay
set_option maxRecDepth 20000 in
theorem ggX12_will_X12_isIn : GoodIn wsX12_will wsX12_isIn := goodIn_r _ [15] (by decide +kernel) (by decide +kernel)
set_option maxRecDepth 20000 in
theorem gX12_will_X12_isIn : GoodIn wsX12_will (va_wsS RX12 381 yX12_isIn wsX12_isIn) := goodIn_app (goodIn_of _ (by decide +kernel)) ggX12_will_X12_isIn
set_option maxRecDepth 20000 in
theorem ggX12_will_X12_isThing : GoodIn wsX12_will wsX12_isThing := goodIn_r _ [6, 7, 8, 9, 5, 10, 11, 12, 13, 14, 15, 73, 74, 75, 76, 77, 78, 79, 80, 81, 82, 83, 84, 85, 86, 87, 88, 89, 90, 91, 92, 93, 94, 95, 96, 97, 98, 99, 100, 101, 102, 103, 104, 105, 106, 107, 108, 109, 110, 111, 112, 113, 114, 115, 116, 117, 118, 119, 120, 121, 122, 123, 124, 125, 126, 127, 128, 129, 130, 131, 132, 133, 134, 135, 136, 137, 138, 139, 140, 141, 142, 143] (by decide +kernel) (by decide +kernel)
set_option maxRecDepth 20000 in
theorem gX12_will_X12_isThing : GoodIn wsX12_will (wsV RX12 436 RX12 yX12_isThing wsX12_isThing) := goodIn_app (goodIn_of _ (by decide +kernel)) ggX12_will_X12_isThing
set_option maxRecDepth 20000 in
theorem ggX12_will_X12_keepNow : GoodIn wsX12_will wsX12_keepNow := goodIn_r _ [19, 20, 1, 73, 74, 75, 76, 77, 78, 79, 80, 81, 82, 83, 84, 85, 86, 87, 88, 89, 90, 91, 92, 93, 94, 95, 96, 97, 98, 99, 100, 101, 102, 103, 104, 105, 106, 107, 108, 109, 110, 111, 112, 113, 114, 115, 116, 117, 118, 119, 120, 121, 122, 123, 124, 125, 126, 127, 128, 129, 130, 131, 132, 133, 134, 135, 136, 137, 138, 139, 140, 141, 142, 143] (by decide +kernel) (by decide +kernel)
set_option maxRecDepth 20000 in
theorem gX12_will_X12_keepNow : GoodIn wsX12_will (wsV RX12 499 RX12 yX12_keepNow wsX12_keepNow) := goodIn_app (goodIn_of _ (by decide +kernel)) ggX12_will_X12_keepNow
set_option maxRecDepth 20000 in
theorem ggX12_lost_X12_bringBack : GoodIn wsX12_lost wsX12_bringBack := goodIn_r _ [69, 13, 12, 70, 71, 72, 73, 74, 75, 76, 77, 78, 79, 80, 81, 82, 83, 84, 85, 86, 87, 88, 89, 90, 91, 92, 93, 94, 95, 96, 97, 98, 99, 100, 101, 102, 103, 104, 105, 106, 107, 108, 109, 110, 111, 112, 113, 114, 115, 116, 117, 118, 119, 120, 121, 122, 123, 124, 125, 126, 127, 128, 129, 130, 131, 132, 133, 134, 135, 136, 137, 138, 139, 140] (by decide +kernel) (by decide +kernel)
set_option maxRecDepth 20000 in
theorem gX12_lost_X12_bringBack : GoodIn wsX12_lost (wsV RX12 502 RX12 yX12_bringBack wsX12_bringBack) := goodIn_app (goodIn_of _ (by decide +kernel)) ggX12_lost_X12_bringBack
set_option maxRecDepth 20000 in
theorem ggX12_lost_X12_goDay : GoodIn wsX12_lost wsX12_goDay := goodIn_r _ [21, 13, 1, 2, 3, 4, 5, 6, 7, 22, 23, 24, 25, 26, 27, 28, 29, 30, 31, 32, 33, 34, 35, 36, 37, 38, 39, 40, 41, 42, 43, 44, 45, 46, 47, 48, 49, 50, 51, 52, 53, 54, 55, 56, 57, 58, 59, 60, 61, 62, 63, 64, 65, 70, 71, 72, 73, 74, 75, 76, 77, 78, 79, 80, 81, 82, 83, 84, 85, 86, 87, 88, 89, 90, 91, 92, 93, 94, 95, 96, 97, 98, 99, 100, 101, 102, 103, 104, 105, 106, 107, 108, 109, 110, 111, 112, 113, 114, 115, 116, 117, 118, 119, 120, 121, 122, 123, 124, 125, 126, 127, 128, 129, 130, 131, 132, 133, 134, 135, 136, 137, 138, 139, 140] (by decide +kernel) (by decide +kernel)
set_option maxRecDepth 20000 in
theorem gX12_lost_X12_goDay : GoodIn wsX12_lost (wsV RX12 454 RX12 yX12_goDay wsX12_goDay) := goodIn_app (goodIn_of _ (by decide +kernel)) ggX12_lost_X12_goDay
set_option maxRecDepth 20000 in
theorem ggX12_lost_X12_keepNow : GoodIn wsX12_lost wsX12_keepNow := goodIn_r _ [11, 12, 13, 70, 71, 72, 73, 74, 75, 76, 77, 78, 79, 80, 81, 82, 83, 84, 85, 86, 87, 88, 89, 90, 91, 92, 93, 94, 95, 96, 97, 98, 99, 100, 101, 102, 103, 104, 105, 106, 107, 108, 109, 110, 111, 112, 113, 114, 115, 116, 117, 118, 119, 120, 121, 122, 123, 124, 125, 126, 127, 128, 129, 130, 131, 132, 133, 134, 135, 136, 137, 138, 139, 140] (by decide +kernel) (by decide +kernel)
set_option maxRecDepth 20000 in
theorem gX12_lost_X12_keepNow : GoodIn wsX12_lost (wsV RX12 499 RX12 yX12_keepNow wsX12_keepNow) := goodIn_app (goodIn_of _ (by decide +kernel)) ggX12_lost_X12_keepNow
set_option maxRecDepth 20000 in
theorem ggX12_lost_X12_many : GoodIn wsX12_lost wsX12_many := goodIn_r _ [5, 6, 7, 70, 71, 72, 73, 74, 75, 76, 77, 78, 79, 80, 81, 82, 83, 84, 85, 86, 87, 88, 89, 90, 91, 92, 93, 94, 95, 96, 97, 98, 99, 100, 101, 102, 103, 104, 105, 106, 107, 108, 109, 110, 111, 112, 113, 114, 115, 116, 117, 118, 119, 120, 121, 122, 123, 124, 125, 126, 127, 128, 129, 130, 131, 132, 133, 134, 135, 136, 137, 138, 139, 140] (by decide +kernel) (by decide +kernel)
set_option maxRecDepth 20000 in
theorem gX12_lost_X12_many : GoodIn wsX12_lost (wsV RX12 388 RX12 yX12_many wsX12_many) := goodIn_app (goodIn_of _ (by decide +kernel)) ggX12_lost_X12_many
set_option maxRecDepth 20000 in
theorem ggX12_lost_X12_rightOnes : GoodIn wsX12_lost wsX12_rightOnes := goodIn_r _ [17, 13, 1, 2, 3, 4, 5, 6, 7, 70, 71, 72, 73, 74, 75, 76, 77, 78, 79, 80, 81, 82, 83, 84, 85, 86, 87, 88, 89, 90, 91, 92, 93, 94, 95, 96, 97, 98, 99, 100, 101, 102, 103, 104, 105, 106, 107, 108, 109, 110, 111, 112, 113, 114, 115, 116, 117, 118, 119, 120, 121, 122, 123, 124, 125, 126, 127, 128, 129, 130, 131, 132, 133, 134, 135, 136, 137, 138, 139, 140] (by decide +kernel) (by decide +kernel)
set_option maxRecDepth 20000 in
theorem gX12_lost_X12_rightOnes : GoodIn wsX12_lost (wsV RX12 493 RX12 yX12_rightOnes wsX12_rightOnes) := goodIn_app (goodIn_of _ (by decide +kernel)) ggX12_lost_X12_rightOnes
set_option maxRecDepth 20000 in
theorem ggX12_later_X12_isIn : GoodIn wsX12_later wsX12_isIn := goodIn_r _ [6] (by decide +kernel) (by decide +kernel)
set_option maxRecDepth 20000 in
theorem gX12_later_X12_isIn : GoodIn wsX12_later (va_wsS RX12 381 yX12_isIn wsX12_isIn) := goodIn_app (goodIn_of _ (by decide +kernel)) ggX12_later_X12_isIn
set_option maxRecDepth 20000 in
theorem ggX12_image_X12_isIn : GoodIn wsX12_image wsX12_isIn := goodIn_r _ [7] (by decide +kernel) (by decide +kernel)
set_option maxRecDepth 20000 in
theorem gX12_image_X12_isIn : GoodIn wsX12_image (va_wsS RX12 381 yX12_isIn wsX12_isIn) := goodIn_app (goodIn_of _ (by decide +kernel)) ggX12_image_X12_isIn
set_option maxRecDepth 20000 in
theorem ggX12_back_X12_isIn : GoodIn wsX12_back wsX12_isIn := goodIn_r _ [9] (by decide +kernel) (by decide +kernel)
set_option maxRecDepth 20000 in
theorem gX12_back_X12_isIn : GoodIn wsX12_back (va_wsS RX12 381 yX12_isIn wsX12_isIn) := goodIn_app (goodIn_of _ (by decide +kernel)) ggX12_back_X12_isIn
theorem iw_X12_carry_X12 : ∀ w ∈ wsX120, w ∈ wsX12_carry := fun _ h => List.mem_cons_of_mem _ (List.mem_append_right _ h)
theorem iw_X12_goDay_X12 : ∀ w ∈ wsX120, w ∈ wsX12_goDay := fun _ h => List.mem_cons_of_mem _ (List.mem_append_right _ h)
theorem iw_X12_day_X12 : ∀ w ∈ wsX120, w ∈ wsX12_day := fun _ h => List.mem_cons_of_mem _ (List.mem_append_right _ h)
theorem iw_X12_undo_X12 : ∀ w ∈ wsX120, w ∈ wsX12_undo := fun _ h => List.mem_cons_of_mem _ (List.mem_append_right _ h)
theorem iw_X12_redo_X12 : ∀ w ∈ wsX120, w ∈ wsX12_redo := fun _ h => List.mem_cons_of_mem _ (List.mem_append_right _ h)
theorem iw_X12_thing_X12 : ∀ w ∈ wsX120, w ∈ wsX12_thing := fun _ h => List.mem_cons_of_mem _ (List.mem_append_right _ h)
theorem iw_X12_stay_X12 : ∀ w ∈ wsX120, w ∈ wsX12_stay := fun _ h => List.mem_cons_of_mem _ (List.mem_append_right _ h)
theorem iw_X12_keepNow_X12 : ∀ w ∈ wsX120, w ∈ wsX12_keepNow := fun _ h => List.mem_cons_of_mem _ (List.mem_append_right _ h)
theorem iw_X12_bringBack_X12 : ∀ w ∈ wsX120, w ∈ wsX12_bringBack := fun _ h => List.mem_cons_of_mem _ (List.mem_append_right _ h)
theorem iw_X12_rightOnes_X12 : ∀ w ∈ wsX120, w ∈ wsX12_rightOnes := fun _ h => List.mem_cons_of_mem _ (List.mem_append_right _ h)
theorem iw_X12_will_X12 : ∀ w ∈ wsX120, w ∈ wsX12_will := fun _ h => List.mem_cons_of_mem _ (List.mem_append_right _ h)
theorem iw_X12_later_X12 : ∀ w ∈ wsX120, w ∈ wsX12_later := fun _ h => List.mem_cons_of_mem _ (List.mem_append_right _ h)
theorem iw_X12_image_X12 : ∀ w ∈ wsX120, w ∈ wsX12_image := fun _ h => List.mem_cons_of_mem _ (List.mem_append_right _ h)
theorem iw_X12_back_X12 : ∀ w ∈ wsX120, w ∈ wsX12_back := fun _ h => List.mem_cons_of_mem _ (List.mem_append_right _ h)
