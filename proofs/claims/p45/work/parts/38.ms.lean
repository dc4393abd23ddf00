def wsX12_allWalks : List Cond := .code yX12_allWalks cX12_allWalks 3 (some .int) :: ([.methodLink RX12 378 yX12_places, .instanceMethod yX12_places, .selects RX12 yX12_places yX12_places, .initialized RX12, .code yX12_places cX12_places 1 (some .int), .fieldLink RX12 20 "SoldHouseModel" "rooms" "[I", .fieldLink RX12 280 "SoldHouseModel" "bank" "I", .methodLink RX12 519 yX12_walksBy, .instanceMethod yX12_walksBy, .selects RX12 yX12_walksBy yX12_walksBy, .code yX12_walksBy cX12_walksBy 3 (some .int), .fieldLink RX12 155 "SoldHouseModel" "waysAt" "[I", .fieldLink RX12 158 "SoldHouseModel" "waysOn" "[I"] ++ wsX120)
def wsX12_walks_r1 : List Cond := [Cond.methodLink RX12 522 yX12_layWalks, Cond.instanceMethod yX12_layWalks, Cond.selects RX12 yX12_layWalks yX12_layWalks, Cond.initialized RX12, Cond.code yX12_layWalks cX12_layWalks 4 none, Cond.fieldLink RX12 116 "SoldHouseModel" "waysTo" "[I", Cond.fieldLink RX12 155 "SoldHouseModel" "waysAt" "[I", Cond.fieldLink RX12 158 "SoldHouseModel" "waysOn" "[I", Cond.methodLink RX12 378 yX12_places, Cond.instanceMethod yX12_places, Cond.selects RX12 yX12_places yX12_places, Cond.code yX12_places cX12_places 1 (some .int), Cond.fieldLink RX12 20 "SoldHouseModel" "rooms" "[I", Cond.fieldLink RX12 280 "SoldHouseModel" "bank" "I", Cond.methodLink RX12 513 yX12_openAt, Cond.instanceMethod yX12_openAt, Cond.selects RX12 yX12_openAt yX12_openAt, Cond.code yX12_openAt cX12_openAt 7 (some .int), Cond.fieldLink RX12 415 "SoldHouseModel" "heards" "I", Cond.fieldLink RX12 137 "SoldHouseModel" "hMinute" "[I", Cond.fieldLink RX12 149 "SoldHouseModel" "hTold" "[I", Cond.fieldLink RX12 152 "SoldHouseModel" "hUntold" "[I", Cond.fieldLink RX12 143 "SoldHouseModel" "hRoom" "[I", Cond.fieldLink RX12 140 "SoldHouseModel" "hCreaks" "[I"]
def wsX12_walks_r2 : List Cond := [Cond.fieldLink RX12 146 "SoldHouseModel" "hIs" "[I", Cond.methodLink RX12 430 yX12_creakOf, Cond.instanceMethod yX12_creakOf, Cond.selects RX12 yX12_creakOf yX12_creakOf, Cond.code yX12_creakOf cX12_creakOf 2 (some .int), Cond.fieldLink RX12 36 "SoldHouseModel" "creaks" "[I", Cond.methodLink RX12 516 yX12_stepOn, Cond.instanceMethod yX12_stepOn, Cond.selects RX12 yX12_stepOn yX12_stepOn, Cond.code yX12_stepOn cX12_stepOn 5 none, Cond.fieldLink RX12 119 "SoldHouseModel" "waysThen" "[I", Cond.methodLink RX12 400 yX12_behind, Cond.instanceMethod yX12_behind, Cond.selects RX12 yX12_behind yX12_behind, Cond.code yX12_behind cX12_behind 5 (some .int), Cond.fieldLink RX12 24 "SoldHouseModel" "doors" "[I", Cond.methodLink RX12 391 yX12_oneOf, Cond.instanceMethod yX12_oneOf, Cond.selects RX12 yX12_oneOf yX12_oneOf, Cond.code yX12_oneOf cX12_oneOf 2 (some .int), Cond.fieldLink RX12 39 "SoldHouseModel" "one" "[I", Cond.methodLink RX12 394 yX12_otherOf, Cond.instanceMethod yX12_otherOf, Cond.selects RX12 yX12_otherOf yX12_otherOf]
def wsX12_walks_r3 : List Cond := [Cond.code yX12_otherOf cX12_otherOf 2 (some .int), Cond.fieldLink RX12 42 "SoldHouseModel" "other" "[I", Cond.methodLink RX12 397 yX12_has, Cond.static yX12_has, Cond.code yX12_has cX12_has 2 (some .boolean), Cond.methodLink RX12 525 yX12_allWalks, Cond.instanceMethod yX12_allWalks, Cond.selects RX12 yX12_allWalks yX12_allWalks, Cond.code yX12_allWalks cX12_allWalks 3 (some .int), Cond.methodLink RX12 519 yX12_walksBy, Cond.instanceMethod yX12_walksBy, Cond.selects RX12 yX12_walksBy yX12_walksBy, Cond.code yX12_walksBy cX12_walksBy 3 (some .int)]
def wsX12_walks : List Cond := .code yX12_walks cX12_walks 2 (some .int) :: ((wsX12_walks_r1 ++ (wsX12_walks_r2 ++ wsX12_walks_r3)) ++ wsX120)
def wsX12_certain_r1 : List Cond := [Cond.methodLink RX12 381 yX12_isIn, Cond.static yX12_isIn, Cond.initialized RX12, Cond.code yX12_isIn cX12_isIn 3 (some .boolean), Cond.methodLink RX12 522 yX12_layWalks, Cond.instanceMethod yX12_layWalks, Cond.selects RX12 yX12_layWalks yX12_layWalks, Cond.code yX12_layWalks cX12_layWalks 4 none, Cond.fieldLink RX12 116 "SoldHouseModel" "waysTo" "[I", Cond.fieldLink RX12 155 "SoldHouseModel" "waysAt" "[I", Cond.fieldLink RX12 158 "SoldHouseModel" "waysOn" "[I", Cond.methodLink RX12 378 yX12_places, Cond.instanceMethod yX12_places, Cond.selects RX12 yX12_places yX12_places, Cond.code yX12_places cX12_places 1 (some .int), Cond.fieldLink RX12 20 "SoldHouseModel" "rooms" "[I", Cond.fieldLink RX12 280 "SoldHouseModel" "bank" "I", Cond.methodLink RX12 513 yX12_openAt, Cond.instanceMethod yX12_openAt, Cond.selects RX12 yX12_openAt yX12_openAt, Cond.code yX12_openAt cX12_openAt 7 (some .int), Cond.fieldLink RX12 415 "SoldHouseModel" "heards" "I", Cond.fieldLink RX12 137 "SoldHouseModel" "hMinute" "[I", Cond.fieldLink RX12 149 "SoldHouseModel" "hTold" "[I"]
def wsX12_certain_r2 : List Cond := [Cond.fieldLink RX12 152 "SoldHouseModel" "hUntold" "[I", Cond.fieldLink RX12 143 "SoldHouseModel" "hRoom" "[I", Cond.fieldLink RX12 140 "SoldHouseModel" "hCreaks" "[I", Cond.fieldLink RX12 146 "SoldHouseModel" "hIs" "[I", Cond.methodLink RX12 430 yX12_creakOf, Cond.instanceMethod yX12_creakOf, Cond.selects RX12 yX12_creakOf yX12_creakOf, Cond.code yX12_creakOf cX12_creakOf 2 (some .int), Cond.fieldLink RX12 36 "SoldHouseModel" "creaks" "[I", Cond.methodLink RX12 516 yX12_stepOn, Cond.instanceMethod yX12_stepOn, Cond.selects RX12 yX12_stepOn yX12_stepOn, Cond.code yX12_stepOn cX12_stepOn 5 none, Cond.fieldLink RX12 119 "SoldHouseModel" "waysThen" "[I", Cond.methodLink RX12 400 yX12_behind, Cond.instanceMethod yX12_behind, Cond.selects RX12 yX12_behind yX12_behind, Cond.code yX12_behind cX12_behind 5 (some .int), Cond.fieldLink RX12 24 "SoldHouseModel" "doors" "[I", Cond.methodLink RX12 391 yX12_oneOf, Cond.instanceMethod yX12_oneOf, Cond.selects RX12 yX12_oneOf yX12_oneOf, Cond.code yX12_oneOf cX12_oneOf 2 (some .int), Cond.fieldLink RX12 39 "SoldHouseModel" "one" "[I"]
def wsX12_certain_r3 : List Cond := [Cond.methodLink RX12 394 yX12_otherOf, Cond.instanceMethod yX12_otherOf, Cond.selects RX12 yX12_otherOf yX12_otherOf, Cond.code yX12_otherOf cX12_otherOf 2 (some .int), Cond.fieldLink RX12 42 "SoldHouseModel" "other" "[I", Cond.methodLink RX12 397 yX12_has, Cond.static yX12_has, Cond.code yX12_has cX12_has 2 (some .boolean), Cond.methodLink RX12 525 yX12_allWalks, Cond.instanceMethod yX12_allWalks, Cond.selects RX12 yX12_allWalks yX12_allWalks, Cond.code yX12_allWalks cX12_allWalks 3 (some .int), Cond.methodLink RX12 519 yX12_walksBy, Cond.instanceMethod yX12_walksBy, Cond.selects RX12 yX12_walksBy yX12_walksBy, Cond.code yX12_walksBy cX12_walksBy 3 (some .int)]
def wsX12_certain : List Cond := .code yX12_certain cX12_certain 5 (some .int) :: ((wsX12_certain_r1 ++ (wsX12_certain_r2 ++ wsX12_certain_r3)) ++ wsX120)
def wsX12_ask_r1 : List Cond := [Cond.methodLink RX12 381 yX12_isIn, Cond.static yX12_isIn, Cond.initialized RX12, Cond.code yX12_isIn cX12_isIn 3 (some .boolean), Cond.methodLink RX12 522 yX12_layWalks, Cond.instanceMethod yX12_layWalks, Cond.selects RX12 yX12_layWalks yX12_layWalks, Cond.code yX12_layWalks cX12_layWalks 4 none, Cond.fieldLink RX12 116 "SoldHouseModel" "waysTo" "[I", Cond.fieldLink RX12 155 "SoldHouseModel" "waysAt" "[I", Cond.fieldLink RX12 158 "SoldHouseModel" "waysOn" "[I", Cond.methodLink RX12 378 yX12_places, Cond.instanceMethod yX12_places, Cond.selects RX12 yX12_places yX12_places, Cond.code yX12_places cX12_places 1 (some .int), Cond.fieldLink RX12 20 "SoldHouseModel" "rooms" "[I", Cond.fieldLink RX12 280 "SoldHouseModel" "bank" "I", Cond.methodLink RX12 513 yX12_openAt, Cond.instanceMethod yX12_openAt, Cond.selects RX12 yX12_openAt yX12_openAt, Cond.code yX12_openAt cX12_openAt 7 (some .int), Cond.fieldLink RX12 415 "SoldHouseModel" "heards" "I", Cond.fieldLink RX12 137 "SoldHouseModel" "hMinute" "[I", Cond.fieldLink RX12 149 "SoldHouseModel" "hTold" "[I"]
def wsX12_ask_r2 : List Cond := [Cond.fieldLink RX12 152 "SoldHouseModel" "hUntold" "[I", Cond.fieldLink RX12 143 "SoldHouseModel" "hRoom" "[I", Cond.fieldLink RX12 140 "SoldHouseModel" "hCreaks" "[I", Cond.fieldLink RX12 146 "SoldHouseModel" "hIs" "[I", Cond.methodLink RX12 430 yX12_creakOf, Cond.instanceMethod yX12_creakOf, Cond.selects RX12 yX12_creakOf yX12_creakOf, Cond.code yX12_creakOf cX12_creakOf 2 (some .int), Cond.fieldLink RX12 36 "SoldHouseModel" "creaks" "[I", Cond.methodLink RX12 516 yX12_stepOn, Cond.instanceMethod yX12_stepOn, Cond.selects RX12 yX12_stepOn yX12_stepOn, Cond.code yX12_stepOn cX12_stepOn 5 none, Cond.fieldLink RX12 119 "SoldHouseModel" "waysThen" "[I", Cond.methodLink RX12 400 yX12_behind, Cond.instanceMethod yX12_behind, Cond.selects RX12 yX12_behind yX12_behind, Cond.code yX12_behind cX12_behind 5 (some .int), Cond.fieldLink RX12 24 "SoldHouseModel" "doors" "[I", Cond.methodLink RX12 391 yX12_oneOf, Cond.instanceMethod yX12_oneOf, Cond.selects RX12 yX12_oneOf yX12_oneOf, Cond.code yX12_oneOf cX12_oneOf 2 (some .int), Cond.fieldLink RX12 39 "SoldHouseModel" "one" "[I"]
def wsX12_ask_r3 : List Cond := [Cond.methodLink RX12 394 yX12_otherOf, Cond.instanceMethod yX12_otherOf, Cond.selects RX12 yX12_otherOf yX12_otherOf, Cond.code yX12_otherOf cX12_otherOf 2 (some .int), Cond.fieldLink RX12 42 "SoldHouseModel" "other" "[I", Cond.methodLink RX12 397 yX12_has, Cond.static yX12_has, Cond.code yX12_has cX12_has 2 (some .boolean), Cond.methodLink RX12 525 yX12_allWalks, Cond.instanceMethod yX12_allWalks, Cond.selects RX12 yX12_allWalks yX12_allWalks, Cond.code yX12_allWalks cX12_allWalks 3 (some .int), Cond.methodLink RX12 519 yX12_walksBy, Cond.instanceMethod yX12_walksBy, Cond.selects RX12 yX12_walksBy yX12_walksBy, Cond.code yX12_walksBy cX12_walksBy 3 (some .int)]
def wsX12_ask : List Cond := .code yX12_ask cX12_ask 8 (some .int) :: ((wsX12_ask_r1 ++ (wsX12_ask_r2 ++ wsX12_ask_r3)) ++ wsX120)
def wsX12_layTours : List Cond := .code yX12_layTours cX12_layTours 6 none :: ([.fieldLink RX12 128 "SoldHouseModel" "tours" "[I", .methodLink RX12 378 yX12_places, .instanceMethod yX12_places, .selects RX12 yX12_places yX12_places, .initialized RX12, .code yX12_places cX12_places 1 (some .int), .fieldLink RX12 20 "SoldHouseModel" "rooms" "[I", .fieldLink RX12 280 "SoldHouseModel" "bank" "I", .methodLink RX12 397 yX12_has, .static yX12_has, .code yX12_has cX12_has 2 (some .boolean), .methodLink RX12 421 yX12_farOf, .instanceMethod yX12_farOf, .selects RX12 yX12_farOf yX12_farOf, .code yX12_farOf cX12_farOf 3 (some .int), .fieldLink RX12 98 "SoldHouseModel" "table" "[I", .methodLink RX12 424 yX12_lesser, .static yX12_lesser, .code yX12_lesser cX12_lesser 2 (some .int)] ++ wsX120)
def wsX12_tour_r1 : List Cond := [Cond.fieldLink RX12 418 "SoldHouseModel" "laid" "I", Cond.fieldLink RX12 128 "SoldHouseModel" "tours" "[I", Cond.fieldLink RX12 113 "SoldHouseModel" "laidRow" "[I", Cond.methodLink RX12 385 yX12_isRoom, Cond.instanceMethod yX12_isRoom, Cond.selects RX12 yX12_isRoom yX12_isRoom, Cond.initialized RX12, Cond.code yX12_isRoom cX12_isRoom 2 (some .boolean), Cond.methodLink RX12 378 yX12_places, Cond.instanceMethod yX12_places, Cond.selects RX12 yX12_places yX12_places, Cond.code yX12_places cX12_places 1 (some .int), Cond.fieldLink RX12 20 "SoldHouseModel" "rooms" "[I", Cond.fieldLink RX12 280 "SoldHouseModel" "bank" "I", Cond.methodLink RX12 381 yX12_isIn, Cond.static yX12_isIn, Cond.code yX12_isIn cX12_isIn 3 (some .boolean), Cond.methodLink RX12 472 yX12_isSet, Cond.instanceMethod yX12_isSet, Cond.selects RX12 yX12_isSet yX12_isSet, Cond.code yX12_isSet cX12_isSet 2 (some .boolean), Cond.methodLink RX12 481 yX12_layTours, Cond.instanceMethod yX12_layTours, Cond.selects RX12 yX12_layTours yX12_layTours]
def wsX12_tour_r2 : List Cond := [Cond.code yX12_layTours cX12_layTours 6 none, Cond.methodLink RX12 397 yX12_has, Cond.static yX12_has, Cond.code yX12_has cX12_has 2 (some .boolean), Cond.methodLink RX12 421 yX12_farOf, Cond.instanceMethod yX12_farOf, Cond.selects RX12 yX12_farOf yX12_farOf, Cond.code yX12_farOf cX12_farOf 3 (some .int), Cond.fieldLink RX12 98 "SoldHouseModel" "table" "[I", Cond.methodLink RX12 424 yX12_lesser, Cond.static yX12_lesser, Cond.code yX12_lesser cX12_lesser 2 (some .int)]
def wsX12_tour : List Cond := .code yX12_tour cX12_tour 7 (some .int) :: ((wsX12_tour_r1 ++ wsX12_tour_r2) ++ wsX120)
def wsX12_house_r1 : List Cond := [Cond.fieldLink RX12 176 "SoldHouseModel" "faultKind" "I", Cond.fieldLink RX12 16 "SoldHouseModel" "faultPlace" "I", Cond.fieldLink RX12 277 "SoldHouseModel" "taped" "I", Cond.fieldLink RX12 173 "SoldHouseModel" "size" "I", Cond.fieldLink RX12 13 "SoldHouseModel" "text" "[B", Cond.fieldLink RX12 7 "SoldHouseModel" "tape" "[B", Cond.fieldLink RX12 213 "SoldHouseModel" "end" "I", Cond.fieldLink RX12 280 "SoldHouseModel" "bank" "I", Cond.fieldLink RX12 271 "SoldHouseModel" "rb" "I", Cond.fieldLink RX12 223 "SoldHouseModel" "token" "I", Cond.fieldLink RX12 20 "SoldHouseModel" "rooms" "[I", Cond.methodLink RX12 167 yX12_clearBank, Cond.instanceMethod yX12_clearBank, Cond.selects RX12 yX12_clearBank yX12_clearBank, Cond.initialized RX12, Cond.code yX12_clearBank cX12_clearBank 1 none, Cond.fieldLink RX12 24 "SoldHouseModel" "doors" "[I", Cond.fieldLink RX12 27 "SoldHouseModel" "things" "[I", Cond.fieldLink RX12 30 "SoldHouseModel" "units" "[I", Cond.fieldLink RX12 33 "SoldHouseModel" "draw" "[I", Cond.fieldLink RX12 66 "SoldHouseModel" "hasSure" "[Z", Cond.fieldLink RX12 70 "SoldHouseModel" "isDraw" "[Z", Cond.fieldLink RX12 274 "SoldHouseModel" "codes" "I", Cond.methodLink RX12 255 yX12_goOn]
def wsX12_house_r2 : List Cond := [Cond.instanceMethod yX12_goOn, Cond.selects RX12 yX12_goOn yX12_goOn, Cond.code yX12_goOn cX12_goOn 3 none, Cond.fieldLink RX12 216 "SoldHouseModel" "at" "I", Cond.fieldLink RX12 230 "SoldHouseModel" "name" "J", Cond.fieldLink RX12 241 "SoldHouseModel" "number" "I", Cond.methodLink RX12 219 yX12_sign, Cond.instanceMethod yX12_sign, Cond.selects RX12 yX12_sign yX12_sign, Cond.code yX12_sign cX12_sign 2 (some .int), Cond.methodLink RX12 226 yX12_isLetter, Cond.static yX12_isLetter, Cond.code yX12_isLetter cX12_isLetter 1 (some .boolean), Cond.methodLink RX12 234 yX12_isKept, Cond.static yX12_isKept, Cond.code yX12_isKept cX12_isKept 3 (some .boolean), Cond.constantLong RX12 179 (1919905645), Cond.constantLong RX12 181 (109342978304883), Cond.constantLong RX12 183 (1685024626), Cond.constantLong RX12 185 (499967946343), Cond.constantLong RX12 187 (26990), Cond.constantLong RX12 189 (7823731), Cond.constantLong RX12 191 (1869967987), Cond.constantLong RX12 193 (30067)]
def wsX12_house_r3 : List Cond := [Cond.constantLong RX12 195 (1952998765), Cond.constantLong RX12 197 (1937076837), Cond.constantLong RX12 199 (1685217655), Cond.constantLong RX12 201 (6709618), Cond.constantLong RX12 203 (1953459300), Cond.constantLong RX12 205 (6578553), Cond.constantLong RX12 207 (28530), Cond.constantLong RX12 209 (6385252), Cond.constantLong RX12 211 (7237492), Cond.methodLink RX12 238 yX12_isDigit, Cond.static yX12_isDigit, Cond.code yX12_isDigit cX12_isDigit 1 (some .boolean), Cond.methodLink RX12 244 yX12_isSign, Cond.static yX12_isSign, Cond.code yX12_isSign cX12_isSign 1 (some .boolean), Cond.methodLink RX12 251 yX12_isGood, Cond.instanceMethod yX12_isGood, Cond.selects RX12 yX12_isGood yX12_isGood, Cond.code yX12_isGood cX12_isGood 1 (some .boolean), Cond.methodLink RX12 283 yX12_readLine, Cond.instanceMethod yX12_readLine, Cond.selects RX12 yX12_readLine yX12_readLine, Cond.code yX12_readLine cX12_readLine 3 none, Cond.methodLink RX12 286 yX12_isFull]
def wsX12_house_r4 : List Cond := [Cond.instanceMethod yX12_isFull, Cond.selects RX12 yX12_isFull yX12_isFull, Cond.code yX12_isFull cX12_isFull 1 (some .boolean), Cond.methodLink RX12 261 yX12_isWord, Cond.instanceMethod yX12_isWord, Cond.selects RX12 yX12_isWord yX12_isWord, Cond.code yX12_isWord cX12_isWord 3 (some .boolean), Cond.methodLink RX12 258 yX12_misplaced, Cond.instanceMethod yX12_misplaced, Cond.selects RX12 yX12_misplaced yX12_misplaced, Cond.code yX12_misplaced cX12_misplaced 1 none, Cond.methodLink RX12 247 yX12_fails, Cond.instanceMethod yX12_fails, Cond.selects RX12 yX12_fails yX12_fails, Cond.code yX12_fails cX12_fails 3 none, Cond.methodLink RX12 289 yX12_readRoom, Cond.instanceMethod yX12_readRoom, Cond.selects RX12 yX12_readRoom yX12_readRoom, Cond.code yX12_readRoom cX12_readRoom 2 none, Cond.fieldLink RX12 73 "SoldHouseModel" "rName" "[J", Cond.fieldLink RX12 36 "SoldHouseModel" "creaks" "[I", Cond.methodLink RX12 313 yX12_roomHere, Cond.instanceMethod yX12_roomHere, Cond.selects RX12 yX12_roomHere yX12_roomHere]
def wsX12_house_r5 : List Cond := [Cond.code yX12_roomHere cX12_roomHere 1 (some .int), Cond.methodLink RX12 309 yX12_here, Cond.instanceMethod yX12_here, Cond.selects RX12 yX12_here yX12_here, Cond.code yX12_here cX12_here 5 (some .int), Cond.methodLink RX12 317 yX12_fresh, Cond.instanceMethod yX12_fresh, Cond.selects RX12 yX12_fresh yX12_fresh, Cond.code yX12_fresh cX12_fresh 4 (some .long), Cond.methodLink RX12 321 yX12_perhaps, Cond.instanceMethod yX12_perhaps, Cond.selects RX12 yX12_perhaps yX12_perhaps, Cond.code yX12_perhaps cX12_perhaps 4 (some .int), Cond.methodLink RX12 264 yX12_passes, Cond.instanceMethod yX12_passes, Cond.selects RX12 yX12_passes yX12_passes, Cond.code yX12_passes cX12_passes 4 (some .boolean), Cond.methodLink RX12 267 yX12_numeral, Cond.instanceMethod yX12_numeral, Cond.selects RX12 yX12_numeral yX12_numeral, Cond.code yX12_numeral cX12_numeral 4 (some .int), Cond.methodLink RX12 292 yX12_readDoor, Cond.instanceMethod yX12_readDoor, Cond.selects RX12 yX12_readDoor yX12_readDoor]
def wsX12_house_r6 : List Cond := [Cond.code yX12_readDoor cX12_readDoor 3 none, Cond.fieldLink RX12 39 "SoldHouseModel" "one" "[I", Cond.fieldLink RX12 42 "SoldHouseModel" "other" "[I", Cond.methodLink RX12 325 yX12_known, Cond.instanceMethod yX12_known, Cond.selects RX12 yX12_known yX12_known, Cond.code yX12_known cX12_known 2 (some .int), Cond.methodLink RX12 328 yX12_isDoor, Cond.instanceMethod yX12_isDoor, Cond.selects RX12 yX12_isDoor yX12_isDoor, Cond.code yX12_isDoor cX12_isDoor 5 (some .boolean), Cond.methodLink RX12 295 yX12_readThing, Cond.instanceMethod yX12_readThing, Cond.selects RX12 yX12_readThing yX12_readThing, Cond.code yX12_readThing cX12_readThing 2 none, Cond.fieldLink RX12 77 "SoldHouseModel" "tName" "[J", Cond.fieldLink RX12 45 "SoldHouseModel" "inTold" "[I", Cond.fieldLink RX12 48 "SoldHouseModel" "wasTold" "[I", Cond.fieldLink RX12 51 "SoldHouseModel" "isOurs" "[I", Cond.fieldLink RX12 54 "SoldHouseModel" "toUs" "[I", Cond.fieldLink RX12 57 "SoldHouseModel" "toThem" "[I", Cond.methodLink RX12 305 yX12_must, Cond.instanceMethod yX12_must, Cond.selects RX12 yX12_must yX12_must]
def wsX12_house_r7 : List Cond := [Cond.code yX12_must cX12_must 2 none, Cond.methodLink RX12 298 yX12_readRule, Cond.instanceMethod yX12_readRule, Cond.selects RX12 yX12_readRule yX12_readRule, Cond.code yX12_readRule cX12_readRule 2 none, Cond.fieldLink RX12 332 "SoldHouseModel" "unitsInRule" "I", Cond.fieldLink RX12 60 "SoldHouseModel" "ruleFrom" "[I", Cond.fieldLink RX12 63 "SoldHouseModel" "ruleTo" "[I", Cond.methodLink RX12 335 yX12_e, Cond.instanceMethod yX12_e, Cond.selects RX12 yX12_e yX12_e, Cond.code yX12_e cX12_e 2 none, Cond.fieldLink RX12 338 "SoldHouseModel" "piled" "I", Cond.fieldLink RX12 341 "SoldHouseModel" "within" "I", Cond.methodLink RX12 344 yX12_pushE, Cond.instanceMethod yX12_pushE, Cond.selects RX12 yX12_pushE yX12_pushE, Cond.code yX12_pushE cX12_pushE 3 none, Cond.fieldLink RX12 86 "SoldHouseModel" "eWhat" "[I", Cond.fieldLink RX12 89 "SoldHouseModel" "eSign" "[I", Cond.methodLink RX12 347 yX12_unit, Cond.instanceMethod yX12_unit, Cond.selects RX12 yX12_unit yX12_unit, Cond.code yX12_unit cX12_unit 7 (some .boolean)]
def wsX12_house_r8 : List Cond := [Cond.methodLink RX12 302 yX12_isSignHere, Cond.instanceMethod yX12_isSignHere, Cond.selects RX12 yX12_isSignHere yX12_isSignHere, Cond.code yX12_isSignHere cX12_isSignHere 2 (some .boolean), Cond.methodLink RX12 353 yX12_wordHere, Cond.instanceMethod yX12_wordHere, Cond.selects RX12 yX12_wordHere yX12_wordHere, Cond.code yX12_wordHere cX12_wordHere 1 (some .int), Cond.methodLink RX12 356 yX12_emit, Cond.instanceMethod yX12_emit, Cond.selects RX12 yX12_emit yX12_emit, Cond.code yX12_emit cX12_emit 3 none, Cond.fieldLink RX12 80 "SoldHouseModel" "code" "[I", Cond.fieldLink RX12 83 "SoldHouseModel" "codeNumber" "[I", Cond.methodLink RX12 350 yX12_behindUnit, Cond.instanceMethod yX12_behindUnit, Cond.selects RX12 yX12_behindUnit yX12_behindUnit, Cond.code yX12_behindUnit cX12_behindUnit 2 (some .boolean), Cond.methodLink RX12 359 yX12_rankHere, Cond.instanceMethod yX12_rankHere, Cond.selects RX12 yX12_rankHere yX12_rankHere, Cond.code yX12_rankHere cX12_rankHere 1 (some .int), Cond.methodLink RX12 362 yX12_isCompared, Cond.instanceMethod yX12_isCompared]
def wsX12_house_r9 : List Cond := [Cond.selects RX12 yX12_isCompared yX12_isCompared, Cond.code yX12_isCompared cX12_isCompared 2 (some .boolean), Cond.methodLink RX12 170 yX12_startAnew, Cond.instanceMethod yX12_startAnew, Cond.selects RX12 yX12_startAnew yX12_startAnew, Cond.code yX12_startAnew cX12_startAnew 2 none, Cond.fieldLink RX12 95 "SoldHouseModel" "all" "[I", Cond.fieldLink RX12 409 "SoldHouseModel" "acts" "I", Cond.fieldLink RX12 412 "SoldHouseModel" "undone" "I", Cond.fieldLink RX12 415 "SoldHouseModel" "heards" "I", Cond.fieldLink RX12 418 "SoldHouseModel" "laid" "I", Cond.fieldLink RX12 164 "SoldHouseModel" "isBoxed" "[Z", Cond.methodLink RX12 388 yX12_many, Cond.instanceMethod yX12_many, Cond.selects RX12 yX12_many yX12_many, Cond.code yX12_many cX12_many 1 (some .int), Cond.methodLink RX12 406 yX12_layTable, Cond.instanceMethod yX12_layTable, Cond.selects RX12 yX12_layTable yX12_layTable, Cond.code yX12_layTable cX12_layTable 7 none, Cond.fieldLink RX12 98 "SoldHouseModel" "table" "[I", Cond.fieldLink RX12 101 "SoldHouseModel" "nearSide" "[I", Cond.methodLink RX12 378 yX12_places, Cond.instanceMethod yX12_places]
def wsX12_house_r10 : List Cond := [Cond.selects RX12 yX12_places yX12_places, Cond.code yX12_places cX12_places 1 (some .int), Cond.methodLink RX12 397 yX12_has, Cond.static yX12_has, Cond.code yX12_has cX12_has 2 (some .boolean), Cond.methodLink RX12 400 yX12_behind, Cond.instanceMethod yX12_behind, Cond.selects RX12 yX12_behind yX12_behind, Cond.code yX12_behind cX12_behind 5 (some .int), Cond.methodLink RX12 391 yX12_oneOf, Cond.instanceMethod yX12_oneOf, Cond.selects RX12 yX12_oneOf yX12_oneOf, Cond.code yX12_oneOf cX12_oneOf 2 (some .int), Cond.methodLink RX12 394 yX12_otherOf, Cond.instanceMethod yX12_otherOf, Cond.selects RX12 yX12_otherOf yX12_otherOf, Cond.code yX12_otherOf cX12_otherOf 2 (some .int), Cond.methodLink RX12 403 yX12_joined, Cond.instanceMethod yX12_joined, Cond.selects RX12 yX12_joined yX12_joined, Cond.code yX12_joined cX12_joined 7 (some .int)]
def wsX12_house : List Cond := .code yX12_house cX12_house 2 (some .int) :: ((wsX12_house_r1 ++ (wsX12_house_r2 ++ (wsX12_house_r3 ++ (wsX12_house_r4 ++ (wsX12_house_r5 ++ (wsX12_house_r6 ++ (wsX12_house_r7 ++ (wsX12_house_r8 ++ (wsX12_house_r9 ++ wsX12_house_r10))))))))) ++ wsX120)
theorem dX12_allWalks_0 : decode cX12_allWalks 0 = .ok (.iconst 0, 1) := by decide +kernel
theorem dX12_allWalks_1 : decode cX12_allWalks 1 = .ok (.istore_n 1, 1) := by decide +kernel
theorem dX12_allWalks_2 : decode cX12_allWalks 2 = .ok (.iconst 0, 1) := by decide +kernel
theorem dX12_allWalks_3 : decode cX12_allWalks 3 = .ok (.istore_n 2, 1) := by decide +kernel
theorem dX12_allWalks_4 : decode cX12_allWalks 4 = .ok (.iload_n 2, 1) := by decide +kernel
theorem dX12_allWalks_5 : decode cX12_allWalks 5 = .ok (.aload_n 0, 1) := by decide +kernel
theorem dX12_allWalks_6 : decode cX12_allWalks 6 = .ok (.invokevirtual 378, 3) := by decide +kernel
theorem dX12_allWalks_9 : decode cX12_allWalks 9 = .ok (.if_icmp .ge 18, 3) := by decide +kernel
theorem dX12_allWalks_12 : decode cX12_allWalks 12 = .ok (.iload_n 1, 1) := by decide +kernel
theorem dX12_allWalks_13 : decode cX12_allWalks 13 = .ok (.aload_n 0, 1) := by decide +kernel
theorem dX12_allWalks_14 : decode cX12_allWalks 14 = .ok (.iconst 0, 1) := by decide +kernel
theorem dX12_allWalks_15 : decode cX12_allWalks 15 = .ok (.iload_n 2, 1) := by decide +kernel
theorem dX12_allWalks_16 : decode cX12_allWalks 16 = .ok (.invokevirtual 519, 3) := by decide +kernel
theorem dX12_allWalks_19 : decode cX12_allWalks 19 = .ok (.iadd, 1) := by decide +kernel
theorem dX12_allWalks_20 : decode cX12_allWalks 20 = .ok (.istore_n 1, 1) := by decide +kernel
theorem dX12_allWalks_21 : decode cX12_allWalks 21 = .ok (.iinc 2 1, 3) := by decide +kernel
theorem dX12_allWalks_24 : decode cX12_allWalks 24 = .ok (.goto (-20), 3) := by decide +kernel
theorem dX12_allWalks_27 : decode cX12_allWalks 27 = .ok (.iload_n 1, 1) := by decide +kernel
theorem dX12_allWalks_28 : decode cX12_allWalks 28 = .ok (.ireturn, 1) := by decide +kernel
theorem dX12_walks_0 : decode cX12_walks 0 = .ok (.aload_n 0, 1) := by decide +kernel
theorem dX12_walks_1 : decode cX12_walks 1 = .ok (.iload_n 1, 1) := by decide +kernel
theorem dX12_walks_2 : decode cX12_walks 2 = .ok (.invokevirtual 522, 3) := by decide +kernel
theorem dX12_walks_5 : decode cX12_walks 5 = .ok (.aload_n 0, 1) := by decide +kernel
theorem dX12_walks_6 : decode cX12_walks 6 = .ok (.invokevirtual 525, 3) := by decide +kernel
theorem dX12_walks_9 : decode cX12_walks 9 = .ok (.ireturn, 1) := by decide +kernel
theorem dX12_certain_0 : decode cX12_certain 0 = .ok (.iload_n 1, 1) := by decide +kernel
theorem dX12_certain_1 : decode cX12_certain 1 = .ok (.iconst 0, 1) := by decide +kernel
theorem dX12_certain_2 : decode cX12_certain 2 = .ok (.bipush 7, 2) := by decide +kernel
theorem dX12_certain_4 : decode cX12_certain 4 = .ok (.invokestatic 381, 3) := by decide +kernel
theorem dX12_certain_7 : decode cX12_certain 7 = .ok (.ifCond .ne 5, 3) := by decide +kernel
theorem dX12_certain_10 : decode cX12_certain 10 = .ok (.iconst (-1), 1) := by decide +kernel
theorem dX12_certain_11 : decode cX12_certain 11 = .ok (.ireturn, 1) := by decide +kernel
theorem dX12_certain_12 : decode cX12_certain 12 = .ok (.aload_n 0, 1) := by decide +kernel
theorem dX12_certain_13 : decode cX12_certain 13 = .ok (.iload_n 2, 1) := by decide +kernel
theorem dX12_certain_14 : decode cX12_certain 14 = .ok (.invokevirtual 522, 3) := by decide +kernel
theorem dX12_certain_17 : decode cX12_certain 17 = .ok (.aload_n 0, 1) := by decide +kernel
theorem dX12_certain_18 : decode cX12_certain 18 = .ok (.invokevirtual 525, 3) := by decide +kernel
theorem dX12_certain_21 : decode cX12_certain 21 = .ok (.istore_n 3, 1) := by decide +kernel
theorem dX12_certain_22 : decode cX12_certain 22 = .ok (.iload_n 3, 1) := by decide +kernel
theorem dX12_certain_23 : decode cX12_certain 23 = .ok (.ifCond .ne 5, 3) := by decide +kernel
theorem dX12_certain_26 : decode cX12_certain 26 = .ok (.iconst (-1), 1) := by decide +kernel
theorem dX12_certain_27 : decode cX12_certain 27 = .ok (.ireturn, 1) := by decide +kernel
theorem dX12_certain_28 : decode cX12_certain 28 = .ok (.iconst 0, 1) := by decide +kernel
theorem dX12_certain_29 : decode cX12_certain 29 = .ok (.istore 4, 2) := by decide +kernel
theorem dX12_certain_31 : decode cX12_certain 31 = .ok (.iload 4, 2) := by decide +kernel
theorem dX12_certain_33 : decode cX12_certain 33 = .ok (.aload_n 0, 1) := by decide +kernel
theorem dX12_certain_34 : decode cX12_certain 34 = .ok (.invokevirtual 378, 3) := by decide +kernel
theorem dX12_certain_37 : decode cX12_certain 37 = .ok (.if_icmp .ge 23, 3) := by decide +kernel
theorem dX12_certain_40 : decode cX12_certain 40 = .ok (.aload_n 0, 1) := by decide +kernel
theorem dX12_certain_41 : decode cX12_certain 41 = .ok (.iload_n 1, 1) := by decide +kernel
theorem dX12_certain_42 : decode cX12_certain 42 = .ok (.iload 4, 2) := by decide +kernel
theorem dX12_certain_44 : decode cX12_certain 44 = .ok (.invokevirtual 519, 3) := by decide +kernel
theorem dX12_certain_47 : decode cX12_certain 47 = .ok (.iload_n 3, 1) := by decide +kernel
theorem dX12_certain_48 : decode cX12_certain 48 = .ok (.if_icmp .ne 6, 3) := by decide +kernel
theorem dX12_certain_51 : decode cX12_certain 51 = .ok (.iload 4, 2) := by decide +kernel
theorem dX12_certain_53 : decode cX12_certain 53 = .ok (.ireturn, 1) := by decide +kernel
theorem dX12_certain_54 : decode cX12_certain 54 = .ok (.iinc 4 1, 3) := by decide +kernel
theorem dX12_certain_57 : decode cX12_certain 57 = .ok (.goto (-26), 3) := by decide +kernel
theorem dX12_certain_60 : decode cX12_certain 60 = .ok (.bipush (-2), 2) := by decide +kernel
theorem dX12_certain_62 : decode cX12_certain 62 = .ok (.ireturn, 1) := by decide +kernel
theorem dX12_ask_0 : decode cX12_ask 0 = .ok (.iload_n 1, 1) := by decide +kernel
theorem dX12_ask_1 : decode cX12_ask 1 = .ok (.iconst 0, 1) := by decide +kernel
theorem dX12_ask_2 : decode cX12_ask 2 = .ok (.iconst 1, 1) := by decide +kernel
theorem dX12_ask_3 : decode cX12_ask 3 = .ok (.invokestatic 381, 3) := by decide +kernel
theorem dX12_ask_6 : decode cX12_ask 6 = .ok (.ifCond .ne 5, 3) := by decide +kernel
theorem dX12_ask_9 : decode cX12_ask 9 = .ok (.iconst (-1), 1) := by decide +kernel
theorem dX12_ask_10 : decode cX12_ask 10 = .ok (.ireturn, 1) := by decide +kernel
theorem dX12_ask_11 : decode cX12_ask 11 = .ok (.aload_n 0, 1) := by decide +kernel
theorem dX12_ask_12 : decode cX12_ask 12 = .ok (.iload_n 2, 1) := by decide +kernel
theorem dX12_ask_13 : decode cX12_ask 13 = .ok (.invokevirtual 522, 3) := by decide +kernel
theorem dX12_ask_16 : decode cX12_ask 16 = .ok (.aload_n 0, 1) := by decide +kernel
theorem dX12_ask_17 : decode cX12_ask 17 = .ok (.invokevirtual 525, 3) := by decide +kernel
theorem dX12_ask_20 : decode cX12_ask 20 = .ok (.ifCond .ne 5, 3) := by decide +kernel
theorem dX12_ask_23 : decode cX12_ask 23 = .ok (.iconst (-1), 1) := by decide +kernel
theorem dX12_ask_24 : decode cX12_ask 24 = .ok (.ireturn, 1) := by decide +kernel
theorem dX12_ask_25 : decode cX12_ask 25 = .ok (.iconst (-1), 1) := by decide +kernel
theorem dX12_ask_26 : decode cX12_ask 26 = .ok (.istore_n 3, 1) := by decide +kernel
theorem dX12_ask_27 : decode cX12_ask 27 = .ok (.iconst 0, 1) := by decide +kernel
theorem dX12_ask_28 : decode cX12_ask 28 = .ok (.istore 4, 2) := by decide +kernel
theorem dX12_ask_30 : decode cX12_ask 30 = .ok (.iconst 0, 1) := by decide +kernel
theorem dX12_ask_31 : decode cX12_ask 31 = .ok (.istore 5, 2) := by decide +kernel
theorem dX12_ask_33 : decode cX12_ask 33 = .ok (.iload 5, 2) := by decide +kernel
theorem dX12_ask_35 : decode cX12_ask 35 = .ok (.bipush 8, 2) := by decide +kernel
theorem dX12_ask_37 : decode cX12_ask 37 = .ok (.if_icmp .ge 74, 3) := by decide +kernel
theorem dX12_ask_40 : decode cX12_ask 40 = .ok (.iconst 0, 1) := by decide +kernel
theorem dX12_ask_41 : decode cX12_ask 41 = .ok (.istore 6, 2) := by decide +kernel
theorem dX12_ask_43 : decode cX12_ask 43 = .ok (.iconst 0, 1) := by decide +kernel
theorem dX12_ask_44 : decode cX12_ask 44 = .ok (.istore 7, 2) := by decide +kernel
theorem dX12_ask_46 : decode cX12_ask 46 = .ok (.iload 7, 2) := by decide +kernel
theorem dX12_ask_48 : decode cX12_ask 48 = .ok (.aload_n 0, 1) := by decide +kernel
theorem dX12_ask_49 : decode cX12_ask 49 = .ok (.invokevirtual 378, 3) := by decide +kernel
theorem dX12_ask_52 : decode cX12_ask 52 = .ok (.if_icmp .ge 32, 3) := by decide +kernel
theorem dX12_ask_55 : decode cX12_ask 55 = .ok (.aload_n 0, 1) := by decide +kernel
theorem dX12_ask_56 : decode cX12_ask 56 = .ok (.iload 5, 2) := by decide +kernel
theorem dX12_ask_58 : decode cX12_ask 58 = .ok (.iload 7, 2) := by decide +kernel
theorem dX12_ask_60 : decode cX12_ask 60 = .ok (.invokevirtual 519, 3) := by decide +kernel
theorem dX12_ask_63 : decode cX12_ask 63 = .ok (.iload 6, 2) := by decide +kernel
theorem dX12_ask_65 : decode cX12_ask 65 = .ok (.if_icmp .le 13, 3) := by decide +kernel
theorem dX12_ask_68 : decode cX12_ask 68 = .ok (.aload_n 0, 1) := by decide +kernel
theorem dX12_ask_69 : decode cX12_ask 69 = .ok (.iload 5, 2) := by decide +kernel
theorem dX12_ask_71 : decode cX12_ask 71 = .ok (.iload 7, 2) := by decide +kernel
theorem dX12_ask_73 : decode cX12_ask 73 = .ok (.invokevirtual 519, 3) := by decide +kernel
theorem dX12_ask_76 : decode cX12_ask 76 = .ok (.istore 6, 2) := by decide +kernel
theorem dX12_ask_78 : decode cX12_ask 78 = .ok (.iinc 7 1, 3) := by decide +kernel
theorem dX12_ask_81 : decode cX12_ask 81 = .ok (.goto (-35), 3) := by decide +kernel
theorem dX12_ask_84 : decode cX12_ask 84 = .ok (.iload_n 3, 1) := by decide +kernel
theorem dX12_ask_85 : decode cX12_ask 85 = .ok (.ifCond .lt 13, 3) := by decide +kernel
theorem dX12_ask_88 : decode cX12_ask 88 = .ok (.iload 6, 2) := by decide +kernel
theorem dX12_ask_90 : decode cX12_ask 90 = .ok (.iload 4, 2) := by decide +kernel
theorem dX12_ask_92 : decode cX12_ask 92 = .ok (.if_icmp .lt 6, 3) := by decide +kernel
theorem dX12_ask_95 : decode cX12_ask 95 = .ok (.goto 10, 3) := by decide +kernel
theorem dX12_ask_98 : decode cX12_ask 98 = .ok (.iload 5, 2) := by decide +kernel
theorem dX12_ask_100 : decode cX12_ask 100 = .ok (.istore_n 3, 1) := by decide +kernel
theorem dX12_ask_101 : decode cX12_ask 101 = .ok (.iload 6, 2) := by decide +kernel
theorem dX12_ask_103 : decode cX12_ask 103 = .ok (.istore 4, 2) := by decide +kernel
theorem dX12_ask_105 : decode cX12_ask 105 = .ok (.iinc 5 1, 3) := by decide +kernel
theorem dX12_ask_108 : decode cX12_ask 108 = .ok (.goto (-75), 3) := by decide +kernel
theorem dX12_ask_111 : decode cX12_ask 111 = .ok (.iload_n 1, 1) := by decide +kernel
theorem dX12_ask_112 : decode cX12_ask 112 = .ok (.ifCond .ne 7, 3) := by decide +kernel
theorem dX12_ask_115 : decode cX12_ask 115 = .ok (.iload_n 3, 1) := by decide +kernel
theorem dX12_ask_116 : decode cX12_ask 116 = .ok (.goto 5, 3) := by decide +kernel
theorem dX12_ask_119 : decode cX12_ask 119 = .ok (.iload 4, 2) := by decide +kernel
theorem dX12_ask_121 : decode cX12_ask 121 = .ok (.ireturn, 1) := by decide +kernel
theorem dX12_layTours_0 : decode cX12_layTours 0 = .ok (.iconst 0, 1) := by decide +kernel
theorem dX12_layTours_1 : decode cX12_layTours 1 = .ok (.istore_n 2, 1) := by decide +kernel
theorem dX12_layTours_2 : decode cX12_layTours 2 = .ok (.iload_n 2, 1) := by decide +kernel
theorem dX12_layTours_3 : decode cX12_layTours 3 = .ok (.iload_n 1, 1) := by decide +kernel
theorem dX12_layTours_4 : decode cX12_layTours 4 = .ok (.if_icmp .gt 123, 3) := by decide +kernel
theorem dX12_layTours_7 : decode cX12_layTours 7 = .ok (.iload_n 2, 1) := by decide +kernel
theorem dX12_layTours_8 : decode cX12_layTours 8 = .ok (.iload_n 1, 1) := by decide +kernel
theorem dX12_layTours_9 : decode cX12_layTours 9 = .ok (.iconst (-1), 1) := by decide +kernel
theorem dX12_layTours_10 : decode cX12_layTours 10 = .ok (.ixor, 1) := by decide +kernel
theorem dX12_layTours_11 : decode cX12_layTours 11 = .ok (.iand, 1) := by decide +kernel
theorem dX12_layTours_12 : decode cX12_layTours 12 = .ok (.ifCond .eq 6, 3) := by decide +kernel
theorem dX12_layTours_15 : decode cX12_layTours 15 = .ok (.goto 106, 3) := by decide +kernel
theorem dX12_layTours_18 : decode cX12_layTours 18 = .ok (.iconst 0, 1) := by decide +kernel
theorem dX12_layTours_19 : decode cX12_layTours 19 = .ok (.istore_n 3, 1) := by decide +kernel
theorem dX12_layTours_20 : decode cX12_layTours 20 = .ok (.iload_n 3, 1) := by decide +kernel
theorem dX12_layTours_21 : decode cX12_layTours 21 = .ok (.aload_n 0, 1) := by decide +kernel
theorem dX12_layTours_22 : decode cX12_layTours 22 = .ok (.invokevirtual 378, 3) := by decide +kernel
theorem dX12_layTours_25 : decode cX12_layTours 25 = .ok (.if_icmp .ge 96, 3) := by decide +kernel
theorem dX12_layTours_28 : decode cX12_layTours 28 = .ok (.iload_n 2, 1) := by decide +kernel
theorem dX12_layTours_29 : decode cX12_layTours 29 = .ok (.ifCond .ne 7, 3) := by decide +kernel
theorem dX12_layTours_32 : decode cX12_layTours 32 = .ok (.iconst 0, 1) := by decide +kernel
theorem dX12_layTours_33 : decode cX12_layTours 33 = .ok (.goto 6, 3) := by decide +kernel
theorem dX12_layTours_36 : decode cX12_layTours 36 = .ok (.sipush 10000, 3) := by decide +kernel
theorem dX12_layTours_39 : decode cX12_layTours 39 = .ok (.istore 4, 2) := by decide +kernel
theorem dX12_layTours_41 : decode cX12_layTours 41 = .ok (.iconst 0, 1) := by decide +kernel
theorem dX12_layTours_42 : decode cX12_layTours 42 = .ok (.istore 5, 2) := by decide +kernel
theorem dX12_layTours_44 : decode cX12_layTours 44 = .ok (.iload 5, 2) := by decide +kernel
theorem dX12_layTours_46 : decode cX12_layTours 46 = .ok (.aload_n 0, 1) := by decide +kernel
theorem dX12_layTours_47 : decode cX12_layTours 47 = .ok (.invokevirtual 378, 3) := by decide +kernel
theorem dX12_layTours_50 : decode cX12_layTours 50 = .ok (.if_icmp .ge 52, 3) := by decide +kernel
theorem dX12_layTours_53 : decode cX12_layTours 53 = .ok (.iload_n 2, 1) := by decide +kernel
theorem dX12_layTours_54 : decode cX12_layTours 54 = .ok (.iload 5, 2) := by decide +kernel
theorem dX12_layTours_56 : decode cX12_layTours 56 = .ok (.invokestatic 397, 3) := by decide +kernel
theorem dX12_layTours_59 : decode cX12_layTours 59 = .ok (.ifCond .eq 37, 3) := by decide +kernel
theorem dX12_layTours_62 : decode cX12_layTours 62 = .ok (.iload 4, 2) := by decide +kernel
theorem dX12_layTours_64 : decode cX12_layTours 64 = .ok (.aload_n 0, 1) := by decide +kernel
theorem dX12_layTours_65 : decode cX12_layTours 65 = .ok (.iload_n 3, 1) := by decide +kernel
theorem dX12_layTours_66 : decode cX12_layTours 66 = .ok (.iload 5, 2) := by decide +kernel
theorem dX12_layTours_68 : decode cX12_layTours 68 = .ok (.invokevirtual 421, 3) := by decide +kernel
theorem dX12_layTours_71 : decode cX12_layTours 71 = .ok (.aload_n 0, 1) := by decide +kernel
theorem dX12_layTours_72 : decode cX12_layTours 72 = .ok (.getfield 128, 3) := by decide +kernel
theorem dX12_layTours_75 : decode cX12_layTours 75 = .ok (.bipush 8, 2) := by decide +kernel
theorem dX12_layTours_77 : decode cX12_layTours 77 = .ok (.iload_n 2, 1) := by decide +kernel
theorem dX12_layTours_78 : decode cX12_layTours 78 = .ok (.iconst 1, 1) := by decide +kernel
theorem dX12_layTours_79 : decode cX12_layTours 79 = .ok (.iload 5, 2) := by decide +kernel
theorem dX12_layTours_81 : decode cX12_layTours 81 = .ok (.ishl, 1) := by decide +kernel
theorem dX12_layTours_82 : decode cX12_layTours 82 = .ok (.iconst (-1), 1) := by decide +kernel
theorem dX12_layTours_83 : decode cX12_layTours 83 = .ok (.ixor, 1) := by decide +kernel
theorem dX12_layTours_84 : decode cX12_layTours 84 = .ok (.iand, 1) := by decide +kernel
theorem dX12_layTours_85 : decode cX12_layTours 85 = .ok (.imul, 1) := by decide +kernel
theorem dX12_layTours_86 : decode cX12_layTours 86 = .ok (.iload 5, 2) := by decide +kernel
theorem dX12_layTours_88 : decode cX12_layTours 88 = .ok (.iadd, 1) := by decide +kernel
theorem dX12_layTours_89 : decode cX12_layTours 89 = .ok (.iaload, 1) := by decide +kernel
theorem dX12_layTours_90 : decode cX12_layTours 90 = .ok (.iadd, 1) := by decide +kernel
theorem dX12_layTours_91 : decode cX12_layTours 91 = .ok (.invokestatic 424, 3) := by decide +kernel
theorem dX12_layTours_94 : decode cX12_layTours 94 = .ok (.istore 4, 2) := by decide +kernel
theorem dX12_layTours_96 : decode cX12_layTours 96 = .ok (.iinc 5 1, 3) := by decide +kernel
theorem dX12_layTours_99 : decode cX12_layTours 99 = .ok (.goto (-55), 3) := by decide +kernel
theorem dX12_layTours_102 : decode cX12_layTours 102 = .ok (.aload_n 0, 1) := by decide +kernel
theorem dX12_layTours_103 : decode cX12_layTours 103 = .ok (.getfield 128, 3) := by decide +kernel
theorem dX12_layTours_106 : decode cX12_layTours 106 = .ok (.bipush 8, 2) := by decide +kernel
theorem dX12_layTours_108 : decode cX12_layTours 108 = .ok (.iload_n 2, 1) := by decide +kernel
theorem dX12_layTours_109 : decode cX12_layTours 109 = .ok (.imul, 1) := by decide +kernel
theorem dX12_layTours_110 : decode cX12_layTours 110 = .ok (.iload_n 3, 1) := by decide +kernel
theorem dX12_layTours_111 : decode cX12_layTours 111 = .ok (.iadd, 1) := by decide +kernel
theorem dX12_layTours_112 : decode cX12_layTours 112 = .ok (.iload 4, 2) := by decide +kernel
theorem dX12_layTours_114 : decode cX12_layTours 114 = .ok (.iastore, 1) := by decide +kernel
theorem dX12_layTours_115 : decode cX12_layTours 115 = .ok (.iinc 3 1, 3) := by decide +kernel
theorem dX12_layTours_118 : decode cX12_layTours 118 = .ok (.goto (-98), 3) := by decide +kernel
theorem dX12_layTours_121 : decode cX12_layTours 121 = .ok (.iinc 2 1, 3) := by decide +kernel
theorem dX12_layTours_124 : decode cX12_layTours 124 = .ok (.goto (-122), 3) := by decide +kernel
theorem dX12_layTours_127 : decode cX12_layTours 127 = .ok (.return_, 1) := by decide +kernel
theorem dX12_tour_0 : decode cX12_tour 0 = .ok (.aload_n 0, 1) := by decide +kernel
theorem dX12_tour_1 : decode cX12_tour 1 = .ok (.iconst 0, 1) := by decide +kernel
theorem dX12_tour_2 : decode cX12_tour 2 = .ok (.putfield 418, 3) := by decide +kernel
theorem dX12_tour_5 : decode cX12_tour 5 = .ok (.aload_n 0, 1) := by decide +kernel
theorem dX12_tour_6 : decode cX12_tour 6 = .ok (.iload_n 1, 1) := by decide +kernel
theorem dX12_tour_7 : decode cX12_tour 7 = .ok (.invokevirtual 385, 3) := by decide +kernel
theorem dX12_tour_10 : decode cX12_tour 10 = .ok (.ifCond .eq 11, 3) := by decide +kernel
theorem dX12_tour_13 : decode cX12_tour 13 = .ok (.aload_n 0, 1) := by decide +kernel
theorem dX12_tour_14 : decode cX12_tour 14 = .ok (.iload_n 2, 1) := by decide +kernel
theorem dX12_tour_15 : decode cX12_tour 15 = .ok (.invokevirtual 472, 3) := by decide +kernel
theorem dX12_tour_18 : decode cX12_tour 18 = .ok (.ifCond .ne 5, 3) := by decide +kernel
theorem dX12_tour_21 : decode cX12_tour 21 = .ok (.iconst (-1), 1) := by decide +kernel
theorem dX12_tour_22 : decode cX12_tour 22 = .ok (.ireturn, 1) := by decide +kernel
theorem dX12_tour_23 : decode cX12_tour 23 = .ok (.aload_n 0, 1) := by decide +kernel
theorem dX12_tour_24 : decode cX12_tour 24 = .ok (.iload_n 2, 1) := by decide +kernel
theorem dX12_tour_25 : decode cX12_tour 25 = .ok (.invokevirtual 481, 3) := by decide +kernel
theorem dX12_tour_28 : decode cX12_tour 28 = .ok (.aload_n 0, 1) := by decide +kernel
theorem dX12_tour_29 : decode cX12_tour 29 = .ok (.getfield 128, 3) := by decide +kernel
theorem dX12_tour_32 : decode cX12_tour 32 = .ok (.bipush 8, 2) := by decide +kernel
theorem dX12_tour_34 : decode cX12_tour 34 = .ok (.iload_n 2, 1) := by decide +kernel
theorem dX12_tour_35 : decode cX12_tour 35 = .ok (.imul, 1) := by decide +kernel
theorem dX12_tour_36 : decode cX12_tour 36 = .ok (.iload_n 1, 1) := by decide +kernel
theorem dX12_tour_37 : decode cX12_tour 37 = .ok (.iadd, 1) := by decide +kernel
theorem dX12_tour_38 : decode cX12_tour 38 = .ok (.iaload, 1) := by decide +kernel
theorem dX12_tour_39 : decode cX12_tour 39 = .ok (.istore_n 3, 1) := by decide +kernel
theorem dX12_tour_40 : decode cX12_tour 40 = .ok (.iload_n 3, 1) := by decide +kernel
theorem dX12_tour_41 : decode cX12_tour 41 = .ok (.sipush 10000, 3) := by decide +kernel
theorem dX12_tour_44 : decode cX12_tour 44 = .ok (.if_icmp .lt 5, 3) := by decide +kernel
theorem dX12_tour_47 : decode cX12_tour 47 = .ok (.iconst (-1), 1) := by decide +kernel
theorem dX12_tour_48 : decode cX12_tour 48 = .ok (.ireturn, 1) := by decide +kernel
theorem dX12_tour_49 : decode cX12_tour 49 = .ok (.iload_n 2, 1) := by decide +kernel
theorem dX12_tour_50 : decode cX12_tour 50 = .ok (.istore 4, 2) := by decide +kernel
theorem dX12_tour_52 : decode cX12_tour 52 = .ok (.iload_n 1, 1) := by decide +kernel
theorem dX12_tour_53 : decode cX12_tour 53 = .ok (.istore 5, 2) := by decide +kernel
theorem dX12_tour_55 : decode cX12_tour 55 = .ok (.iload 4, 2) := by decide +kernel
theorem dX12_tour_57 : decode cX12_tour 57 = .ok (.ifCond .eq 106, 3) := by decide +kernel
theorem dX12_tour_60 : decode cX12_tour 60 = .ok (.iconst 0, 1) := by decide +kernel
theorem dX12_tour_61 : decode cX12_tour 61 = .ok (.istore 6, 2) := by decide +kernel
theorem dX12_tour_63 : decode cX12_tour 63 = .ok (.iload 4, 2) := by decide +kernel
theorem dX12_tour_65 : decode cX12_tour 65 = .ok (.iload 6, 2) := by decide +kernel
theorem dX12_tour_67 : decode cX12_tour 67 = .ok (.invokestatic 397, 3) := by decide +kernel
theorem dX12_tour_70 : decode cX12_tour 70 = .ok (.ifCond .eq 48, 3) := by decide +kernel
theorem dX12_tour_73 : decode cX12_tour 73 = .ok (.aload_n 0, 1) := by decide +kernel
theorem dX12_tour_74 : decode cX12_tour 74 = .ok (.iload 5, 2) := by decide +kernel
theorem dX12_tour_76 : decode cX12_tour 76 = .ok (.iload 6, 2) := by decide +kernel
theorem dX12_tour_78 : decode cX12_tour 78 = .ok (.invokevirtual 421, 3) := by decide +kernel
theorem dX12_tour_81 : decode cX12_tour 81 = .ok (.aload_n 0, 1) := by decide +kernel
theorem dX12_tour_82 : decode cX12_tour 82 = .ok (.getfield 128, 3) := by decide +kernel
theorem dX12_tour_85 : decode cX12_tour 85 = .ok (.bipush 8, 2) := by decide +kernel
theorem dX12_tour_87 : decode cX12_tour 87 = .ok (.iload 4, 2) := by decide +kernel
theorem dX12_tour_89 : decode cX12_tour 89 = .ok (.iconst 1, 1) := by decide +kernel
theorem dX12_tour_90 : decode cX12_tour 90 = .ok (.iload 6, 2) := by decide +kernel
theorem dX12_tour_92 : decode cX12_tour 92 = .ok (.ishl, 1) := by decide +kernel
theorem dX12_tour_93 : decode cX12_tour 93 = .ok (.iconst (-1), 1) := by decide +kernel
theorem dX12_tour_94 : decode cX12_tour 94 = .ok (.ixor, 1) := by decide +kernel
theorem dX12_tour_95 : decode cX12_tour 95 = .ok (.iand, 1) := by decide +kernel
theorem dX12_tour_96 : decode cX12_tour 96 = .ok (.imul, 1) := by decide +kernel
theorem dX12_tour_97 : decode cX12_tour 97 = .ok (.iload 6, 2) := by decide +kernel
theorem dX12_tour_99 : decode cX12_tour 99 = .ok (.iadd, 1) := by decide +kernel
theorem dX12_tour_100 : decode cX12_tour 100 = .ok (.iaload, 1) := by decide +kernel
theorem dX12_tour_101 : decode cX12_tour 101 = .ok (.iadd, 1) := by decide +kernel
theorem dX12_tour_102 : decode cX12_tour 102 = .ok (.aload_n 0, 1) := by decide +kernel
theorem dX12_tour_103 : decode cX12_tour 103 = .ok (.getfield 128, 3) := by decide +kernel
theorem dX12_tour_106 : decode cX12_tour 106 = .ok (.bipush 8, 2) := by decide +kernel
theorem dX12_tour_108 : decode cX12_tour 108 = .ok (.iload 4, 2) := by decide +kernel
theorem dX12_tour_110 : decode cX12_tour 110 = .ok (.imul, 1) := by decide +kernel
theorem dX12_tour_111 : decode cX12_tour 111 = .ok (.iload 5, 2) := by decide +kernel
theorem dX12_tour_113 : decode cX12_tour 113 = .ok (.iadd, 1) := by decide +kernel
theorem dX12_tour_114 : decode cX12_tour 114 = .ok (.iaload, 1) := by decide +kernel
theorem dX12_tour_115 : decode cX12_tour 115 = .ok (.if_icmp .eq 9, 3) := by decide +kernel
theorem dX12_tour_118 : decode cX12_tour 118 = .ok (.iinc 6 1, 3) := by decide +kernel
theorem dX12_tour_121 : decode cX12_tour 121 = .ok (.goto (-58), 3) := by decide +kernel
theorem dX12_tour_124 : decode cX12_tour 124 = .ok (.iload 4, 2) := by decide +kernel
theorem dX12_tour_126 : decode cX12_tour 126 = .ok (.iconst 1, 1) := by decide +kernel
theorem dX12_tour_127 : decode cX12_tour 127 = .ok (.iload 6, 2) := by decide +kernel
theorem dX12_tour_129 : decode cX12_tour 129 = .ok (.ishl, 1) := by decide +kernel
theorem dX12_tour_130 : decode cX12_tour 130 = .ok (.iconst (-1), 1) := by decide +kernel
theorem dX12_tour_131 : decode cX12_tour 131 = .ok (.ixor, 1) := by decide +kernel
theorem dX12_tour_132 : decode cX12_tour 132 = .ok (.iand, 1) := by decide +kernel
theorem dX12_tour_133 : decode cX12_tour 133 = .ok (.istore 4, 2) := by decide +kernel
theorem dX12_tour_135 : decode cX12_tour 135 = .ok (.iload 6, 2) := by decide +kernel
theorem dX12_tour_137 : decode cX12_tour 137 = .ok (.istore 5, 2) := by decide +kernel
theorem dX12_tour_139 : decode cX12_tour 139 = .ok (.aload_n 0, 1) := by decide +kernel
theorem dX12_tour_140 : decode cX12_tour 140 = .ok (.getfield 113, 3) := by decide +kernel
theorem dX12_tour_143 : decode cX12_tour 143 = .ok (.aload_n 0, 1) := by decide +kernel
theorem dX12_tour_144 : decode cX12_tour 144 = .ok (.getfield 418, 3) := by decide +kernel
theorem dX12_tour_147 : decode cX12_tour 147 = .ok (.iload 6, 2) := by decide +kernel
theorem dX12_tour_149 : decode cX12_tour 149 = .ok (.iastore, 1) := by decide +kernel
theorem dX12_tour_150 : decode cX12_tour 150 = .ok (.aload_n 0, 1) := by decide +kernel
theorem dX12_tour_151 : decode cX12_tour 151 = .ok (.dup, 1) := by decide +kernel
theorem dX12_tour_152 : decode cX12_tour 152 = .ok (.getfield 418, 3) := by decide +kernel
theorem dX12_tour_155 : decode cX12_tour 155 = .ok (.iconst 1, 1) := by decide +kernel
theorem dX12_tour_156 : decode cX12_tour 156 = .ok (.iadd, 1) := by decide +kernel
theorem dX12_tour_157 : decode cX12_tour 157 = .ok (.putfield 418, 3) := by decide +kernel
theorem dX12_tour_160 : decode cX12_tour 160 = .ok (.goto (-105), 3) := by decide +kernel
theorem dX12_tour_163 : decode cX12_tour 163 = .ok (.iload_n 3, 1) := by decide +kernel
theorem dX12_tour_164 : decode cX12_tour 164 = .ok (.ireturn, 1) := by decide +kernel
theorem dX12_house_0 : decode cX12_house 0 = .ok (.aload_n 0, 1) := by decide +kernel
theorem dX12_house_1 : decode cX12_house 1 = .ok (.iconst 0, 1) := by decide +kernel
theorem dX12_house_2 : decode cX12_house 2 = .ok (.putfield 176, 3) := by decide +kernel
theorem dX12_house_5 : decode cX12_house 5 = .ok (.aload_n 0, 1) := by decide +kernel
theorem dX12_house_6 : decode cX12_house 6 = .ok (.iconst (-1), 1) := by decide +kernel
theorem dX12_house_7 : decode cX12_house 7 = .ok (.putfield 16, 3) := by decide +kernel
theorem dX12_house_10 : decode cX12_house 10 = .ok (.aload_n 0, 1) := by decide +kernel
theorem dX12_house_11 : decode cX12_house 11 = .ok (.aload_n 0, 1) := by decide +kernel
theorem dX12_house_12 : decode cX12_house 12 = .ok (.getfield 277, 3) := by decide +kernel
theorem dX12_house_15 : decode cX12_house 15 = .ok (.putfield 173, 3) := by decide +kernel
theorem dX12_house_18 : decode cX12_house 18 = .ok (.iconst 0, 1) := by decide +kernel
theorem dX12_house_19 : decode cX12_house 19 = .ok (.istore_n 1, 1) := by decide +kernel
theorem dX12_house_20 : decode cX12_house 20 = .ok (.iload_n 1, 1) := by decide +kernel
theorem dX12_house_21 : decode cX12_house 21 = .ok (.aload_n 0, 1) := by decide +kernel
theorem dX12_house_22 : decode cX12_house 22 = .ok (.getfield 173, 3) := by decide +kernel
theorem dX12_house_25 : decode cX12_house 25 = .ok (.if_icmp .ge 21, 3) := by decide +kernel
theorem dX12_house_28 : decode cX12_house 28 = .ok (.aload_n 0, 1) := by decide +kernel
theorem dX12_house_29 : decode cX12_house 29 = .ok (.getfield 13, 3) := by decide +kernel
theorem dX12_house_32 : decode cX12_house 32 = .ok (.iload_n 1, 1) := by decide +kernel
theorem dX12_house_33 : decode cX12_house 33 = .ok (.aload_n 0, 1) := by decide +kernel
theorem dX12_house_34 : decode cX12_house 34 = .ok (.getfield 7, 3) := by decide +kernel
theorem dX12_house_37 : decode cX12_house 37 = .ok (.iload_n 1, 1) := by decide +kernel
theorem dX12_house_38 : decode cX12_house 38 = .ok (.baload, 1) := by decide +kernel
theorem dX12_house_39 : decode cX12_house 39 = .ok (.bastore, 1) := by decide +kernel
theorem dX12_house_40 : decode cX12_house 40 = .ok (.iinc 1 1, 3) := by decide +kernel
theorem dX12_house_43 : decode cX12_house 43 = .ok (.goto (-23), 3) := by decide +kernel
theorem dX12_house_46 : decode cX12_house 46 = .ok (.aload_n 0, 1) := by decide +kernel
theorem dX12_house_47 : decode cX12_house 47 = .ok (.iconst 0, 1) := by decide +kernel
theorem dX12_house_48 : decode cX12_house 48 = .ok (.putfield 277, 3) := by decide +kernel
theorem dX12_house_51 : decode cX12_house 51 = .ok (.aload_n 0, 1) := by decide +kernel
theorem dX12_house_52 : decode cX12_house 52 = .ok (.iconst 0, 1) := by decide +kernel
theorem dX12_house_53 : decode cX12_house 53 = .ok (.putfield 213, 3) := by decide +kernel
theorem dX12_house_56 : decode cX12_house 56 = .ok (.aload_n 0, 1) := by decide +kernel
theorem dX12_house_57 : decode cX12_house 57 = .ok (.iconst 1, 1) := by decide +kernel
theorem dX12_house_58 : decode cX12_house 58 = .ok (.aload_n 0, 1) := by decide +kernel
theorem dX12_house_59 : decode cX12_house 59 = .ok (.getfield 280, 3) := by decide +kernel
theorem dX12_house_62 : decode cX12_house 62 = .ok (.isub, 1) := by decide +kernel
theorem dX12_house_63 : decode cX12_house 63 = .ok (.putfield 271, 3) := by decide +kernel
theorem dX12_house_66 : decode cX12_house 66 = .ok (.aload_n 0, 1) := by decide +kernel
theorem dX12_house_67 : decode cX12_house 67 = .ok (.invokevirtual 167, 3) := by decide +kernel
theorem dX12_house_70 : decode cX12_house 70 = .ok (.aload_n 0, 1) := by decide +kernel
theorem dX12_house_71 : decode cX12_house 71 = .ok (.invokevirtual 255, 3) := by decide +kernel
theorem dX12_house_74 : decode cX12_house 74 = .ok (.aload_n 0, 1) := by decide +kernel
theorem dX12_house_75 : decode cX12_house 75 = .ok (.invokevirtual 251, 3) := by decide +kernel
theorem dX12_house_78 : decode cX12_house 78 = .ok (.ifCond .eq 17, 3) := by decide +kernel
theorem dX12_house_81 : decode cX12_house 81 = .ok (.aload_n 0, 1) := by decide +kernel
theorem dX12_house_82 : decode cX12_house 82 = .ok (.getfield 223, 3) := by decide +kernel
theorem dX12_house_85 : decode cX12_house 85 = .ok (.ifCond .eq 10, 3) := by decide +kernel
theorem dX12_house_88 : decode cX12_house 88 = .ok (.aload_n 0, 1) := by decide +kernel
theorem dX12_house_89 : decode cX12_house 89 = .ok (.invokevirtual 283, 3) := by decide +kernel
theorem dX12_house_92 : decode cX12_house 92 = .ok (.goto (-18), 3) := by decide +kernel
theorem dX12_house_95 : decode cX12_house 95 = .ok (.aload_n 0, 1) := by decide +kernel
theorem dX12_house_96 : decode cX12_house 96 = .ok (.invokevirtual 251, 3) := by decide +kernel
theorem dX12_house_99 : decode cX12_house 99 = .ok (.ifCond .ne 5, 3) := by decide +kernel
theorem dX12_house_102 : decode cX12_house 102 = .ok (.iconst (-1), 1) := by decide +kernel
theorem dX12_house_103 : decode cX12_house 103 = .ok (.ireturn, 1) := by decide +kernel
theorem dX12_house_104 : decode cX12_house 104 = .ok (.aload_n 0, 1) := by decide +kernel
theorem dX12_house_105 : decode cX12_house 105 = .ok (.aload_n 0, 1) := by decide +kernel
theorem dX12_house_106 : decode cX12_house 106 = .ok (.getfield 271, 3) := by decide +kernel
theorem dX12_house_109 : decode cX12_house 109 = .ok (.putfield 280, 3) := by decide +kernel
theorem dX12_house_112 : decode cX12_house 112 = .ok (.aload_n 0, 1) := by decide +kernel
theorem dX12_house_113 : decode cX12_house 113 = .ok (.invokevirtual 170, 3) := by decide +kernel
theorem dX12_house_116 : decode cX12_house 116 = .ok (.aload_n 0, 1) := by decide +kernel
theorem dX12_house_117 : decode cX12_house 117 = .ok (.getfield 20, 3) := by decide +kernel
theorem dX12_house_120 : decode cX12_house 120 = .ok (.aload_n 0, 1) := by decide +kernel
theorem dX12_house_121 : decode cX12_house 121 = .ok (.getfield 280, 3) := by decide +kernel
theorem dX12_house_124 : decode cX12_house 124 = .ok (.iaload, 1) := by decide +kernel
theorem dX12_house_125 : decode cX12_house 125 = .ok (.ireturn, 1) := by decide +kernel
set_option maxRecDepth 20000 in
theorem ggX12_allWalks_X12_places : GoodIn wsX12_allWalks wsX12_places := goodIn_r _ [5, 6, 7, 14, 15, 16, 17, 18, 19, 20, 21, 22, 23, 24, 25, 26, 27, 28, 29, 30, 31, 32, 33, 34, 35, 36, 37, 38, 39, 40, 41, 42, 43, 44, 45, 46, 47, 48, 49, 50, 51, 52, 53, 54, 55, 56, 57, 58, 59, 60, 61, 62, 63, 64, 65, 66, 67, 68, 69, 70, 71, 72, 73, 74, 75, 76, 77, 78, 79, 80, 81, 82, 83, 84] (by decide +kernel) (by decide +kernel)
set_option maxRecDepth 20000 in
theorem gX12_allWalks_X12_places : GoodIn wsX12_allWalks (wsV RX12 378 RX12 yX12_places wsX12_places) := goodIn_app (goodIn_of _ (by decide +kernel)) ggX12_allWalks_X12_places
set_option maxRecDepth 20000 in
theorem ggX12_allWalks_X12_walksBy : GoodIn wsX12_allWalks wsX12_walksBy := goodIn_r _ [11, 12, 13, 14, 15, 16, 17, 18, 19, 20, 21, 22, 23, 24, 25, 26, 27, 28, 29, 30, 31, 32, 33, 34, 35, 36, 37, 38, 39, 40, 41, 42, 43, 44, 45, 46, 47, 48, 49, 50, 51, 52, 53, 54, 55, 56, 57, 58, 59, 60, 61, 62, 63, 64, 65, 66, 67, 68, 69, 70, 71, 72, 73, 74, 75, 76, 77, 78, 79, 80, 81, 82, 83, 84] (by decide +kernel) (by decide +kernel)
set_option maxRecDepth 20000 in
theorem gX12_allWalks_X12_walksBy : GoodIn wsX12_allWalks (wsV RX12 519 RX12 yX12_walksBy wsX12_walksBy) := goodIn_app (goodIn_of _ (by decide +kernel)) ggX12_allWalks_X12_walksBy
set_option maxRecDepth 20000 in
theorem ggX12_walks_X12_allWalks : GoodIn wsX12_walks wsX12_allWalks := goodIn_r _ [57, 9, 10, 11, 4, 12, 13, 14, 58, 59, 60, 61, 7, 8, 62, 63, 64, 65, 66, 67, 68, 69, 70, 71, 72, 73, 74, 75, 76, 77, 78, 79, 80, 81, 82, 83, 84, 85, 86, 87, 88, 89, 90, 91, 92, 93, 94, 95, 96, 97, 98, 99, 100, 101, 102, 103, 104, 105, 106, 107, 108, 109, 110, 111, 112, 113, 114, 115, 116, 117, 118, 119, 120, 121, 122, 123, 124, 125, 126, 127, 128, 129, 130, 131, 132] (by decide +kernel) (by decide +kernel)
set_option maxRecDepth 20000 in
theorem gX12_walks_X12_allWalks : GoodIn wsX12_walks (wsV RX12 525 RX12 yX12_allWalks wsX12_allWalks) := goodIn_app (goodIn_of _ (by decide +kernel)) ggX12_walks_X12_allWalks
set_option maxRecDepth 20000 in
theorem ggX12_walks_X12_layWalks : GoodIn wsX12_walks wsX12_layWalks := goodIn_r _ [5, 6, 7, 8, 9, 10, 11, 4, 12, 13, 14, 15, 16, 17, 18, 19, 20, 21, 22, 23, 24, 25, 26, 27, 28, 29, 30, 31, 32, 33, 34, 35, 36, 37, 38, 39, 40, 41, 42, 43, 44, 45, 46, 47, 48, 49, 50, 51, 52, 53, 62, 63, 64, 65, 66, 67, 68, 69, 70, 71, 72, 73, 74, 75, 76, 77, 78, 79, 80, 81, 82, 83, 84, 85, 86, 87, 88, 89, 90, 91, 92, 93, 94, 95, 96, 97, 98, 99, 100, 101, 102, 103, 104, 105, 106, 107, 108, 109, 110, 111, 112, 113, 114, 115, 116, 117, 118, 119, 120, 121, 122, 123, 124, 125, 126, 127, 128, 129, 130, 131, 132] (by decide +kernel) (by decide +kernel)
set_option maxRecDepth 20000 in
theorem gX12_walks_X12_layWalks : GoodIn wsX12_walks (wsV RX12 522 RX12 yX12_layWalks wsX12_layWalks) := goodIn_app (goodIn_of _ (by decide +kernel)) ggX12_walks_X12_layWalks
set_option maxRecDepth 20000 in
theorem ggX12_certain_X12_allWalks : GoodIn wsX12_certain wsX12_allWalks := goodIn_r _ [60, 12, 13, 14, 3, 15, 16, 17, 61, 62, 63, 64, 10, 11, 65, 66, 67, 68, 69, 70, 71, 72, 73, 74, 75, 76, 77, 78, 79, 80, 81, 82, 83, 84, 85, 86, 87, 88, 89, 90, 91, 92, 93, 94, 95, 96, 97, 98, 99, 100, 101, 102, 103, 104, 105, 106, 107, 108, 109, 110, 111, 112, 113, 114, 115, 116, 117, 118, 119, 120, 121, 122, 123, 124, 125, 126, 127, 128, 129, 130, 131, 132, 133, 134, 135] (by decide +kernel) (by decide +kernel)
set_option maxRecDepth 20000 in
theorem gX12_certain_X12_allWalks : GoodIn wsX12_certain (wsV RX12 525 RX12 yX12_allWalks wsX12_allWalks) := goodIn_app (goodIn_of _ (by decide +kernel)) ggX12_certain_X12_allWalks
set_option maxRecDepth 20000 in
theorem ggX12_certain_X12_isIn : GoodIn wsX12_certain wsX12_isIn := goodIn_r _ [4] (by decide +kernel) (by decide +kernel)
set_option maxRecDepth 20000 in
theorem gX12_certain_X12_isIn : GoodIn wsX12_certain (va_wsS RX12 381 yX12_isIn wsX12_isIn) := goodIn_app (goodIn_of _ (by decide +kernel)) ggX12_certain_X12_isIn
set_option maxRecDepth 20000 in
theorem ggX12_certain_X12_layWalks : GoodIn wsX12_certain wsX12_layWalks := goodIn_r _ [8, 9, 10, 11, 12, 13, 14, 3, 15, 16, 17, 18, 19, 20, 21, 22, 23, 24, 25, 26, 27, 28, 29, 30, 31, 32, 33, 34, 35, 36, 37, 38, 39, 40, 41, 42, 43, 44, 45, 46, 47, 48, 49, 50, 51, 52, 53, 54, 55, 56, 65, 66, 67, 68, 69, 70, 71, 72, 73, 74, 75, 76, 77, 78, 79, 80, 81, 82, 83, 84, 85, 86, 87, 88, 89, 90, 91, 92, 93, 94, 95, 96, 97, 98, 99, 100, 101, 102, 103, 104, 105, 106, 107, 108, 109, 110, 111, 112, 113, 114, 115, 116, 117, 118, 119, 120, 121, 122, 123, 124, 125, 126, 127, 128, 129, 130, 131, 132, 133, 134, 135] (by decide +kernel) (by decide +kernel)
set_option maxRecDepth 20000 in
theorem gX12_certain_X12_layWalks : GoodIn wsX12_certain (wsV RX12 522 RX12 yX12_layWalks wsX12_layWalks) := goodIn_app (goodIn_of _ (by decide +kernel)) ggX12_certain_X12_layWalks
set_option maxRecDepth 20000 in
theorem ggX12_certain_X12_places : GoodIn wsX12_certain wsX12_places := goodIn_r _ [15, 16, 17, 65, 66, 67, 68, 69, 70, 71, 72, 73, 74, 75, 76, 77, 78, 79, 80, 81, 82, 83, 84, 85, 86, 87, 88, 89, 90, 91, 92, 93, 94, 95, 96, 97, 98, 99, 100, 101, 102, 103, 104, 105, 106, 107, 108, 109, 110, 111, 112, 113, 114, 115, 116, 117, 118, 119, 120, 121, 122, 123, 124, 125, 126, 127, 128, 129, 130, 131, 132, 133, 134, 135] (by decide +kernel) (by decide +kernel)
set_option maxRecDepth 20000 in
theorem gX12_certain_X12_places : GoodIn wsX12_certain (wsV RX12 378 RX12 yX12_places wsX12_places) := goodIn_app (goodIn_of _ (by decide +kernel)) ggX12_certain_X12_places
set_option maxRecDepth 20000 in
theorem ggX12_certain_X12_walksBy : GoodIn wsX12_certain wsX12_walksBy := goodIn_r _ [64, 10, 11, 65, 66, 67, 68, 69, 70, 71, 72, 73, 74, 75, 76, 77, 78, 79, 80, 81, 82, 83, 84, 85, 86, 87, 88, 89, 90, 91, 92, 93, 94, 95, 96, 97, 98, 99, 100, 101, 102, 103, 104, 105, 106, 107, 108, 109, 110, 111, 112, 113, 114, 115, 116, 117, 118, 119, 120, 121, 122, 123, 124, 125, 126, 127, 128, 129, 130, 131, 132, 133, 134, 135] (by decide +kernel) (by decide +kernel)
set_option maxRecDepth 20000 in
theorem gX12_certain_X12_walksBy : GoodIn wsX12_certain (wsV RX12 519 RX12 yX12_walksBy wsX12_walksBy) := goodIn_app (goodIn_of _ (by decide +kernel)) ggX12_certain_X12_walksBy
set_option maxRecDepth 20000 in
theorem ggX12_ask_X12_allWalks : GoodIn wsX12_ask wsX12_allWalks := goodIn_r _ [60, 12, 13, 14, 3, 15, 16, 17, 61, 62, 63, 64, 10, 11, 65, 66, 67, 68, 69, 70, 71, 72, 73, 74, 75, 76, 77, 78, 79, 80, 81, 82, 83, 84, 85, 86, 87, 88, 89, 90, 91, 92, 93, 94, 95, 96, 97, 98, 99, 100, 101, 102, 103, 104, 105, 106, 107, 108, 109, 110, 111, 112, 113, 114, 115, 116, 117, 118, 119, 120, 121, 122, 123, 124, 125, 126, 127, 128, 129, 130, 131, 132, 133, 134, 135] (by decide +kernel) (by decide +kernel)
set_option maxRecDepth 20000 in
theorem gX12_ask_X12_allWalks : GoodIn wsX12_ask (wsV RX12 525 RX12 yX12_allWalks wsX12_allWalks) := goodIn_app (goodIn_of _ (by decide +kernel)) ggX12_ask_X12_allWalks
set_option maxRecDepth 20000 in
theorem ggX12_ask_X12_isIn : GoodIn wsX12_ask wsX12_isIn := goodIn_r _ [4] (by decide +kernel) (by decide +kernel)
set_option maxRecDepth 20000 in
theorem gX12_ask_X12_isIn : GoodIn wsX12_ask (va_wsS RX12 381 yX12_isIn wsX12_isIn) := goodIn_app (goodIn_of _ (by decide +kernel)) ggX12_ask_X12_isIn
set_option maxRecDepth 20000 in
theorem ggX12_ask_X12_layWalks : GoodIn wsX12_ask wsX12_layWalks := goodIn_r _ [8, 9, 10, 11, 12, 13, 14, 3, 15, 16, 17, 18, 19, 20, 21, 22, 23, 24, 25, 26, 27, 28, 29, 30, 31, 32, 33, 34, 35, 36, 37, 38, 39, 40, 41, 42, 43, 44, 45, 46, 47, 48, 49, 50, 51, 52, 53, 54, 55, 56, 65, 66, 67, 68, 69, 70, 71, 72, 73, 74, 75, 76, 77, 78, 79, 80, 81, 82, 83, 84, 85, 86, 87, 88, 89, 90, 91, 92, 93, 94, 95, 96, 97, 98, 99, 100, 101, 102, 103, 104, 105, 106, 107, 108, 109, 110, 111, 112, 113, 114, 115, 116, 117, 118, 119, 120, 121, 122, 123, 124, 125, 126, 127, 128, 129, 130, 131, 132, 133, 134, 135] (by decide +kernel) (by decide +kernel)
set_option maxRecDepth 20000 in
theorem gX12_ask_X12_layWalks : GoodIn wsX12_ask (wsV RX12 522 RX12 yX12_layWalks wsX12_layWalks) := goodIn_app (goodIn_of _ (by decide +kernel)) ggX12_ask_X12_layWalks
set_option maxRecDepth 20000 in
theorem ggX12_ask_X12_places : GoodIn wsX12_ask wsX12_places := goodIn_r _ [15, 16, 17, 65, 66, 67, 68, 69, 70, 71, 72, 73, 74, 75, 76, 77, 78, 79, 80, 81, 82, 83, 84, 85, 86, 87, 88, 89, 90, 91, 92, 93, 94, 95, 96, 97, 98, 99, 100, 101, 102, 103, 104, 105, 106, 107, 108, 109, 110, 111, 112, 113, 114, 115, 116, 117, 118, 119, 120, 121, 122, 123, 124, 125, 126, 127, 128, 129, 130, 131, 132, 133, 134, 135] (by decide +kernel) (by decide +kernel)
set_option maxRecDepth 20000 in
theorem gX12_ask_X12_places : GoodIn wsX12_ask (wsV RX12 378 RX12 yX12_places wsX12_places) := goodIn_app (goodIn_of _ (by decide +kernel)) ggX12_ask_X12_places
set_option maxRecDepth 20000 in
theorem ggX12_ask_X12_walksBy : GoodIn wsX12_ask wsX12_walksBy := goodIn_r _ [64, 10, 11, 65, 66, 67, 68, 69, 70, 71, 72, 73, 74, 75, 76, 77, 78, 79, 80, 81, 82, 83, 84, 85, 86, 87, 88, 89, 90, 91, 92, 93, 94, 95, 96, 97, 98, 99, 100, 101, 102, 103, 104, 105, 106, 107, 108, 109, 110, 111, 112, 113, 114, 115, 116, 117, 118, 119, 120, 121, 122, 123, 124, 125, 126, 127, 128, 129, 130, 131, 132, 133, 134, 135] (by decide +kernel) (by decide +kernel)
set_option maxRecDepth 20000 in
theorem gX12_ask_X12_walksBy : GoodIn wsX12_ask (wsV RX12 519 RX12 yX12_walksBy wsX12_walksBy) := goodIn_app (goodIn_of _ (by decide +kernel)) ggX12_ask_X12_walksBy
set_option maxRecDepth 20000 in
theorem ggX12_layTours_X12_farOf : GoodIn wsX12_layTours wsX12_farOf := goodIn_r _ [15, 16, 20, 21, 22, 23, 24, 25, 26, 27, 28, 29, 30, 31, 32, 33, 34, 35, 36, 37, 38, 39, 40, 41, 42, 43, 44, 45, 46, 47, 48, 49, 50, 51, 52, 53, 54, 55, 56, 57, 58, 59, 60, 61, 62, 63, 64, 65, 66, 67, 68, 69, 70, 71, 72, 73, 74, 75, 76, 77, 78, 79, 80, 81, 82, 83, 84, 85, 86, 87, 88, 89, 90] (by decide +kernel) (by decide +kernel)
set_option maxRecDepth 20000 in
theorem gX12_layTours_X12_farOf : GoodIn wsX12_layTours (wsV RX12 421 RX12 yX12_farOf wsX12_farOf) := goodIn_app (goodIn_of _ (by decide +kernel)) ggX12_layTours_X12_farOf
set_option maxRecDepth 20000 in
theorem ggX12_layTours_X12_has : GoodIn wsX12_layTours wsX12_has := goodIn_r _ [11] (by decide +kernel) (by decide +kernel)
set_option maxRecDepth 20000 in
theorem gX12_layTours_X12_has : GoodIn wsX12_layTours (va_wsS RX12 397 yX12_has wsX12_has) := goodIn_app (goodIn_of _ (by decide +kernel)) ggX12_layTours_X12_has
set_option maxRecDepth 20000 in
theorem ggX12_layTours_X12_lesser : GoodIn wsX12_layTours wsX12_lesser := goodIn_r _ [19] (by decide +kernel) (by decide +kernel)
set_option maxRecDepth 20000 in
theorem gX12_layTours_X12_lesser : GoodIn wsX12_layTours (va_wsS RX12 424 yX12_lesser wsX12_lesser) := goodIn_app (goodIn_of _ (by decide +kernel)) ggX12_layTours_X12_lesser
set_option maxRecDepth 20000 in
theorem ggX12_layTours_X12_places : GoodIn wsX12_layTours wsX12_places := goodIn_r _ [6, 7, 8, 20, 21, 22, 23, 24, 25, 26, 27, 28, 29, 30, 31, 32, 33, 34, 35, 36, 37, 38, 39, 40, 41, 42, 43, 44, 45, 46, 47, 48, 49, 50, 51, 52, 53, 54, 55, 56, 57, 58, 59, 60, 61, 62, 63, 64, 65, 66, 67, 68, 69, 70, 71, 72, 73, 74, 75, 76, 77, 78, 79, 80, 81, 82, 83, 84, 85, 86, 87, 88, 89, 90] (by decide +kernel) (by decide +kernel)
set_option maxRecDepth 20000 in
theorem gX12_layTours_X12_places : GoodIn wsX12_layTours (wsV RX12 378 RX12 yX12_places wsX12_places) := goodIn_app (goodIn_of _ (by decide +kernel)) ggX12_layTours_X12_places
set_option maxRecDepth 20000 in
theorem ggX12_tour_X12_farOf : GoodIn wsX12_tour wsX12_farOf := goodIn_r _ [32, 33, 37, 38, 39, 40, 41, 42, 43, 44, 45, 46, 47, 48, 49, 50, 51, 52, 53, 54, 55, 56, 57, 58, 59, 60, 61, 62, 63, 64, 65, 66, 67, 68, 69, 70, 71, 72, 73, 74, 75, 76, 77, 78, 79, 80, 81, 82, 83, 84, 85, 86, 87, 88, 89, 90, 91, 92, 93, 94, 95, 96, 97, 98, 99, 100, 101, 102, 103, 104, 105, 106, 107] (by decide +kernel) (by decide +kernel)
set_option maxRecDepth 20000 in
theorem gX12_tour_X12_farOf : GoodIn wsX12_tour (wsV RX12 421 RX12 yX12_farOf wsX12_farOf) := goodIn_app (goodIn_of _ (by decide +kernel)) ggX12_tour_X12_farOf
set_option maxRecDepth 20000 in
theorem ggX12_tour_X12_has : GoodIn wsX12_tour wsX12_has := goodIn_r _ [28] (by decide +kernel) (by decide +kernel)
set_option maxRecDepth 20000 in
theorem gX12_tour_X12_has : GoodIn wsX12_tour (va_wsS RX12 397 yX12_has wsX12_has) := goodIn_app (goodIn_of _ (by decide +kernel)) ggX12_tour_X12_has
set_option maxRecDepth 20000 in
theorem ggX12_tour_X12_isRoom : GoodIn wsX12_tour wsX12_isRoom := goodIn_r _ [8, 9, 10, 11, 7, 12, 13, 14, 15, 16, 17, 37, 38, 39, 40, 41, 42, 43, 44, 45, 46, 47, 48, 49, 50, 51, 52, 53, 54, 55, 56, 57, 58, 59, 60, 61, 62, 63, 64, 65, 66, 67, 68, 69, 70, 71, 72, 73, 74, 75, 76, 77, 78, 79, 80, 81, 82, 83, 84, 85, 86, 87, 88, 89, 90, 91, 92, 93, 94, 95, 96, 97, 98, 99, 100, 101, 102, 103, 104, 105, 106, 107] (by decide +kernel) (by decide +kernel)
set_option maxRecDepth 20000 in
theorem gX12_tour_X12_isRoom : GoodIn wsX12_tour (wsV RX12 385 RX12 yX12_isRoom wsX12_isRoom) := goodIn_app (goodIn_of _ (by decide +kernel)) ggX12_tour_X12_isRoom
set_option maxRecDepth 20000 in
theorem ggX12_tour_X12_isSet : GoodIn wsX12_tour wsX12_isSet := goodIn_r _ [21, 9, 10, 11, 7, 12, 13, 14, 15, 16, 17, 37, 38, 39, 40, 41, 42, 43, 44, 45, 46, 47, 48, 49, 50, 51, 52, 53, 54, 55, 56, 57, 58, 59, 60, 61, 62, 63, 64, 65, 66, 67, 68, 69, 70, 71, 72, 73, 74, 75, 76, 77, 78, 79, 80, 81, 82, 83, 84, 85, 86, 87, 88, 89, 90, 91, 92, 93, 94, 95, 96, 97, 98, 99, 100, 101, 102, 103, 104, 105, 106, 107] (by decide +kernel) (by decide +kernel)
set_option maxRecDepth 20000 in
theorem gX12_tour_X12_isSet : GoodIn wsX12_tour (wsV RX12 472 RX12 yX12_isSet wsX12_isSet) := goodIn_app (goodIn_of _ (by decide +kernel)) ggX12_tour_X12_isSet
set_option maxRecDepth 20000 in
theorem ggX12_tour_X12_layTours : GoodIn wsX12_tour wsX12_layTours := goodIn_r _ [25, 2, 9, 10, 11, 7, 12, 13, 14, 26, 27, 28, 29, 30, 31, 32, 33, 34, 35, 36, 37, 38, 39, 40, 41, 42, 43, 44, 45, 46, 47, 48, 49, 50, 51, 52, 53, 54, 55, 56, 57, 58, 59, 60, 61, 62, 63, 64, 65, 66, 67, 68, 69, 70, 71, 72, 73, 74, 75, 76, 77, 78, 79, 80, 81, 82, 83, 84, 85, 86, 87, 88, 89, 90, 91, 92, 93, 94, 95, 96, 97, 98, 99, 100, 101, 102, 103, 104, 105, 106, 107] (by decide +kernel) (by decide +kernel)
set_option maxRecDepth 20000 in
theorem gX12_tour_X12_layTours : GoodIn wsX12_tour (wsV RX12 481 RX12 yX12_layTours wsX12_layTours) := goodIn_app (goodIn_of _ (by decide +kernel)) ggX12_tour_X12_layTours
set_option maxRecDepth 20000 in
theorem ggX12_house_X12_clearBank : GoodIn wsX12_house wsX12_clearBank := goodIn_r _ [16, 11, 9, 17, 18, 19, 20, 21, 22, 23, 238, 239, 240, 241, 242, 243, 244, 245, 246, 247, 248, 249, 250, 251, 252, 253, 254, 255, 256, 257, 258, 259, 260, 261, 262, 263, 264, 265, 266, 267, 268, 269, 270, 271, 272, 273, 274, 275, 276, 277, 278, 279, 280, 281, 282, 283, 284, 285, 286, 287, 288, 289, 290, 291, 292, 293, 294, 295, 296, 297, 298, 299, 300, 301, 302, 303, 304, 305, 306, 307, 308] (by decide +kernel) (by decide +kernel)
set_option maxRecDepth 20000 in
theorem gX12_house_X12_clearBank : GoodIn wsX12_house (wsV RX12 167 RX12 yX12_clearBank wsX12_clearBank) := goodIn_app (goodIn_of _ (by decide +kernel)) ggX12_house_X12_clearBank
set_option maxRecDepth 20000 in
theorem ggX12_house_X12_goOn : GoodIn wsX12_house wsX12_goOn := goodIn_r _ [27, 7, 28, 4, 10, 29, 30, 31, 32, 33, 15, 34, 5, 35, 36, 37, 38, 39, 40, 41, 42, 43, 44, 45, 46, 47, 48, 49, 50, 51, 52, 53, 54, 55, 56, 57, 58, 59, 60, 61, 62, 63, 238, 239, 240, 241, 242, 243, 244, 245, 246, 247, 248, 249, 250, 251, 252, 253, 254, 255, 256, 257, 258, 259, 260, 261, 262, 263, 264, 265, 266, 267, 268, 269, 270, 271, 272, 273, 274, 275, 276, 277, 278, 279, 280, 281, 282, 283, 284, 285, 286, 287, 288, 289, 290, 291, 292, 293, 294, 295, 296, 297, 298, 299, 300, 301, 302, 303, 304, 305, 306, 307, 308] (by decide +kernel) (by decide +kernel)
set_option maxRecDepth 20000 in
theorem gX12_house_X12_goOn : GoodIn wsX12_house (wsV RX12 255 RX12 yX12_goOn wsX12_goOn) := goodIn_app (goodIn_of _ (by decide +kernel)) ggX12_house_X12_goOn
set_option maxRecDepth 20000 in
theorem ggX12_house_X12_isGood : GoodIn wsX12_house wsX12_isGood := goodIn_r _ [67, 1, 238, 239, 240, 241, 242, 243, 244, 245, 246, 247, 248, 249, 250, 251, 252, 253, 254, 255, 256, 257, 258, 259, 260, 261, 262, 263, 264, 265, 266, 267, 268, 269, 270, 271, 272, 273, 274, 275, 276, 277, 278, 279, 280, 281, 282, 283, 284, 285, 286, 287, 288, 289, 290, 291, 292, 293, 294, 295, 296, 297, 298, 299, 300, 301, 302, 303, 304, 305, 306, 307, 308] (by decide +kernel) (by decide +kernel)
set_option maxRecDepth 20000 in
theorem gX12_house_X12_isGood : GoodIn wsX12_house (wsV RX12 251 RX12 yX12_isGood wsX12_isGood) := goodIn_app (goodIn_of _ (by decide +kernel)) ggX12_house_X12_isGood
theorem lwb_app {big a b : List Cond} (ha : ∀ w ∈ a, w ∈ big) (hb : ∀ w ∈ b, w ∈ big) : ∀ w ∈ a ++ b, w ∈ big := fun w h => (List.mem_append.mp h).elim (ha w) (hb w)
theorem wlb_X12_house_0 : ∀ w ∈ wsX12_house_r1, w ∈ wsX12_house := fun w h => (show w ∈ wsX12_house from List.mem_cons_of_mem _ (List.mem_append_left _ (List.mem_append_left _ h)))
theorem wlb_X12_house_1 : ∀ w ∈ wsX12_house_r2, w ∈ wsX12_house := fun w h => (show w ∈ wsX12_house from List.mem_cons_of_mem _ (List.mem_append_left _ (List.mem_append_right _ (List.mem_append_left _ h))))
theorem wlb_X12_house_2 : ∀ w ∈ wsX12_house_r3, w ∈ wsX12_house := fun w h => (show w ∈ wsX12_house from List.mem_cons_of_mem _ (List.mem_append_left _ (List.mem_append_right _ (List.mem_append_right _ (List.mem_append_left _ h)))))
theorem wlb_X12_house_3 : ∀ w ∈ wsX12_house_r4, w ∈ wsX12_house := fun w h => (show w ∈ wsX12_house from List.mem_cons_of_mem _ (List.mem_append_left _ (List.mem_append_right _ (List.mem_append_right _ (List.mem_append_right _ (List.mem_append_left _ h))))))
theorem wlb_X12_house_4 : ∀ w ∈ wsX12_house_r5, w ∈ wsX12_house := fun w h => (show w ∈ wsX12_house from List.mem_cons_of_mem _ (List.mem_append_left _ (List.mem_append_right _ (List.mem_append_right _ (List.mem_append_right _ (List.mem_append_right _ (List.mem_append_left _ h)))))))
theorem wlb_X12_house_5 : ∀ w ∈ wsX12_house_r6, w ∈ wsX12_house := fun w h => (show w ∈ wsX12_house from List.mem_cons_of_mem _ (List.mem_append_left _ (List.mem_append_right _ (List.mem_append_right _ (List.mem_append_right _ (List.mem_append_right _ (List.mem_append_right _ (List.mem_append_left _ h))))))))
theorem wlb_X12_house_6 : ∀ w ∈ wsX12_house_r7, w ∈ wsX12_house := fun w h => (show w ∈ wsX12_house from List.mem_cons_of_mem _ (List.mem_append_left _ (List.mem_append_right _ (List.mem_append_right _ (List.mem_append_right _ (List.mem_append_right _ (List.mem_append_right _ (List.mem_append_right _ (List.mem_append_left _ h)))))))))
theorem wlb_X12_house_7 : ∀ w ∈ wsX12_house_r8, w ∈ wsX12_house := fun w h => (show w ∈ wsX12_house from List.mem_cons_of_mem _ (List.mem_append_left _ (List.mem_append_right _ (List.mem_append_right _ (List.mem_append_right _ (List.mem_append_right _ (List.mem_append_right _ (List.mem_append_right _ (List.mem_append_right _ (List.mem_append_left _ h))))))))))
theorem wlb_X12_house_8 : ∀ w ∈ wsX12_house_r9, w ∈ wsX12_house := fun w h => (show w ∈ wsX12_house from List.mem_cons_of_mem _ (List.mem_append_left _ (List.mem_append_right _ (List.mem_append_right _ (List.mem_append_right _ (List.mem_append_right _ (List.mem_append_right _ (List.mem_append_right _ (List.mem_append_right _ (List.mem_append_right _ (List.mem_append_left _ h)))))))))))
theorem wlb_X12_house_9 : ∀ w ∈ wsX12_house_r10, w ∈ wsX12_house := fun w h => (show w ∈ wsX12_house from List.mem_cons_of_mem _ (List.mem_append_left _ (List.mem_append_right _ (List.mem_append_right _ (List.mem_append_right _ (List.mem_append_right _ (List.mem_append_right _ (List.mem_append_right _ (List.mem_append_right _ (List.mem_append_right _ (List.mem_append_right _ h)))))))))))
set_option maxRecDepth 20000 in
theorem lmb_X12_house_wsX12_readLine_r1 : ∀ w ∈ wsX12_readLine_r1, w ∈ wsX12_house := (List.forall_mem_cons.mpr ⟨wlb_X12_house_1 _ (List.mem_of_getElem? (i := 4) rfl), (List.forall_mem_cons.mpr ⟨wlb_X12_house_0 _ (List.mem_of_getElem? (i := 9) rfl), (List.forall_mem_cons.mpr ⟨wlb_X12_house_1 _ (List.mem_of_getElem? (i := 16) rfl), (List.forall_mem_cons.mpr ⟨wlb_X12_house_1 _ (List.mem_of_getElem? (i := 18) rfl), (List.forall_mem_cons.mpr ⟨wlb_X12_house_1 _ (List.mem_of_getElem? (i := 19) rfl), (List.forall_mem_cons.mpr ⟨wlb_X12_house_2 _ (List.mem_of_getElem? (i := 1) rfl), (List.forall_mem_cons.mpr ⟨wlb_X12_house_0 _ (List.mem_of_getElem? (i := 20) rfl), (List.forall_mem_cons.mpr ⟨wlb_X12_house_0 _ (List.mem_of_getElem? (i := 8) rfl), (List.forall_mem_cons.mpr ⟨wlb_X12_house_2 _ (List.mem_of_getElem? (i := 2) rfl), (List.forall_mem_cons.mpr ⟨wlb_X12_house_0 _ (List.mem_of_getElem? (i := 21) rfl), (List.forall_mem_cons.mpr ⟨wlb_X12_house_0 _ (List.mem_of_getElem? (i := 19) rfl), (List.forall_mem_cons.mpr ⟨wlb_X12_house_2 _ (List.mem_of_getElem? (i := 23) rfl), (List.forall_mem_cons.mpr ⟨wlb_X12_house_3 _ (List.mem_of_getElem? (i := 0) rfl), (List.forall_mem_cons.mpr ⟨wlb_X12_house_3 _ (List.mem_of_getElem? (i := 1) rfl), (List.forall_mem_cons.mpr ⟨wlb_X12_house_0 _ (List.mem_of_getElem? (i := 14) rfl), (List.forall_mem_cons.mpr ⟨wlb_X12_house_3 _ (List.mem_of_getElem? (i := 2) rfl), (List.forall_mem_cons.mpr ⟨wlb_X12_house_0 _ (List.mem_of_getElem? (i := 10) rfl), (List.forall_mem_cons.mpr ⟨wlb_X12_house_0 _ (List.mem_of_getElem? (i := 16) rfl), (List.forall_mem_cons.mpr ⟨wlb_X12_house_0 _ (List.mem_of_getElem? (i := 17) rfl), (List.forall_mem_cons.mpr ⟨wlb_X12_house_3 _ (List.mem_of_getElem? (i := 3) rfl), (List.forall_mem_cons.mpr ⟨wlb_X12_house_3 _ (List.mem_of_getElem? (i := 4) rfl), (List.forall_mem_cons.mpr ⟨wlb_X12_house_3 _ (List.mem_of_getElem? (i := 5) rfl), (List.forall_mem_cons.mpr ⟨wlb_X12_house_3 _ (List.mem_of_getElem? (i := 6) rfl), (List.forall_mem_cons.mpr ⟨wlb_X12_house_3 _ (List.mem_of_getElem? (i := 7) rfl), (fun _ h => absurd h List.not_mem_nil)⟩)⟩)⟩)⟩)⟩)⟩)⟩)⟩)⟩)⟩)⟩)⟩)⟩)⟩)⟩)⟩)⟩)⟩)⟩)⟩)⟩)⟩)⟩)⟩)
set_option maxRecDepth 20000 in
theorem lmb_X12_house_wsX12_readLine_r2 : ∀ w ∈ wsX12_readLine_r2, w ∈ wsX12_house := (List.forall_mem_cons.mpr ⟨wlb_X12_house_3 _ (List.mem_of_getElem? (i := 8) rfl), (List.forall_mem_cons.mpr ⟨wlb_X12_house_3 _ (List.mem_of_getElem? (i := 9) rfl), (List.forall_mem_cons.mpr ⟨wlb_X12_house_3 _ (List.mem_of_getElem? (i := 10) rfl), (List.forall_mem_cons.mpr ⟨wlb_X12_house_1 _ (List.mem_of_getElem? (i := 3) rfl), (List.forall_mem_cons.mpr ⟨wlb_X12_house_3 _ (List.mem_of_getElem? (i := 11) rfl), (List.forall_mem_cons.mpr ⟨wlb_X12_house_3 _ (List.mem_of_getElem? (i := 12) rfl), (List.forall_mem_cons.mpr ⟨wlb_X12_house_3 _ (List.mem_of_getElem? (i := 13) rfl), (List.forall_mem_cons.mpr ⟨wlb_X12_house_3 _ (List.mem_of_getElem? (i := 14) rfl), (List.forall_mem_cons.mpr ⟨wlb_X12_house_0 _ (List.mem_of_getElem? (i := 0) rfl), (List.forall_mem_cons.mpr ⟨wlb_X12_house_0 _ (List.mem_of_getElem? (i := 1) rfl), (List.forall_mem_cons.mpr ⟨wlb_X12_house_2 _ (List.mem_of_getElem? (i := 15) rfl), (List.forall_mem_cons.mpr ⟨wlb_X12_house_2 _ (List.mem_of_getElem? (i := 16) rfl), (List.forall_mem_cons.mpr ⟨wlb_X12_house_2 _ (List.mem_of_getElem? (i := 17) rfl), (List.forall_mem_cons.mpr ⟨wlb_X12_house_2 _ (List.mem_of_getElem? (i := 18) rfl), (List.forall_mem_cons.mpr ⟨wlb_X12_house_0 _ (List.mem_of_getElem? (i := 23) rfl), (List.forall_mem_cons.mpr ⟨wlb_X12_house_1 _ (List.mem_of_getElem? (i := 0) rfl), (List.forall_mem_cons.mpr ⟨wlb_X12_house_1 _ (List.mem_of_getElem? (i := 1) rfl), (List.forall_mem_cons.mpr ⟨wlb_X12_house_1 _ (List.mem_of_getElem? (i := 2) rfl), (List.forall_mem_cons.mpr ⟨wlb_X12_house_0 _ (List.mem_of_getElem? (i := 6) rfl), (List.forall_mem_cons.mpr ⟨wlb_X12_house_0 _ (List.mem_of_getElem? (i := 3) rfl), (List.forall_mem_cons.mpr ⟨wlb_X12_house_1 _ (List.mem_of_getElem? (i := 5) rfl), (List.forall_mem_cons.mpr ⟨wlb_X12_house_1 _ (List.mem_of_getElem? (i := 6) rfl), (List.forall_mem_cons.mpr ⟨wlb_X12_house_1 _ (List.mem_of_getElem? (i := 7) rfl), (List.forall_mem_cons.mpr ⟨wlb_X12_house_1 _ (List.mem_of_getElem? (i := 8) rfl), (fun _ h => absurd h List.not_mem_nil)⟩)⟩)⟩)⟩)⟩)⟩)⟩)⟩)⟩)⟩)⟩)⟩)⟩)⟩)⟩)⟩)⟩)⟩)⟩)⟩)⟩)⟩)⟩)⟩)
set_option maxRecDepth 20000 in
theorem lmb_X12_house_wsX12_readLine_r3 : ∀ w ∈ wsX12_readLine_r3, w ∈ wsX12_house := (List.forall_mem_cons.mpr ⟨wlb_X12_house_1 _ (List.mem_of_getElem? (i := 9) rfl), (List.forall_mem_cons.mpr ⟨wlb_X12_house_0 _ (List.mem_of_getElem? (i := 4) rfl), (List.forall_mem_cons.mpr ⟨wlb_X12_house_1 _ (List.mem_of_getElem? (i := 10) rfl), (List.forall_mem_cons.mpr ⟨wlb_X12_house_1 _ (List.mem_of_getElem? (i := 11) rfl), (List.forall_mem_cons.mpr ⟨wlb_X12_house_1 _ (List.mem_of_getElem? (i := 12) rfl), (List.forall_mem_cons.mpr ⟨wlb_X12_house_1 _ (List.mem_of_getElem? (i := 13) rfl), (List.forall_mem_cons.mpr ⟨wlb_X12_house_1 _ (List.mem_of_getElem? (i := 14) rfl), (List.forall_mem_cons.mpr ⟨wlb_X12_house_1 _ (List.mem_of_getElem? (i := 15) rfl), (List.forall_mem_cons.mpr ⟨wlb_X12_house_1 _ (List.mem_of_getElem? (i := 17) rfl), (List.forall_mem_cons.mpr ⟨wlb_X12_house_1 _ (List.mem_of_getElem? (i := 20) rfl), (List.forall_mem_cons.mpr ⟨wlb_X12_house_1 _ (List.mem_of_getElem? (i := 21) rfl), (List.forall_mem_cons.mpr ⟨wlb_X12_house_1 _ (List.mem_of_getElem? (i := 22) rfl), (List.forall_mem_cons.mpr ⟨wlb_X12_house_1 _ (List.mem_of_getElem? (i := 23) rfl), (List.forall_mem_cons.mpr ⟨wlb_X12_house_2 _ (List.mem_of_getElem? (i := 0) rfl), (List.forall_mem_cons.mpr ⟨wlb_X12_house_2 _ (List.mem_of_getElem? (i := 3) rfl), (List.forall_mem_cons.mpr ⟨wlb_X12_house_2 _ (List.mem_of_getElem? (i := 4) rfl), (List.forall_mem_cons.mpr ⟨wlb_X12_house_2 _ (List.mem_of_getElem? (i := 5) rfl), (List.forall_mem_cons.mpr ⟨wlb_X12_house_2 _ (List.mem_of_getElem? (i := 6) rfl), (List.forall_mem_cons.mpr ⟨wlb_X12_house_2 _ (List.mem_of_getElem? (i := 7) rfl), (List.forall_mem_cons.mpr ⟨wlb_X12_house_2 _ (List.mem_of_getElem? (i := 8) rfl), (List.forall_mem_cons.mpr ⟨wlb_X12_house_2 _ (List.mem_of_getElem? (i := 9) rfl), (List.forall_mem_cons.mpr ⟨wlb_X12_house_2 _ (List.mem_of_getElem? (i := 10) rfl), (List.forall_mem_cons.mpr ⟨wlb_X12_house_2 _ (List.mem_of_getElem? (i := 11) rfl), (List.forall_mem_cons.mpr ⟨wlb_X12_house_2 _ (List.mem_of_getElem? (i := 12) rfl), (fun _ h => absurd h List.not_mem_nil)⟩)⟩)⟩)⟩)⟩)⟩)⟩)⟩)⟩)⟩)⟩)⟩)⟩)⟩)⟩)⟩)⟩)⟩)⟩)⟩)⟩)⟩)⟩)⟩)
set_option maxRecDepth 20000 in
theorem lmb_X12_house_wsX12_readLine_r4 : ∀ w ∈ wsX12_readLine_r4, w ∈ wsX12_house := (List.forall_mem_cons.mpr ⟨wlb_X12_house_2 _ (List.mem_of_getElem? (i := 13) rfl), (List.forall_mem_cons.mpr ⟨wlb_X12_house_2 _ (List.mem_of_getElem? (i := 14) rfl), (List.forall_mem_cons.mpr ⟨wlb_X12_house_3 _ (List.mem_of_getElem? (i := 15) rfl), (List.forall_mem_cons.mpr ⟨wlb_X12_house_3 _ (List.mem_of_getElem? (i := 16) rfl), (List.forall_mem_cons.mpr ⟨wlb_X12_house_3 _ (List.mem_of_getElem? (i := 17) rfl), (List.forall_mem_cons.mpr ⟨wlb_X12_house_3 _ (List.mem_of_getElem? (i := 18) rfl), (List.forall_mem_cons.mpr ⟨wlb_X12_house_3 _ (List.mem_of_getElem? (i := 19) rfl), (List.forall_mem_cons.mpr ⟨wlb_X12_house_3 _ (List.mem_of_getElem? (i := 20) rfl), (List.forall_mem_cons.mpr ⟨wlb_X12_house_3 _ (List.mem_of_getElem? (i := 21) rfl), (List.forall_mem_cons.mpr ⟨wlb_X12_house_3 _ (List.mem_of_getElem? (i := 22) rfl), (List.forall_mem_cons.mpr ⟨wlb_X12_house_3 _ (List.mem_of_getElem? (i := 23) rfl), (List.forall_mem_cons.mpr ⟨wlb_X12_house_4 _ (List.mem_of_getElem? (i := 0) rfl), (List.forall_mem_cons.mpr ⟨wlb_X12_house_4 _ (List.mem_of_getElem? (i := 1) rfl), (List.forall_mem_cons.mpr ⟨wlb_X12_house_4 _ (List.mem_of_getElem? (i := 2) rfl), (List.forall_mem_cons.mpr ⟨wlb_X12_house_4 _ (List.mem_of_getElem? (i := 3) rfl), (List.forall_mem_cons.mpr ⟨wlb_X12_house_4 _ (List.mem_of_getElem? (i := 4) rfl), (List.forall_mem_cons.mpr ⟨wlb_X12_house_4 _ (List.mem_of_getElem? (i := 5) rfl), (List.forall_mem_cons.mpr ⟨wlb_X12_house_4 _ (List.mem_of_getElem? (i := 6) rfl), (List.forall_mem_cons.mpr ⟨wlb_X12_house_4 _ (List.mem_of_getElem? (i := 7) rfl), (List.forall_mem_cons.mpr ⟨wlb_X12_house_4 _ (List.mem_of_getElem? (i := 8) rfl), (List.forall_mem_cons.mpr ⟨wlb_X12_house_4 _ (List.mem_of_getElem? (i := 9) rfl), (List.forall_mem_cons.mpr ⟨wlb_X12_house_4 _ (List.mem_of_getElem? (i := 10) rfl), (List.forall_mem_cons.mpr ⟨wlb_X12_house_4 _ (List.mem_of_getElem? (i := 11) rfl), (List.forall_mem_cons.mpr ⟨wlb_X12_house_4 _ (List.mem_of_getElem? (i := 12) rfl), (fun _ h => absurd h List.not_mem_nil)⟩)⟩)⟩)⟩)⟩)⟩)⟩)⟩)⟩)⟩)⟩)⟩)⟩)⟩)⟩)⟩)⟩)⟩)⟩)⟩)⟩)⟩)⟩)⟩)
set_option maxRecDepth 20000 in
theorem lmb_X12_house_wsX12_readLine_r5 : ∀ w ∈ wsX12_readLine_r5, w ∈ wsX12_house := (List.forall_mem_cons.mpr ⟨wlb_X12_house_4 _ (List.mem_of_getElem? (i := 13) rfl), (List.forall_mem_cons.mpr ⟨wlb_X12_house_4 _ (List.mem_of_getElem? (i := 14) rfl), (List.forall_mem_cons.mpr ⟨wlb_X12_house_4 _ (List.mem_of_getElem? (i := 15) rfl), (List.forall_mem_cons.mpr ⟨wlb_X12_house_4 _ (List.mem_of_getElem? (i := 16) rfl), (List.forall_mem_cons.mpr ⟨wlb_X12_house_4 _ (List.mem_of_getElem? (i := 17) rfl), (List.forall_mem_cons.mpr ⟨wlb_X12_house_4 _ (List.mem_of_getElem? (i := 18) rfl), (List.forall_mem_cons.mpr ⟨wlb_X12_house_4 _ (List.mem_of_getElem? (i := 19) rfl), (List.forall_mem_cons.mpr ⟨wlb_X12_house_4 _ (List.mem_of_getElem? (i := 20) rfl), (List.forall_mem_cons.mpr ⟨wlb_X12_house_4 _ (List.mem_of_getElem? (i := 21) rfl), (List.forall_mem_cons.mpr ⟨wlb_X12_house_4 _ (List.mem_of_getElem? (i := 22) rfl), (List.forall_mem_cons.mpr ⟨wlb_X12_house_4 _ (List.mem_of_getElem? (i := 23) rfl), (List.forall_mem_cons.mpr ⟨wlb_X12_house_5 _ (List.mem_of_getElem? (i := 0) rfl), (List.forall_mem_cons.mpr ⟨wlb_X12_house_5 _ (List.mem_of_getElem? (i := 1) rfl), (List.forall_mem_cons.mpr ⟨wlb_X12_house_5 _ (List.mem_of_getElem? (i := 2) rfl), (List.forall_mem_cons.mpr ⟨wlb_X12_house_5 _ (List.mem_of_getElem? (i := 3) rfl), (List.forall_mem_cons.mpr ⟨wlb_X12_house_5 _ (List.mem_of_getElem? (i := 4) rfl), (List.forall_mem_cons.mpr ⟨wlb_X12_house_5 _ (List.mem_of_getElem? (i := 5) rfl), (List.forall_mem_cons.mpr ⟨wlb_X12_house_5 _ (List.mem_of_getElem? (i := 6) rfl), (List.forall_mem_cons.mpr ⟨wlb_X12_house_5 _ (List.mem_of_getElem? (i := 7) rfl), (List.forall_mem_cons.mpr ⟨wlb_X12_house_5 _ (List.mem_of_getElem? (i := 8) rfl), (List.forall_mem_cons.mpr ⟨wlb_X12_house_5 _ (List.mem_of_getElem? (i := 9) rfl), (List.forall_mem_cons.mpr ⟨wlb_X12_house_5 _ (List.mem_of_getElem? (i := 10) rfl), (List.forall_mem_cons.mpr ⟨wlb_X12_house_5 _ (List.mem_of_getElem? (i := 11) rfl), (List.forall_mem_cons.mpr ⟨wlb_X12_house_5 _ (List.mem_of_getElem? (i := 12) rfl), (fun _ h => absurd h List.not_mem_nil)⟩)⟩)⟩)⟩)⟩)⟩)⟩)⟩)⟩)⟩)⟩)⟩)⟩)⟩)⟩)⟩)⟩)⟩)⟩)⟩)⟩)⟩)⟩)⟩)
set_option maxRecDepth 20000 in
theorem lmb_X12_house_wsX12_readLine_r6 : ∀ w ∈ wsX12_readLine_r6, w ∈ wsX12_house := (List.forall_mem_cons.mpr ⟨wlb_X12_house_5 _ (List.mem_of_getElem? (i := 13) rfl), (List.forall_mem_cons.mpr ⟨wlb_X12_house_5 _ (List.mem_of_getElem? (i := 14) rfl), (List.forall_mem_cons.mpr ⟨wlb_X12_house_5 _ (List.mem_of_getElem? (i := 15) rfl), (List.forall_mem_cons.mpr ⟨wlb_X12_house_5 _ (List.mem_of_getElem? (i := 16) rfl), (List.forall_mem_cons.mpr ⟨wlb_X12_house_5 _ (List.mem_of_getElem? (i := 17) rfl), (List.forall_mem_cons.mpr ⟨wlb_X12_house_5 _ (List.mem_of_getElem? (i := 18) rfl), (List.forall_mem_cons.mpr ⟨wlb_X12_house_5 _ (List.mem_of_getElem? (i := 19) rfl), (List.forall_mem_cons.mpr ⟨wlb_X12_house_5 _ (List.mem_of_getElem? (i := 20) rfl), (List.forall_mem_cons.mpr ⟨wlb_X12_house_5 _ (List.mem_of_getElem? (i := 21) rfl), (List.forall_mem_cons.mpr ⟨wlb_X12_house_5 _ (List.mem_of_getElem? (i := 22) rfl), (List.forall_mem_cons.mpr ⟨wlb_X12_house_5 _ (List.mem_of_getElem? (i := 23) rfl), (List.forall_mem_cons.mpr ⟨wlb_X12_house_6 _ (List.mem_of_getElem? (i := 0) rfl), (List.forall_mem_cons.mpr ⟨wlb_X12_house_6 _ (List.mem_of_getElem? (i := 1) rfl), (List.forall_mem_cons.mpr ⟨wlb_X12_house_6 _ (List.mem_of_getElem? (i := 2) rfl), (List.forall_mem_cons.mpr ⟨wlb_X12_house_6 _ (List.mem_of_getElem? (i := 3) rfl), (List.forall_mem_cons.mpr ⟨wlb_X12_house_6 _ (List.mem_of_getElem? (i := 4) rfl), (List.forall_mem_cons.mpr ⟨wlb_X12_house_6 _ (List.mem_of_getElem? (i := 5) rfl), (List.forall_mem_cons.mpr ⟨wlb_X12_house_6 _ (List.mem_of_getElem? (i := 6) rfl), (List.forall_mem_cons.mpr ⟨wlb_X12_house_0 _ (List.mem_of_getElem? (i := 22) rfl), (List.forall_mem_cons.mpr ⟨wlb_X12_house_6 _ (List.mem_of_getElem? (i := 7) rfl), (List.forall_mem_cons.mpr ⟨wlb_X12_house_6 _ (List.mem_of_getElem? (i := 8) rfl), (List.forall_mem_cons.mpr ⟨wlb_X12_house_6 _ (List.mem_of_getElem? (i := 9) rfl), (List.forall_mem_cons.mpr ⟨wlb_X12_house_6 _ (List.mem_of_getElem? (i := 10) rfl), (List.forall_mem_cons.mpr ⟨wlb_X12_house_6 _ (List.mem_of_getElem? (i := 11) rfl), (fun _ h => absurd h List.not_mem_nil)⟩)⟩)⟩)⟩)⟩)⟩)⟩)⟩)⟩)⟩)⟩)⟩)⟩)⟩)⟩)⟩)⟩)⟩)⟩)⟩)⟩)⟩)⟩)⟩)
set_option maxRecDepth 20000 in
theorem lmb_X12_house_wsX12_readLine_r7 : ∀ w ∈ wsX12_readLine_r7, w ∈ wsX12_house := (List.forall_mem_cons.mpr ⟨wlb_X12_house_6 _ (List.mem_of_getElem? (i := 12) rfl), (List.forall_mem_cons.mpr ⟨wlb_X12_house_6 _ (List.mem_of_getElem? (i := 13) rfl), (List.forall_mem_cons.mpr ⟨wlb_X12_house_6 _ (List.mem_of_getElem? (i := 14) rfl), (List.forall_mem_cons.mpr ⟨wlb_X12_house_6 _ (List.mem_of_getElem? (i := 15) rfl), (List.forall_mem_cons.mpr ⟨wlb_X12_house_6 _ (List.mem_of_getElem? (i := 16) rfl), (List.forall_mem_cons.mpr ⟨wlb_X12_house_6 _ (List.mem_of_getElem? (i := 17) rfl), (List.forall_mem_cons.mpr ⟨wlb_X12_house_6 _ (List.mem_of_getElem? (i := 18) rfl), (List.forall_mem_cons.mpr ⟨wlb_X12_house_6 _ (List.mem_of_getElem? (i := 19) rfl), (List.forall_mem_cons.mpr ⟨wlb_X12_house_6 _ (List.mem_of_getElem? (i := 20) rfl), (List.forall_mem_cons.mpr ⟨wlb_X12_house_6 _ (List.mem_of_getElem? (i := 21) rfl), (List.forall_mem_cons.mpr ⟨wlb_X12_house_6 _ (List.mem_of_getElem? (i := 22) rfl), (List.forall_mem_cons.mpr ⟨wlb_X12_house_6 _ (List.mem_of_getElem? (i := 23) rfl), (List.forall_mem_cons.mpr ⟨wlb_X12_house_0 _ (List.mem_of_getElem? (i := 18) rfl), (List.forall_mem_cons.mpr ⟨wlb_X12_house_7 _ (List.mem_of_getElem? (i := 0) rfl), (List.forall_mem_cons.mpr ⟨wlb_X12_house_7 _ (List.mem_of_getElem? (i := 1) rfl), (List.forall_mem_cons.mpr ⟨wlb_X12_house_7 _ (List.mem_of_getElem? (i := 2) rfl), (List.forall_mem_cons.mpr ⟨wlb_X12_house_7 _ (List.mem_of_getElem? (i := 3) rfl), (List.forall_mem_cons.mpr ⟨wlb_X12_house_7 _ (List.mem_of_getElem? (i := 4) rfl), (List.forall_mem_cons.mpr ⟨wlb_X12_house_7 _ (List.mem_of_getElem? (i := 5) rfl), (List.forall_mem_cons.mpr ⟨wlb_X12_house_7 _ (List.mem_of_getElem? (i := 6) rfl), (List.forall_mem_cons.mpr ⟨wlb_X12_house_7 _ (List.mem_of_getElem? (i := 7) rfl), (List.forall_mem_cons.mpr ⟨wlb_X12_house_7 _ (List.mem_of_getElem? (i := 8) rfl), (List.forall_mem_cons.mpr ⟨wlb_X12_house_7 _ (List.mem_of_getElem? (i := 9) rfl), (List.forall_mem_cons.mpr ⟨wlb_X12_house_7 _ (List.mem_of_getElem? (i := 10) rfl), (fun _ h => absurd h List.not_mem_nil)⟩)⟩)⟩)⟩)⟩)⟩)⟩)⟩)⟩)⟩)⟩)⟩)⟩)⟩)⟩)⟩)⟩)⟩)⟩)⟩)⟩)⟩)⟩)⟩)
set_option maxRecDepth 20000 in
theorem lmb_X12_house_wsX12_readLine_r8 : ∀ w ∈ wsX12_readLine_r8, w ∈ wsX12_house := (List.forall_mem_cons.mpr ⟨wlb_X12_house_7 _ (List.mem_of_getElem? (i := 11) rfl), (List.forall_mem_cons.mpr ⟨wlb_X12_house_7 _ (List.mem_of_getElem? (i := 12) rfl), (List.forall_mem_cons.mpr ⟨wlb_X12_house_7 _ (List.mem_of_getElem? (i := 13) rfl), (List.forall_mem_cons.mpr ⟨wlb_X12_house_7 _ (List.mem_of_getElem? (i := 14) rfl), (List.forall_mem_cons.mpr ⟨wlb_X12_house_7 _ (List.mem_of_getElem? (i := 15) rfl), (List.forall_mem_cons.mpr ⟨wlb_X12_house_7 _ (List.mem_of_getElem? (i := 16) rfl), (List.forall_mem_cons.mpr ⟨wlb_X12_house_7 _ (List.mem_of_getElem? (i := 17) rfl), (List.forall_mem_cons.mpr ⟨wlb_X12_house_7 _ (List.mem_of_getElem? (i := 18) rfl), (List.forall_mem_cons.mpr ⟨wlb_X12_house_7 _ (List.mem_of_getElem? (i := 19) rfl), (List.forall_mem_cons.mpr ⟨wlb_X12_house_7 _ (List.mem_of_getElem? (i := 20) rfl), (List.forall_mem_cons.mpr ⟨wlb_X12_house_7 _ (List.mem_of_getElem? (i := 21) rfl), (List.forall_mem_cons.mpr ⟨wlb_X12_house_7 _ (List.mem_of_getElem? (i := 22) rfl), (List.forall_mem_cons.mpr ⟨wlb_X12_house_7 _ (List.mem_of_getElem? (i := 23) rfl), (List.forall_mem_cons.mpr ⟨wlb_X12_house_8 _ (List.mem_of_getElem? (i := 0) rfl), (List.forall_mem_cons.mpr ⟨wlb_X12_house_8 _ (List.mem_of_getElem? (i := 1) rfl), (fun _ h => absurd h List.not_mem_nil)⟩)⟩)⟩)⟩)⟩)⟩)⟩)⟩)⟩)⟩)⟩)⟩)⟩)⟩)⟩)
theorem lgb_X12_house_wsX120 : GoodIn wsX12_house wsX120 := goodIn_sub (fun _ h => List.mem_cons_of_mem _ (List.mem_append_right _ h)) (by decide +kernel)
set_option maxRecDepth 20000 in
theorem ggX12_house_X12_readLine : GoodIn wsX12_house wsX12_readLine := (goodIn_ca (goodIn_sub (ws := Cond.code yX12_readLine cX12_readLine 3 none :: (wsX12_readLine_r1 ++ (wsX12_readLine_r2 ++ (wsX12_readLine_r3 ++ (wsX12_readLine_r4 ++ (wsX12_readLine_r5 ++ (wsX12_readLine_r6 ++ (wsX12_readLine_r7 ++ wsX12_readLine_r8)))))))) (List.forall_mem_cons.mpr ⟨wlb_X12_house_2 _ (List.mem_of_getElem? (i := 22) rfl), (lwb_app lmb_X12_house_wsX12_readLine_r1 (lwb_app lmb_X12_house_wsX12_readLine_r2 (lwb_app lmb_X12_house_wsX12_readLine_r3 (lwb_app lmb_X12_house_wsX12_readLine_r4 (lwb_app lmb_X12_house_wsX12_readLine_r5 (lwb_app lmb_X12_house_wsX12_readLine_r6 (lwb_app lmb_X12_house_wsX12_readLine_r7 lmb_X12_house_wsX12_readLine_r8)))))))⟩) (by decide +kernel)) lgb_X12_house_wsX120)
set_option maxRecDepth 20000 in
theorem gX12_house_X12_readLine : GoodIn wsX12_house (wsV RX12 283 RX12 yX12_readLine wsX12_readLine) := goodIn_app (goodIn_of _ (by decide +kernel)) ggX12_house_X12_readLine
set_option maxRecDepth 20000 in
theorem ggX12_house_X12_startAnew : GoodIn wsX12_house wsX12_startAnew := goodIn_r _ [198, 199, 137, 8, 138, 139, 20, 200, 201, 202, 203, 204, 205, 206, 207, 15, 208, 18, 209, 210, 211, 212, 213, 17, 214, 215, 216, 217, 218, 11, 219, 220, 221, 222, 223, 224, 225, 226, 227, 228, 229, 122, 230, 231, 232, 233, 123, 234, 235, 236, 237, 238, 239, 240, 241, 242, 243, 244, 245, 246, 247, 248, 249, 250, 251, 252, 253, 254, 255, 256, 257, 258, 259, 260, 261, 262, 263, 264, 265, 266, 267, 268, 269, 270, 271, 272, 273, 274, 275, 276, 277, 278, 279, 280, 281, 282, 283, 284, 285, 286, 287, 288, 289, 290, 291, 292, 293, 294, 295, 296, 297, 298, 299, 300, 301, 302, 303, 304, 305, 306, 307, 308] (by decide +kernel) (by decide +kernel)
set_option maxRecDepth 20000 in
theorem gX12_house_X12_startAnew : GoodIn wsX12_house (wsV RX12 170 RX12 yX12_startAnew wsX12_startAnew) := goodIn_app (goodIn_of _ (by decide +kernel)) ggX12_house_X12_startAnew
theorem iw_X12_layTours_X12 : ∀ w ∈ wsX120, w ∈ wsX12_layTours := fun _ h => List.mem_cons_of_mem _ (List.mem_append_right _ h)
theorem iw_X12_tour_X12 : ∀ w ∈ wsX120, w ∈ wsX12_tour := fun _ h => List.mem_cons_of_mem _ (List.mem_append_right _ h)
theorem iw_X12_house_X12 : ∀ w ∈ wsX120, w ∈ wsX12_house := fun _ h => List.mem_cons_of_mem _ (List.mem_append_right _ h)
