def wsX12_clearBank : List Cond := .code yX12_clearBank cX12_clearBank 1 none :: ([.fieldLink RX12 20 "SoldHouseModel" "rooms" "[I", .fieldLink RX12 271 "SoldHouseModel" "rb" "I", .fieldLink RX12 24 "SoldHouseModel" "doors" "[I", .fieldLink RX12 27 "SoldHouseModel" "things" "[I", .fieldLink RX12 30 "SoldHouseModel" "units" "[I", .fieldLink RX12 33 "SoldHouseModel" "draw" "[I", .fieldLink RX12 66 "SoldHouseModel" "hasSure" "[Z", .fieldLink RX12 70 "SoldHouseModel" "isDraw" "[Z", .fieldLink RX12 274 "SoldHouseModel" "codes" "I"] ++ wsX120)
def wsX12_isFull : List Cond := .code yX12_isFull cX12_isFull 1 (some .boolean) :: ([.constantLong RX12 179 (1919905645), .fieldLink RX12 20 "SoldHouseModel" "rooms" "[I", .fieldLink RX12 271 "SoldHouseModel" "rb" "I", .constantLong RX12 183 (1685024626), .fieldLink RX12 24 "SoldHouseModel" "doors" "[I", .constantLong RX12 185 (499967946343), .fieldLink RX12 27 "SoldHouseModel" "things" "[I", .constantLong RX12 197 (1937076837), .fieldLink RX12 66 "SoldHouseModel" "hasSure" "[Z", .constantLong RX12 199 (1685217655), .fieldLink RX12 70 "SoldHouseModel" "isDraw" "[Z", .methodLink RX12 261 yX12_isWord, .instanceMethod yX12_isWord, .selects RX12 yX12_isWord yX12_isWord, .initialized RX12, .code yX12_isWord cX12_isWord 3 (some .boolean), .fieldLink RX12 223 "SoldHouseModel" "token" "I", .fieldLink RX12 230 "SoldHouseModel" "name" "J"] ++ wsX120)
def wsX12_here : List Cond := .code yX12_here cX12_here 5 (some .int) :: ([.fieldLink RX12 223 "SoldHouseModel" "token" "I", .fieldLink RX12 230 "SoldHouseModel" "name" "J"] ++ wsX120)
def wsX12_roomHere : List Cond := .code yX12_roomHere cX12_roomHere 1 (some .int) :: ([.fieldLink RX12 73 "SoldHouseModel" "rName" "[J", .fieldLink RX12 271 "SoldHouseModel" "rb" "I", .fieldLink RX12 20 "SoldHouseModel" "rooms" "[I", .methodLink RX12 309 yX12_here, .instanceMethod yX12_here, .selects RX12 yX12_here yX12_here, .initialized RX12, .code yX12_here cX12_here 5 (some .int), .fieldLink RX12 223 "SoldHouseModel" "token" "I", .fieldLink RX12 230 "SoldHouseModel" "name" "J"] ++ wsX120)
def wsX12_fresh_r1 : List Cond := [Cond.fieldLink RX12 223 "SoldHouseModel" "token" "I", Cond.fieldLink RX12 216 "SoldHouseModel" "at" "I", Cond.fieldLink RX12 230 "SoldHouseModel" "name" "J", Cond.methodLink RX12 251 yX12_isGood, Cond.instanceMethod yX12_isGood, Cond.selects RX12 yX12_isGood yX12_isGood, Cond.initialized RX12, Cond.code yX12_isGood cX12_isGood 1 (some .boolean), Cond.fieldLink RX12 176 "SoldHouseModel" "faultKind" "I", Cond.methodLink RX12 258 yX12_misplaced, Cond.instanceMethod yX12_misplaced, Cond.selects RX12 yX12_misplaced yX12_misplaced, Cond.code yX12_misplaced cX12_misplaced 1 none, Cond.methodLink RX12 247 yX12_fails, Cond.instanceMethod yX12_fails, Cond.selects RX12 yX12_fails yX12_fails, Cond.code yX12_fails cX12_fails 3 none, Cond.fieldLink RX12 16 "SoldHouseModel" "faultPlace" "I", Cond.methodLink RX12 255 yX12_goOn, Cond.instanceMethod yX12_goOn, Cond.selects RX12 yX12_goOn yX12_goOn, Cond.code yX12_goOn cX12_goOn 3 none, Cond.fieldLink RX12 213 "SoldHouseModel" "end" "I", Cond.fieldLink RX12 173 "SoldHouseModel" "size" "I"]
def wsX12_fresh_r2 : List Cond := [Cond.fieldLink RX12 241 "SoldHouseModel" "number" "I", Cond.methodLink RX12 219 yX12_sign, Cond.instanceMethod yX12_sign, Cond.selects RX12 yX12_sign yX12_sign, Cond.code yX12_sign cX12_sign 2 (some .int), Cond.fieldLink RX12 13 "SoldHouseModel" "text" "[B", Cond.methodLink RX12 226 yX12_isLetter, Cond.static yX12_isLetter, Cond.code yX12_isLetter cX12_isLetter 1 (some .boolean), Cond.methodLink RX12 234 yX12_isKept, Cond.static yX12_isKept, Cond.code yX12_isKept cX12_isKept 3 (some .boolean), Cond.constantLong RX12 179 (1919905645), Cond.constantLong RX12 181 (109342978304883), Cond.constantLong RX12 183 (1685024626), Cond.constantLong RX12 185 (499967946343), Cond.constantLong RX12 187 (26990), Cond.constantLong RX12 189 (7823731), Cond.constantLong RX12 191 (1869967987), Cond.constantLong RX12 193 (30067), Cond.constantLong RX12 195 (1952998765), Cond.constantLong RX12 197 (1937076837), Cond.constantLong RX12 199 (1685217655), Cond.constantLong RX12 201 (6709618)]
def wsX12_fresh_r3 : List Cond := [Cond.constantLong RX12 203 (1953459300), Cond.constantLong RX12 205 (6578553), Cond.constantLong RX12 207 (28530), Cond.constantLong RX12 209 (6385252), Cond.constantLong RX12 211 (7237492), Cond.methodLink RX12 238 yX12_isDigit, Cond.static yX12_isDigit, Cond.code yX12_isDigit cX12_isDigit 1 (some .boolean), Cond.methodLink RX12 244 yX12_isSign, Cond.static yX12_isSign, Cond.code yX12_isSign cX12_isSign 1 (some .boolean)]
def wsX12_fresh : List Cond := .code yX12_fresh cX12_fresh 4 (some .long) :: ((wsX12_fresh_r1 ++ (wsX12_fresh_r2 ++ wsX12_fresh_r3)) ++ wsX120)
def wsX12_known_r1 : List Cond := [Cond.fieldLink RX12 223 "SoldHouseModel" "token" "I", Cond.fieldLink RX12 216 "SoldHouseModel" "at" "I", Cond.methodLink RX12 251 yX12_isGood, Cond.instanceMethod yX12_isGood, Cond.selects RX12 yX12_isGood yX12_isGood, Cond.initialized RX12, Cond.code yX12_isGood cX12_isGood 1 (some .boolean), Cond.fieldLink RX12 176 "SoldHouseModel" "faultKind" "I", Cond.methodLink RX12 258 yX12_misplaced, Cond.instanceMethod yX12_misplaced, Cond.selects RX12 yX12_misplaced yX12_misplaced, Cond.code yX12_misplaced cX12_misplaced 1 none, Cond.methodLink RX12 247 yX12_fails, Cond.instanceMethod yX12_fails, Cond.selects RX12 yX12_fails yX12_fails, Cond.code yX12_fails cX12_fails 3 none, Cond.fieldLink RX12 16 "SoldHouseModel" "faultPlace" "I", Cond.methodLink RX12 255 yX12_goOn, Cond.instanceMethod yX12_goOn, Cond.selects RX12 yX12_goOn yX12_goOn, Cond.code yX12_goOn cX12_goOn 3 none, Cond.fieldLink RX12 213 "SoldHouseModel" "end" "I", Cond.fieldLink RX12 173 "SoldHouseModel" "size" "I", Cond.fieldLink RX12 230 "SoldHouseModel" "name" "J"]
def wsX12_known_r2 : List Cond := [Cond.fieldLink RX12 241 "SoldHouseModel" "number" "I", Cond.methodLink RX12 219 yX12_sign, Cond.instanceMethod yX12_sign, Cond.selects RX12 yX12_sign yX12_sign, Cond.code yX12_sign cX12_sign 2 (some .int), Cond.fieldLink RX12 13 "SoldHouseModel" "text" "[B", Cond.methodLink RX12 226 yX12_isLetter, Cond.static yX12_isLetter, Cond.code yX12_isLetter cX12_isLetter 1 (some .boolean), Cond.methodLink RX12 234 yX12_isKept, Cond.static yX12_isKept, Cond.code yX12_isKept cX12_isKept 3 (some .boolean), Cond.constantLong RX12 179 (1919905645), Cond.constantLong RX12 181 (109342978304883), Cond.constantLong RX12 183 (1685024626), Cond.constantLong RX12 185 (499967946343), Cond.constantLong RX12 187 (26990), Cond.constantLong RX12 189 (7823731), Cond.constantLong RX12 191 (1869967987), Cond.constantLong RX12 193 (30067), Cond.constantLong RX12 195 (1952998765), Cond.constantLong RX12 197 (1937076837), Cond.constantLong RX12 199 (1685217655), Cond.constantLong RX12 201 (6709618)]
def wsX12_known_r3 : List Cond := [Cond.constantLong RX12 203 (1953459300), Cond.constantLong RX12 205 (6578553), Cond.constantLong RX12 207 (28530), Cond.constantLong RX12 209 (6385252), Cond.constantLong RX12 211 (7237492), Cond.methodLink RX12 238 yX12_isDigit, Cond.static yX12_isDigit, Cond.code yX12_isDigit cX12_isDigit 1 (some .boolean), Cond.methodLink RX12 244 yX12_isSign, Cond.static yX12_isSign, Cond.code yX12_isSign cX12_isSign 1 (some .boolean)]
def wsX12_known : List Cond := .code yX12_known cX12_known 2 (some .int) :: ((wsX12_known_r1 ++ (wsX12_known_r2 ++ wsX12_known_r3)) ++ wsX120)
def wsX12_readRoom_r1 : List Cond := [Cond.fieldLink RX12 271 "SoldHouseModel" "rb" "I", Cond.fieldLink RX12 20 "SoldHouseModel" "rooms" "[I", Cond.fieldLink RX12 73 "SoldHouseModel" "rName" "[J", Cond.fieldLink RX12 36 "SoldHouseModel" "creaks" "[I", Cond.constantLong RX12 181 (109342978304883), Cond.methodLink RX12 313 yX12_roomHere, Cond.instanceMethod yX12_roomHere, Cond.selects RX12 yX12_roomHere yX12_roomHere, Cond.initialized RX12, Cond.code yX12_roomHere cX12_roomHere 1 (some .int), Cond.methodLink RX12 309 yX12_here, Cond.instanceMethod yX12_here, Cond.selects RX12 yX12_here yX12_here, Cond.code yX12_here cX12_here 5 (some .int), Cond.fieldLink RX12 223 "SoldHouseModel" "token" "I", Cond.fieldLink RX12 230 "SoldHouseModel" "name" "J", Cond.methodLink RX12 317 yX12_fresh, Cond.instanceMethod yX12_fresh, Cond.selects RX12 yX12_fresh yX12_fresh, Cond.code yX12_fresh cX12_fresh 4 (some .long), Cond.fieldLink RX12 216 "SoldHouseModel" "at" "I", Cond.methodLink RX12 251 yX12_isGood, Cond.instanceMethod yX12_isGood, Cond.selects RX12 yX12_isGood yX12_isGood]
def wsX12_readRoom_r2 : List Cond := [Cond.code yX12_isGood cX12_isGood 1 (some .boolean), Cond.fieldLink RX12 176 "SoldHouseModel" "faultKind" "I", Cond.methodLink RX12 258 yX12_misplaced, Cond.instanceMethod yX12_misplaced, Cond.selects RX12 yX12_misplaced yX12_misplaced, Cond.code yX12_misplaced cX12_misplaced 1 none, Cond.methodLink RX12 247 yX12_fails, Cond.instanceMethod yX12_fails, Cond.selects RX12 yX12_fails yX12_fails, Cond.code yX12_fails cX12_fails 3 none, Cond.fieldLink RX12 16 "SoldHouseModel" "faultPlace" "I", Cond.methodLink RX12 255 yX12_goOn, Cond.instanceMethod yX12_goOn, Cond.selects RX12 yX12_goOn yX12_goOn, Cond.code yX12_goOn cX12_goOn 3 none, Cond.fieldLink RX12 213 "SoldHouseModel" "end" "I", Cond.fieldLink RX12 173 "SoldHouseModel" "size" "I", Cond.fieldLink RX12 241 "SoldHouseModel" "number" "I", Cond.methodLink RX12 219 yX12_sign, Cond.instanceMethod yX12_sign, Cond.selects RX12 yX12_sign yX12_sign, Cond.code yX12_sign cX12_sign 2 (some .int), Cond.fieldLink RX12 13 "SoldHouseModel" "text" "[B", Cond.methodLink RX12 226 yX12_isLetter]
def wsX12_readRoom_r3 : List Cond := [Cond.static yX12_isLetter, Cond.code yX12_isLetter cX12_isLetter 1 (some .boolean), Cond.methodLink RX12 234 yX12_isKept, Cond.static yX12_isKept, Cond.code yX12_isKept cX12_isKept 3 (some .boolean), Cond.constantLong RX12 179 (1919905645), Cond.constantLong RX12 183 (1685024626), Cond.constantLong RX12 185 (499967946343), Cond.constantLong RX12 187 (26990), Cond.constantLong RX12 189 (7823731), Cond.constantLong RX12 191 (1869967987), Cond.constantLong RX12 193 (30067), Cond.constantLong RX12 195 (1952998765), Cond.constantLong RX12 197 (1937076837), Cond.constantLong RX12 199 (1685217655), Cond.constantLong RX12 201 (6709618), Cond.constantLong RX12 203 (1953459300), Cond.constantLong RX12 205 (6578553), Cond.constantLong RX12 207 (28530), Cond.constantLong RX12 209 (6385252), Cond.constantLong RX12 211 (7237492), Cond.methodLink RX12 238 yX12_isDigit, Cond.static yX12_isDigit, Cond.code yX12_isDigit cX12_isDigit 1 (some .boolean)]
def wsX12_readRoom_r4 : List Cond := [Cond.methodLink RX12 244 yX12_isSign, Cond.static yX12_isSign, Cond.code yX12_isSign cX12_isSign 1 (some .boolean), Cond.methodLink RX12 321 yX12_perhaps, Cond.instanceMethod yX12_perhaps, Cond.selects RX12 yX12_perhaps yX12_perhaps, Cond.code yX12_perhaps cX12_perhaps 4 (some .int), Cond.methodLink RX12 264 yX12_passes, Cond.instanceMethod yX12_passes, Cond.selects RX12 yX12_passes yX12_passes, Cond.code yX12_passes cX12_passes 4 (some .boolean), Cond.methodLink RX12 261 yX12_isWord, Cond.instanceMethod yX12_isWord, Cond.selects RX12 yX12_isWord yX12_isWord, Cond.code yX12_isWord cX12_isWord 3 (some .boolean), Cond.methodLink RX12 267 yX12_numeral, Cond.instanceMethod yX12_numeral, Cond.selects RX12 yX12_numeral yX12_numeral, Cond.code yX12_numeral cX12_numeral 4 (some .int)]
def wsX12_readRoom : List Cond := .code yX12_readRoom cX12_readRoom 2 none :: ((wsX12_readRoom_r1 ++ (wsX12_readRoom_r2 ++ (wsX12_readRoom_r3 ++ wsX12_readRoom_r4))) ++ wsX120)
def wsX12_isDoor : List Cond := .code yX12_isDoor cX12_isDoor 5 (some .boolean) :: ([.fieldLink RX12 24 "SoldHouseModel" "doors" "[I", .fieldLink RX12 271 "SoldHouseModel" "rb" "I", .fieldLink RX12 39 "SoldHouseModel" "one" "[I", .fieldLink RX12 42 "SoldHouseModel" "other" "[I"] ++ wsX120)
def wsX12_readDoor_r1 : List Cond := [Cond.fieldLink RX12 271 "SoldHouseModel" "rb" "I", Cond.fieldLink RX12 24 "SoldHouseModel" "doors" "[I", Cond.fieldLink RX12 39 "SoldHouseModel" "one" "[I", Cond.fieldLink RX12 216 "SoldHouseModel" "at" "I", Cond.fieldLink RX12 42 "SoldHouseModel" "other" "[I", Cond.methodLink RX12 313 yX12_roomHere, Cond.instanceMethod yX12_roomHere, Cond.selects RX12 yX12_roomHere yX12_roomHere, Cond.initialized RX12, Cond.code yX12_roomHere cX12_roomHere 1 (some .int), Cond.fieldLink RX12 73 "SoldHouseModel" "rName" "[J", Cond.fieldLink RX12 20 "SoldHouseModel" "rooms" "[I", Cond.methodLink RX12 309 yX12_here, Cond.instanceMethod yX12_here, Cond.selects RX12 yX12_here yX12_here, Cond.code yX12_here cX12_here 5 (some .int), Cond.fieldLink RX12 223 "SoldHouseModel" "token" "I", Cond.fieldLink RX12 230 "SoldHouseModel" "name" "J", Cond.methodLink RX12 325 yX12_known, Cond.instanceMethod yX12_known, Cond.selects RX12 yX12_known yX12_known, Cond.code yX12_known cX12_known 2 (some .int), Cond.methodLink RX12 251 yX12_isGood, Cond.instanceMethod yX12_isGood]
def wsX12_readDoor_r2 : List Cond := [Cond.selects RX12 yX12_isGood yX12_isGood, Cond.code yX12_isGood cX12_isGood 1 (some .boolean), Cond.fieldLink RX12 176 "SoldHouseModel" "faultKind" "I", Cond.methodLink RX12 258 yX12_misplaced, Cond.instanceMethod yX12_misplaced, Cond.selects RX12 yX12_misplaced yX12_misplaced, Cond.code yX12_misplaced cX12_misplaced 1 none, Cond.methodLink RX12 247 yX12_fails, Cond.instanceMethod yX12_fails, Cond.selects RX12 yX12_fails yX12_fails, Cond.code yX12_fails cX12_fails 3 none, Cond.fieldLink RX12 16 "SoldHouseModel" "faultPlace" "I", Cond.methodLink RX12 255 yX12_goOn, Cond.instanceMethod yX12_goOn, Cond.selects RX12 yX12_goOn yX12_goOn, Cond.code yX12_goOn cX12_goOn 3 none, Cond.fieldLink RX12 213 "SoldHouseModel" "end" "I", Cond.fieldLink RX12 173 "SoldHouseModel" "size" "I", Cond.fieldLink RX12 241 "SoldHouseModel" "number" "I", Cond.methodLink RX12 219 yX12_sign, Cond.instanceMethod yX12_sign, Cond.selects RX12 yX12_sign yX12_sign, Cond.code yX12_sign cX12_sign 2 (some .int), Cond.fieldLink RX12 13 "SoldHouseModel" "text" "[B"]
def wsX12_readDoor_r3 : List Cond := [Cond.methodLink RX12 226 yX12_isLetter, Cond.static yX12_isLetter, Cond.code yX12_isLetter cX12_isLetter 1 (some .boolean), Cond.methodLink RX12 234 yX12_isKept, Cond.static yX12_isKept, Cond.code yX12_isKept cX12_isKept 3 (some .boolean), Cond.constantLong RX12 179 (1919905645), Cond.constantLong RX12 181 (109342978304883), Cond.constantLong RX12 183 (1685024626), Cond.constantLong RX12 185 (499967946343), Cond.constantLong RX12 187 (26990), Cond.constantLong RX12 189 (7823731), Cond.constantLong RX12 191 (1869967987), Cond.constantLong RX12 193 (30067), Cond.constantLong RX12 195 (1952998765), Cond.constantLong RX12 197 (1937076837), Cond.constantLong RX12 199 (1685217655), Cond.constantLong RX12 201 (6709618), Cond.constantLong RX12 203 (1953459300), Cond.constantLong RX12 205 (6578553), Cond.constantLong RX12 207 (28530), Cond.constantLong RX12 209 (6385252), Cond.constantLong RX12 211 (7237492), Cond.methodLink RX12 238 yX12_isDigit]
def wsX12_readDoor_r4 : List Cond := [Cond.static yX12_isDigit, Cond.code yX12_isDigit cX12_isDigit 1 (some .boolean), Cond.methodLink RX12 244 yX12_isSign, Cond.static yX12_isSign, Cond.code yX12_isSign cX12_isSign 1 (some .boolean), Cond.methodLink RX12 328 yX12_isDoor, Cond.instanceMethod yX12_isDoor, Cond.selects RX12 yX12_isDoor yX12_isDoor, Cond.code yX12_isDoor cX12_isDoor 5 (some .boolean)]
def wsX12_readDoor : List Cond := .code yX12_readDoor cX12_readDoor 3 none :: ((wsX12_readDoor_r1 ++ (wsX12_readDoor_r2 ++ (wsX12_readDoor_r3 ++ wsX12_readDoor_r4))) ++ wsX120)
def wsX12_readThing_r1 : List Cond := [Cond.fieldLink RX12 271 "SoldHouseModel" "rb" "I", Cond.fieldLink RX12 27 "SoldHouseModel" "things" "[I", Cond.fieldLink RX12 77 "SoldHouseModel" "tName" "[J", Cond.constantLong RX12 187 (26990), Cond.fieldLink RX12 45 "SoldHouseModel" "inTold" "[I", Cond.fieldLink RX12 48 "SoldHouseModel" "wasTold" "[I", Cond.constantLong RX12 189 (7823731), Cond.fieldLink RX12 51 "SoldHouseModel" "isOurs" "[I", Cond.constantLong RX12 191 (1869967987), Cond.fieldLink RX12 54 "SoldHouseModel" "toUs" "[I", Cond.constantLong RX12 193 (30067), Cond.fieldLink RX12 57 "SoldHouseModel" "toThem" "[I", Cond.constantLong RX12 195 (1952998765), Cond.methodLink RX12 309 yX12_here, Cond.instanceMethod yX12_here, Cond.selects RX12 yX12_here yX12_here, Cond.initialized RX12, Cond.code yX12_here cX12_here 5 (some .int), Cond.fieldLink RX12 223 "SoldHouseModel" "token" "I", Cond.fieldLink RX12 230 "SoldHouseModel" "name" "J", Cond.methodLink RX12 317 yX12_fresh, Cond.instanceMethod yX12_fresh, Cond.selects RX12 yX12_fresh yX12_fresh, Cond.code yX12_fresh cX12_fresh 4 (some .long)]
def wsX12_readThing_r2 : List Cond := [Cond.fieldLink RX12 216 "SoldHouseModel" "at" "I", Cond.methodLink RX12 251 yX12_isGood, Cond.instanceMethod yX12_isGood, Cond.selects RX12 yX12_isGood yX12_isGood, Cond.code yX12_isGood cX12_isGood 1 (some .boolean), Cond.fieldLink RX12 176 "SoldHouseModel" "faultKind" "I", Cond.methodLink RX12 258 yX12_misplaced, Cond.instanceMethod yX12_misplaced, Cond.selects RX12 yX12_misplaced yX12_misplaced, Cond.code yX12_misplaced cX12_misplaced 1 none, Cond.methodLink RX12 247 yX12_fails, Cond.instanceMethod yX12_fails, Cond.selects RX12 yX12_fails yX12_fails, Cond.code yX12_fails cX12_fails 3 none, Cond.fieldLink RX12 16 "SoldHouseModel" "faultPlace" "I", Cond.methodLink RX12 255 yX12_goOn, Cond.instanceMethod yX12_goOn, Cond.selects RX12 yX12_goOn yX12_goOn, Cond.code yX12_goOn cX12_goOn 3 none, Cond.fieldLink RX12 213 "SoldHouseModel" "end" "I", Cond.fieldLink RX12 173 "SoldHouseModel" "size" "I", Cond.fieldLink RX12 241 "SoldHouseModel" "number" "I", Cond.methodLink RX12 219 yX12_sign, Cond.instanceMethod yX12_sign]
def wsX12_readThing_r3 : List Cond := [Cond.selects RX12 yX12_sign yX12_sign, Cond.code yX12_sign cX12_sign 2 (some .int), Cond.fieldLink RX12 13 "SoldHouseModel" "text" "[B", Cond.methodLink RX12 226 yX12_isLetter, Cond.static yX12_isLetter, Cond.code yX12_isLetter cX12_isLetter 1 (some .boolean), Cond.methodLink RX12 234 yX12_isKept, Cond.static yX12_isKept, Cond.code yX12_isKept cX12_isKept 3 (some .boolean), Cond.constantLong RX12 179 (1919905645), Cond.constantLong RX12 181 (109342978304883), Cond.constantLong RX12 183 (1685024626), Cond.constantLong RX12 185 (499967946343), Cond.constantLong RX12 197 (1937076837), Cond.constantLong RX12 199 (1685217655), Cond.constantLong RX12 201 (6709618), Cond.constantLong RX12 203 (1953459300), Cond.constantLong RX12 205 (6578553), Cond.constantLong RX12 207 (28530), Cond.constantLong RX12 209 (6385252), Cond.constantLong RX12 211 (7237492), Cond.methodLink RX12 238 yX12_isDigit, Cond.static yX12_isDigit, Cond.code yX12_isDigit cX12_isDigit 1 (some .boolean)]
def wsX12_readThing_r4 : List Cond := [Cond.methodLink RX12 244 yX12_isSign, Cond.static yX12_isSign, Cond.code yX12_isSign cX12_isSign 1 (some .boolean), Cond.methodLink RX12 261 yX12_isWord, Cond.instanceMethod yX12_isWord, Cond.selects RX12 yX12_isWord yX12_isWord, Cond.code yX12_isWord cX12_isWord 3 (some .boolean), Cond.methodLink RX12 305 yX12_must, Cond.instanceMethod yX12_must, Cond.selects RX12 yX12_must yX12_must, Cond.code yX12_must cX12_must 2 none, Cond.methodLink RX12 313 yX12_roomHere, Cond.instanceMethod yX12_roomHere, Cond.selects RX12 yX12_roomHere yX12_roomHere, Cond.code yX12_roomHere cX12_roomHere 1 (some .int), Cond.fieldLink RX12 73 "SoldHouseModel" "rName" "[J", Cond.fieldLink RX12 20 "SoldHouseModel" "rooms" "[I", Cond.methodLink RX12 325 yX12_known, Cond.instanceMethod yX12_known, Cond.selects RX12 yX12_known yX12_known, Cond.code yX12_known cX12_known 2 (some .int), Cond.methodLink RX12 264 yX12_passes, Cond.instanceMethod yX12_passes, Cond.selects RX12 yX12_passes yX12_passes]
def wsX12_readThing_r5 : List Cond := [Cond.code yX12_passes cX12_passes 4 (some .boolean), Cond.methodLink RX12 321 yX12_perhaps, Cond.instanceMethod yX12_perhaps, Cond.selects RX12 yX12_perhaps yX12_perhaps, Cond.code yX12_perhaps cX12_perhaps 4 (some .int), Cond.methodLink RX12 267 yX12_numeral, Cond.instanceMethod yX12_numeral, Cond.selects RX12 yX12_numeral yX12_numeral, Cond.code yX12_numeral cX12_numeral 4 (some .int)]
def wsX12_readThing : List Cond := .code yX12_readThing cX12_readThing 2 none :: ((wsX12_readThing_r1 ++ (wsX12_readThing_r2 ++ (wsX12_readThing_r3 ++ (wsX12_readThing_r4 ++ wsX12_readThing_r5)))) ++ wsX120)
def wsX12_emit : List Cond := .code yX12_emit cX12_emit 3 none :: ([.fieldLink RX12 80 "SoldHouseModel" "code" "[I", .fieldLink RX12 274 "SoldHouseModel" "codes" "I", .fieldLink RX12 83 "SoldHouseModel" "codeNumber" "[I"] ++ wsX120)
def wsX12_pushE : List Cond := .code yX12_pushE cX12_pushE 3 none :: ([.fieldLink RX12 86 "SoldHouseModel" "eWhat" "[I", .fieldLink RX12 338 "SoldHouseModel" "piled" "I", .fieldLink RX12 89 "SoldHouseModel" "eSign" "[I"] ++ wsX120)
def wsX12_wordHere : List Cond := .code yX12_wordHere cX12_wordHere 1 (some .int) :: ([.constantLong RX12 193 (30067), .constantLong RX12 195 (1952998765), .constantLong RX12 201 (6709618), .constantLong RX12 203 (1953459300), .constantLong RX12 205 (6578553), .methodLink RX12 261 yX12_isWord, .instanceMethod yX12_isWord, .selects RX12 yX12_isWord yX12_isWord, .initialized RX12, .code yX12_isWord cX12_isWord 3 (some .boolean), .fieldLink RX12 223 "SoldHouseModel" "token" "I", .fieldLink RX12 230 "SoldHouseModel" "name" "J"] ++ wsX120)
def wsX12_rankHere : List Cond := .code yX12_rankHere cX12_rankHere 1 (some .int) :: ([.constantLong RX12 209 (6385252), .constantLong RX12 207 (28530), .methodLink RX12 261 yX12_isWord, .instanceMethod yX12_isWord, .selects RX12 yX12_isWord yX12_isWord, .initialized RX12, .code yX12_isWord cX12_isWord 3 (some .boolean), .fieldLink RX12 223 "SoldHouseModel" "token" "I", .fieldLink RX12 230 "SoldHouseModel" "name" "J", .methodLink RX12 302 yX12_isSignHere, .instanceMethod yX12_isSignHere, .selects RX12 yX12_isSignHere yX12_isSignHere, .code yX12_isSignHere cX12_isSignHere 2 (some .boolean), .fieldLink RX12 216 "SoldHouseModel" "at" "I", .methodLink RX12 219 yX12_sign, .instanceMethod yX12_sign, .selects RX12 yX12_sign yX12_sign, .code yX12_sign cX12_sign 2 (some .int), .fieldLink RX12 173 "SoldHouseModel" "size" "I", .fieldLink RX12 13 "SoldHouseModel" "text" "[B"] ++ wsX120)
def wsX12_isCompared : List Cond := .code yX12_isCompared cX12_isCompared 2 (some .boolean) :: ([.fieldLink RX12 338 "SoldHouseModel" "piled" "I", .fieldLink RX12 86 "SoldHouseModel" "eWhat" "[I"] ++ wsX120)
theorem dX12_clearBank_0 : decode cX12_clearBank 0 = .ok (.aload_n 0, 1) := by decide +kernel
theorem dX12_clearBank_1 : decode cX12_clearBank 1 = .ok (.getfield 20, 3) := by decide +kernel
theorem dX12_clearBank_4 : decode cX12_clearBank 4 = .ok (.aload_n 0, 1) := by decide +kernel
theorem dX12_clearBank_5 : decode cX12_clearBank 5 = .ok (.getfield 271, 3) := by decide +kernel
theorem dX12_clearBank_8 : decode cX12_clearBank 8 = .ok (.iconst 0, 1) := by decide +kernel
theorem dX12_clearBank_9 : decode cX12_clearBank 9 = .ok (.iastore, 1) := by decide +kernel
theorem dX12_clearBank_10 : decode cX12_clearBank 10 = .ok (.aload_n 0, 1) := by decide +kernel
theorem dX12_clearBank_11 : decode cX12_clearBank 11 = .ok (.getfield 24, 3) := by decide +kernel
theorem dX12_clearBank_14 : decode cX12_clearBank 14 = .ok (.aload_n 0, 1) := by decide +kernel
theorem dX12_clearBank_15 : decode cX12_clearBank 15 = .ok (.getfield 271, 3) := by decide +kernel
theorem dX12_clearBank_18 : decode cX12_clearBank 18 = .ok (.iconst 0, 1) := by decide +kernel
theorem dX12_clearBank_19 : decode cX12_clearBank 19 = .ok (.iastore, 1) := by decide +kernel
theorem dX12_clearBank_20 : decode cX12_clearBank 20 = .ok (.aload_n 0, 1) := by decide +kernel
theorem dX12_clearBank_21 : decode cX12_clearBank 21 = .ok (.getfield 27, 3) := by decide +kernel
theorem dX12_clearBank_24 : decode cX12_clearBank 24 = .ok (.aload_n 0, 1) := by decide +kernel
theorem dX12_clearBank_25 : decode cX12_clearBank 25 = .ok (.getfield 271, 3) := by decide +kernel
theorem dX12_clearBank_28 : decode cX12_clearBank 28 = .ok (.iconst 0, 1) := by decide +kernel
theorem dX12_clearBank_29 : decode cX12_clearBank 29 = .ok (.iastore, 1) := by decide +kernel
theorem dX12_clearBank_30 : decode cX12_clearBank 30 = .ok (.aload_n 0, 1) := by decide +kernel
theorem dX12_clearBank_31 : decode cX12_clearBank 31 = .ok (.getfield 30, 3) := by decide +kernel
theorem dX12_clearBank_34 : decode cX12_clearBank 34 = .ok (.aload_n 0, 1) := by decide +kernel
theorem dX12_clearBank_35 : decode cX12_clearBank 35 = .ok (.getfield 271, 3) := by decide +kernel
theorem dX12_clearBank_38 : decode cX12_clearBank 38 = .ok (.iconst 0, 1) := by decide +kernel
theorem dX12_clearBank_39 : decode cX12_clearBank 39 = .ok (.iastore, 1) := by decide +kernel
theorem dX12_clearBank_40 : decode cX12_clearBank 40 = .ok (.aload_n 0, 1) := by decide +kernel
theorem dX12_clearBank_41 : decode cX12_clearBank 41 = .ok (.getfield 33, 3) := by decide +kernel
theorem dX12_clearBank_44 : decode cX12_clearBank 44 = .ok (.aload_n 0, 1) := by decide +kernel
theorem dX12_clearBank_45 : decode cX12_clearBank 45 = .ok (.getfield 271, 3) := by decide +kernel
theorem dX12_clearBank_48 : decode cX12_clearBank 48 = .ok (.iconst 0, 1) := by decide +kernel
theorem dX12_clearBank_49 : decode cX12_clearBank 49 = .ok (.iastore, 1) := by decide +kernel
theorem dX12_clearBank_50 : decode cX12_clearBank 50 = .ok (.aload_n 0, 1) := by decide +kernel
theorem dX12_clearBank_51 : decode cX12_clearBank 51 = .ok (.getfield 66, 3) := by decide +kernel
theorem dX12_clearBank_54 : decode cX12_clearBank 54 = .ok (.aload_n 0, 1) := by decide +kernel
theorem dX12_clearBank_55 : decode cX12_clearBank 55 = .ok (.getfield 271, 3) := by decide +kernel
theorem dX12_clearBank_58 : decode cX12_clearBank 58 = .ok (.iconst 0, 1) := by decide +kernel
theorem dX12_clearBank_59 : decode cX12_clearBank 59 = .ok (.bastore, 1) := by decide +kernel
theorem dX12_clearBank_60 : decode cX12_clearBank 60 = .ok (.aload_n 0, 1) := by decide +kernel
theorem dX12_clearBank_61 : decode cX12_clearBank 61 = .ok (.getfield 70, 3) := by decide +kernel
theorem dX12_clearBank_64 : decode cX12_clearBank 64 = .ok (.aload_n 0, 1) := by decide +kernel
theorem dX12_clearBank_65 : decode cX12_clearBank 65 = .ok (.getfield 271, 3) := by decide +kernel
theorem dX12_clearBank_68 : decode cX12_clearBank 68 = .ok (.iconst 0, 1) := by decide +kernel
theorem dX12_clearBank_69 : decode cX12_clearBank 69 = .ok (.bastore, 1) := by decide +kernel
theorem dX12_clearBank_70 : decode cX12_clearBank 70 = .ok (.aload_n 0, 1) := by decide +kernel
theorem dX12_clearBank_71 : decode cX12_clearBank 71 = .ok (.sipush 560, 3) := by decide +kernel
theorem dX12_clearBank_74 : decode cX12_clearBank 74 = .ok (.aload_n 0, 1) := by decide +kernel
theorem dX12_clearBank_75 : decode cX12_clearBank 75 = .ok (.getfield 271, 3) := by decide +kernel
theorem dX12_clearBank_78 : decode cX12_clearBank 78 = .ok (.imul, 1) := by decide +kernel
theorem dX12_clearBank_79 : decode cX12_clearBank 79 = .ok (.putfield 274, 3) := by decide +kernel
theorem dX12_clearBank_82 : decode cX12_clearBank 82 = .ok (.return_, 1) := by decide +kernel
theorem dX12_isFull_0 : decode cX12_isFull 0 = .ok (.aload_n 0, 1) := by decide +kernel
theorem dX12_isFull_1 : decode cX12_isFull 1 = .ok (.ldc2_w 179, 3) := by decide +kernel
theorem dX12_isFull_4 : decode cX12_isFull 4 = .ok (.invokevirtual 261, 3) := by decide +kernel
theorem dX12_isFull_7 : decode cX12_isFull 7 = .ok (.ifCond .eq 23, 3) := by decide +kernel
theorem dX12_isFull_10 : decode cX12_isFull 10 = .ok (.aload_n 0, 1) := by decide +kernel
theorem dX12_isFull_11 : decode cX12_isFull 11 = .ok (.getfield 20, 3) := by decide +kernel
theorem dX12_isFull_14 : decode cX12_isFull 14 = .ok (.aload_n 0, 1) := by decide +kernel
theorem dX12_isFull_15 : decode cX12_isFull 15 = .ok (.getfield 271, 3) := by decide +kernel
theorem dX12_isFull_18 : decode cX12_isFull 18 = .ok (.iaload, 1) := by decide +kernel
theorem dX12_isFull_19 : decode cX12_isFull 19 = .ok (.bipush 8, 2) := by decide +kernel
theorem dX12_isFull_21 : decode cX12_isFull 21 = .ok (.if_icmp .ne 7, 3) := by decide +kernel
theorem dX12_isFull_24 : decode cX12_isFull 24 = .ok (.iconst 1, 1) := by decide +kernel
theorem dX12_isFull_25 : decode cX12_isFull 25 = .ok (.goto 4, 3) := by decide +kernel
theorem dX12_isFull_28 : decode cX12_isFull 28 = .ok (.iconst 0, 1) := by decide +kernel
theorem dX12_isFull_29 : decode cX12_isFull 29 = .ok (.ireturn, 1) := by decide +kernel
theorem dX12_isFull_30 : decode cX12_isFull 30 = .ok (.aload_n 0, 1) := by decide +kernel
theorem dX12_isFull_31 : decode cX12_isFull 31 = .ok (.ldc2_w 183, 3) := by decide +kernel
theorem dX12_isFull_34 : decode cX12_isFull 34 = .ok (.invokevirtual 261, 3) := by decide +kernel
theorem dX12_isFull_37 : decode cX12_isFull 37 = .ok (.ifCond .eq 23, 3) := by decide +kernel
theorem dX12_isFull_40 : decode cX12_isFull 40 = .ok (.aload_n 0, 1) := by decide +kernel
theorem dX12_isFull_41 : decode cX12_isFull 41 = .ok (.getfield 24, 3) := by decide +kernel
theorem dX12_isFull_44 : decode cX12_isFull 44 = .ok (.aload_n 0, 1) := by decide +kernel
theorem dX12_isFull_45 : decode cX12_isFull 45 = .ok (.getfield 271, 3) := by decide +kernel
theorem dX12_isFull_48 : decode cX12_isFull 48 = .ok (.iaload, 1) := by decide +kernel
theorem dX12_isFull_49 : decode cX12_isFull 49 = .ok (.bipush 12, 2) := by decide +kernel
theorem dX12_isFull_51 : decode cX12_isFull 51 = .ok (.if_icmp .ne 7, 3) := by decide +kernel
theorem dX12_isFull_54 : decode cX12_isFull 54 = .ok (.iconst 1, 1) := by decide +kernel
theorem dX12_isFull_55 : decode cX12_isFull 55 = .ok (.goto 4, 3) := by decide +kernel
theorem dX12_isFull_58 : decode cX12_isFull 58 = .ok (.iconst 0, 1) := by decide +kernel
theorem dX12_isFull_59 : decode cX12_isFull 59 = .ok (.ireturn, 1) := by decide +kernel
theorem dX12_isFull_60 : decode cX12_isFull 60 = .ok (.aload_n 0, 1) := by decide +kernel
theorem dX12_isFull_61 : decode cX12_isFull 61 = .ok (.ldc2_w 185, 3) := by decide +kernel
theorem dX12_isFull_64 : decode cX12_isFull 64 = .ok (.invokevirtual 261, 3) := by decide +kernel
theorem dX12_isFull_67 : decode cX12_isFull 67 = .ok (.ifCond .eq 23, 3) := by decide +kernel
theorem dX12_isFull_70 : decode cX12_isFull 70 = .ok (.aload_n 0, 1) := by decide +kernel
theorem dX12_isFull_71 : decode cX12_isFull 71 = .ok (.getfield 27, 3) := by decide +kernel
theorem dX12_isFull_74 : decode cX12_isFull 74 = .ok (.aload_n 0, 1) := by decide +kernel
theorem dX12_isFull_75 : decode cX12_isFull 75 = .ok (.getfield 271, 3) := by decide +kernel
theorem dX12_isFull_78 : decode cX12_isFull 78 = .ok (.iaload, 1) := by decide +kernel
theorem dX12_isFull_79 : decode cX12_isFull 79 = .ok (.bipush 6, 2) := by decide +kernel
theorem dX12_isFull_81 : decode cX12_isFull 81 = .ok (.if_icmp .ne 7, 3) := by decide +kernel
theorem dX12_isFull_84 : decode cX12_isFull 84 = .ok (.iconst 1, 1) := by decide +kernel
theorem dX12_isFull_85 : decode cX12_isFull 85 = .ok (.goto 4, 3) := by decide +kernel
theorem dX12_isFull_88 : decode cX12_isFull 88 = .ok (.iconst 0, 1) := by decide +kernel
theorem dX12_isFull_89 : decode cX12_isFull 89 = .ok (.ireturn, 1) := by decide +kernel
theorem dX12_isFull_90 : decode cX12_isFull 90 = .ok (.aload_n 0, 1) := by decide +kernel
theorem dX12_isFull_91 : decode cX12_isFull 91 = .ok (.ldc2_w 197, 3) := by decide +kernel
theorem dX12_isFull_94 : decode cX12_isFull 94 = .ok (.invokevirtual 261, 3) := by decide +kernel
theorem dX12_isFull_97 : decode cX12_isFull 97 = .ok (.ifCond .eq 13, 3) := by decide +kernel
theorem dX12_isFull_100 : decode cX12_isFull 100 = .ok (.aload_n 0, 1) := by decide +kernel
theorem dX12_isFull_101 : decode cX12_isFull 101 = .ok (.getfield 66, 3) := by decide +kernel
theorem dX12_isFull_104 : decode cX12_isFull 104 = .ok (.aload_n 0, 1) := by decide +kernel
theorem dX12_isFull_105 : decode cX12_isFull 105 = .ok (.getfield 271, 3) := by decide +kernel
theorem dX12_isFull_108 : decode cX12_isFull 108 = .ok (.baload, 1) := by decide +kernel
theorem dX12_isFull_109 : decode cX12_isFull 109 = .ok (.ireturn, 1) := by decide +kernel
theorem dX12_isFull_110 : decode cX12_isFull 110 = .ok (.aload_n 0, 1) := by decide +kernel
theorem dX12_isFull_111 : decode cX12_isFull 111 = .ok (.ldc2_w 199, 3) := by decide +kernel
theorem dX12_isFull_114 : decode cX12_isFull 114 = .ok (.invokevirtual 261, 3) := by decide +kernel
theorem dX12_isFull_117 : decode cX12_isFull 117 = .ok (.ifCond .eq 15, 3) := by decide +kernel
theorem dX12_isFull_120 : decode cX12_isFull 120 = .ok (.aload_n 0, 1) := by decide +kernel
theorem dX12_isFull_121 : decode cX12_isFull 121 = .ok (.getfield 70, 3) := by decide +kernel
theorem dX12_isFull_124 : decode cX12_isFull 124 = .ok (.aload_n 0, 1) := by decide +kernel
theorem dX12_isFull_125 : decode cX12_isFull 125 = .ok (.getfield 271, 3) := by decide +kernel
theorem dX12_isFull_128 : decode cX12_isFull 128 = .ok (.baload, 1) := by decide +kernel
theorem dX12_isFull_129 : decode cX12_isFull 129 = .ok (.ifCond .eq 7, 3) := by decide +kernel
theorem dX12_isFull_132 : decode cX12_isFull 132 = .ok (.iconst 1, 1) := by decide +kernel
theorem dX12_isFull_133 : decode cX12_isFull 133 = .ok (.goto 4, 3) := by decide +kernel
theorem dX12_isFull_136 : decode cX12_isFull 136 = .ok (.iconst 0, 1) := by decide +kernel
theorem dX12_isFull_137 : decode cX12_isFull 137 = .ok (.ireturn, 1) := by decide +kernel
theorem dX12_here_0 : decode cX12_here 0 = .ok (.iconst 0, 1) := by decide +kernel
theorem dX12_here_1 : decode cX12_here 1 = .ok (.istore 4, 2) := by decide +kernel
theorem dX12_here_3 : decode cX12_here 3 = .ok (.iload 4, 2) := by decide +kernel
theorem dX12_here_5 : decode cX12_here 5 = .ok (.iload_n 3, 1) := by decide +kernel
theorem dX12_here_6 : decode cX12_here 6 = .ok (.if_icmp .ge 34, 3) := by decide +kernel
theorem dX12_here_9 : decode cX12_here 9 = .ok (.aload_n 0, 1) := by decide +kernel
theorem dX12_here_10 : decode cX12_here 10 = .ok (.getfield 223, 3) := by decide +kernel
theorem dX12_here_13 : decode cX12_here 13 = .ok (.iconst 2, 1) := by decide +kernel
theorem dX12_here_14 : decode cX12_here 14 = .ok (.if_icmp .ne 20, 3) := by decide +kernel
theorem dX12_here_17 : decode cX12_here 17 = .ok (.aload_n 1, 1) := by decide +kernel
theorem dX12_here_18 : decode cX12_here 18 = .ok (.iload_n 2, 1) := by decide +kernel
theorem dX12_here_19 : decode cX12_here 19 = .ok (.iload 4, 2) := by decide +kernel
theorem dX12_here_21 : decode cX12_here 21 = .ok (.iadd, 1) := by decide +kernel
theorem dX12_here_22 : decode cX12_here 22 = .ok (.laload, 1) := by decide +kernel
theorem dX12_here_23 : decode cX12_here 23 = .ok (.aload_n 0, 1) := by decide +kernel
theorem dX12_here_24 : decode cX12_here 24 = .ok (.getfield 230, 3) := by decide +kernel
theorem dX12_here_27 : decode cX12_here 27 = .ok (.lcmp, 1) := by decide +kernel
theorem dX12_here_28 : decode cX12_here 28 = .ok (.ifCond .ne 6, 3) := by decide +kernel
theorem dX12_here_31 : decode cX12_here 31 = .ok (.iload 4, 2) := by decide +kernel
theorem dX12_here_33 : decode cX12_here 33 = .ok (.ireturn, 1) := by decide +kernel
theorem dX12_here_34 : decode cX12_here 34 = .ok (.iinc 4 1, 3) := by decide +kernel
theorem dX12_here_37 : decode cX12_here 37 = .ok (.goto (-34), 3) := by decide +kernel
theorem dX12_here_40 : decode cX12_here 40 = .ok (.iconst (-1), 1) := by decide +kernel
theorem dX12_here_41 : decode cX12_here 41 = .ok (.ireturn, 1) := by decide +kernel
theorem dX12_roomHere_0 : decode cX12_roomHere 0 = .ok (.aload_n 0, 1) := by decide +kernel
theorem dX12_roomHere_1 : decode cX12_roomHere 1 = .ok (.aload_n 0, 1) := by decide +kernel
theorem dX12_roomHere_2 : decode cX12_roomHere 2 = .ok (.getfield 73, 3) := by decide +kernel
theorem dX12_roomHere_5 : decode cX12_roomHere 5 = .ok (.bipush 8, 2) := by decide +kernel
theorem dX12_roomHere_7 : decode cX12_roomHere 7 = .ok (.aload_n 0, 1) := by decide +kernel
theorem dX12_roomHere_8 : decode cX12_roomHere 8 = .ok (.getfield 271, 3) := by decide +kernel
theorem dX12_roomHere_11 : decode cX12_roomHere 11 = .ok (.imul, 1) := by decide +kernel
theorem dX12_roomHere_12 : decode cX12_roomHere 12 = .ok (.aload_n 0, 1) := by decide +kernel
theorem dX12_roomHere_13 : decode cX12_roomHere 13 = .ok (.getfield 20, 3) := by decide +kernel
theorem dX12_roomHere_16 : decode cX12_roomHere 16 = .ok (.aload_n 0, 1) := by decide +kernel
theorem dX12_roomHere_17 : decode cX12_roomHere 17 = .ok (.getfield 271, 3) := by decide +kernel
theorem dX12_roomHere_20 : decode cX12_roomHere 20 = .ok (.iaload, 1) := by decide +kernel
theorem dX12_roomHere_21 : decode cX12_roomHere 21 = .ok (.invokevirtual 309, 3) := by decide +kernel
theorem dX12_roomHere_24 : decode cX12_roomHere 24 = .ok (.ireturn, 1) := by decide +kernel
theorem dX12_fresh_0 : decode cX12_fresh 0 = .ok (.aload_n 0, 1) := by decide +kernel
theorem dX12_fresh_1 : decode cX12_fresh 1 = .ok (.invokevirtual 251, 3) := by decide +kernel
theorem dX12_fresh_4 : decode cX12_fresh 4 = .ok (.ifCond .ne 5, 3) := by decide +kernel
theorem dX12_fresh_7 : decode cX12_fresh 7 = .ok (.lconst 0, 1) := by decide +kernel
theorem dX12_fresh_8 : decode cX12_fresh 8 = .ok (.lreturn, 1) := by decide +kernel
theorem dX12_fresh_9 : decode cX12_fresh 9 = .ok (.aload_n 0, 1) := by decide +kernel
theorem dX12_fresh_10 : decode cX12_fresh 10 = .ok (.getfield 223, 3) := by decide +kernel
theorem dX12_fresh_13 : decode cX12_fresh 13 = .ok (.iconst 2, 1) := by decide +kernel
theorem dX12_fresh_14 : decode cX12_fresh 14 = .ok (.if_icmp .eq 10, 3) := by decide +kernel
theorem dX12_fresh_17 : decode cX12_fresh 17 = .ok (.aload_n 0, 1) := by decide +kernel
theorem dX12_fresh_18 : decode cX12_fresh 18 = .ok (.invokevirtual 258, 3) := by decide +kernel
theorem dX12_fresh_21 : decode cX12_fresh 21 = .ok (.goto 16, 3) := by decide +kernel
theorem dX12_fresh_24 : decode cX12_fresh 24 = .ok (.iload_n 1, 1) := by decide +kernel
theorem dX12_fresh_25 : decode cX12_fresh 25 = .ok (.ifCond .lt 12, 3) := by decide +kernel
theorem dX12_fresh_28 : decode cX12_fresh 28 = .ok (.aload_n 0, 1) := by decide +kernel
theorem dX12_fresh_29 : decode cX12_fresh 29 = .ok (.iconst 3, 1) := by decide +kernel
theorem dX12_fresh_30 : decode cX12_fresh 30 = .ok (.aload_n 0, 1) := by decide +kernel
theorem dX12_fresh_31 : decode cX12_fresh 31 = .ok (.getfield 216, 3) := by decide +kernel
theorem dX12_fresh_34 : decode cX12_fresh 34 = .ok (.invokevirtual 247, 3) := by decide +kernel
theorem dX12_fresh_37 : decode cX12_fresh 37 = .ok (.aload_n 0, 1) := by decide +kernel
theorem dX12_fresh_38 : decode cX12_fresh 38 = .ok (.getfield 230, 3) := by decide +kernel
theorem dX12_fresh_41 : decode cX12_fresh 41 = .ok (.lstore_n 2, 1) := by decide +kernel
theorem dX12_fresh_42 : decode cX12_fresh 42 = .ok (.aload_n 0, 1) := by decide +kernel
theorem dX12_fresh_43 : decode cX12_fresh 43 = .ok (.invokevirtual 251, 3) := by decide +kernel
theorem dX12_fresh_46 : decode cX12_fresh 46 = .ok (.ifCond .eq 7, 3) := by decide +kernel
theorem dX12_fresh_49 : decode cX12_fresh 49 = .ok (.aload_n 0, 1) := by decide +kernel
theorem dX12_fresh_50 : decode cX12_fresh 50 = .ok (.invokevirtual 255, 3) := by decide +kernel
theorem dX12_fresh_53 : decode cX12_fresh 53 = .ok (.lload_n 2, 1) := by decide +kernel
theorem dX12_fresh_54 : decode cX12_fresh 54 = .ok (.lreturn, 1) := by decide +kernel
theorem dX12_known_0 : decode cX12_known 0 = .ok (.aload_n 0, 1) := by decide +kernel
theorem dX12_known_1 : decode cX12_known 1 = .ok (.invokevirtual 251, 3) := by decide +kernel
theorem dX12_known_4 : decode cX12_known 4 = .ok (.ifCond .ne 5, 3) := by decide +kernel
theorem dX12_known_7 : decode cX12_known 7 = .ok (.iconst 0, 1) := by decide +kernel
theorem dX12_known_8 : decode cX12_known 8 = .ok (.ireturn, 1) := by decide +kernel
theorem dX12_known_9 : decode cX12_known 9 = .ok (.aload_n 0, 1) := by decide +kernel
theorem dX12_known_10 : decode cX12_known 10 = .ok (.getfield 223, 3) := by decide +kernel
theorem dX12_known_13 : decode cX12_known 13 = .ok (.iconst 2, 1) := by decide +kernel
theorem dX12_known_14 : decode cX12_known 14 = .ok (.if_icmp .eq 10, 3) := by decide +kernel
theorem dX12_known_17 : decode cX12_known 17 = .ok (.aload_n 0, 1) := by decide +kernel
theorem dX12_known_18 : decode cX12_known 18 = .ok (.invokevirtual 258, 3) := by decide +kernel
theorem dX12_known_21 : decode cX12_known 21 = .ok (.goto 23, 3) := by decide +kernel
theorem dX12_known_24 : decode cX12_known 24 = .ok (.iload_n 1, 1) := by decide +kernel
theorem dX12_known_25 : decode cX12_known 25 = .ok (.ifCond .ge 15, 3) := by decide +kernel
theorem dX12_known_28 : decode cX12_known 28 = .ok (.aload_n 0, 1) := by decide +kernel
theorem dX12_known_29 : decode cX12_known 29 = .ok (.iconst 5, 1) := by decide +kernel
theorem dX12_known_30 : decode cX12_known 30 = .ok (.aload_n 0, 1) := by decide +kernel
theorem dX12_known_31 : decode cX12_known 31 = .ok (.getfield 216, 3) := by decide +kernel
theorem dX12_known_34 : decode cX12_known 34 = .ok (.invokevirtual 247, 3) := by decide +kernel
theorem dX12_known_37 : decode cX12_known 37 = .ok (.goto 7, 3) := by decide +kernel
theorem dX12_known_40 : decode cX12_known 40 = .ok (.aload_n 0, 1) := by decide +kernel
theorem dX12_known_41 : decode cX12_known 41 = .ok (.invokevirtual 255, 3) := by decide +kernel
theorem dX12_known_44 : decode cX12_known 44 = .ok (.iload_n 1, 1) := by decide +kernel
theorem dX12_known_45 : decode cX12_known 45 = .ok (.ifCond .ge 7, 3) := by decide +kernel
theorem dX12_known_48 : decode cX12_known 48 = .ok (.iconst 0, 1) := by decide +kernel
theorem dX12_known_49 : decode cX12_known 49 = .ok (.goto 4, 3) := by decide +kernel
theorem dX12_known_52 : decode cX12_known 52 = .ok (.iload_n 1, 1) := by decide +kernel
theorem dX12_known_53 : decode cX12_known 53 = .ok (.ireturn, 1) := by decide +kernel
theorem dX12_readRoom_0 : decode cX12_readRoom 0 = .ok (.bipush 8, 2) := by decide +kernel
theorem dX12_readRoom_2 : decode cX12_readRoom 2 = .ok (.aload_n 0, 1) := by decide +kernel
theorem dX12_readRoom_3 : decode cX12_readRoom 3 = .ok (.getfield 271, 3) := by decide +kernel
theorem dX12_readRoom_6 : decode cX12_readRoom 6 = .ok (.imul, 1) := by decide +kernel
theorem dX12_readRoom_7 : decode cX12_readRoom 7 = .ok (.aload_n 0, 1) := by decide +kernel
theorem dX12_readRoom_8 : decode cX12_readRoom 8 = .ok (.getfield 20, 3) := by decide +kernel
theorem dX12_readRoom_11 : decode cX12_readRoom 11 = .ok (.aload_n 0, 1) := by decide +kernel
theorem dX12_readRoom_12 : decode cX12_readRoom 12 = .ok (.getfield 271, 3) := by decide +kernel
theorem dX12_readRoom_15 : decode cX12_readRoom 15 = .ok (.iaload, 1) := by decide +kernel
theorem dX12_readRoom_16 : decode cX12_readRoom 16 = .ok (.iadd, 1) := by decide +kernel
theorem dX12_readRoom_17 : decode cX12_readRoom 17 = .ok (.istore_n 1, 1) := by decide +kernel
theorem dX12_readRoom_18 : decode cX12_readRoom 18 = .ok (.aload_n 0, 1) := by decide +kernel
theorem dX12_readRoom_19 : decode cX12_readRoom 19 = .ok (.getfield 73, 3) := by decide +kernel
theorem dX12_readRoom_22 : decode cX12_readRoom 22 = .ok (.iload_n 1, 1) := by decide +kernel
theorem dX12_readRoom_23 : decode cX12_readRoom 23 = .ok (.aload_n 0, 1) := by decide +kernel
theorem dX12_readRoom_24 : decode cX12_readRoom 24 = .ok (.aload_n 0, 1) := by decide +kernel
theorem dX12_readRoom_25 : decode cX12_readRoom 25 = .ok (.invokevirtual 313, 3) := by decide +kernel
theorem dX12_readRoom_28 : decode cX12_readRoom 28 = .ok (.invokevirtual 317, 3) := by decide +kernel
theorem dX12_readRoom_31 : decode cX12_readRoom 31 = .ok (.lastore, 1) := by decide +kernel
theorem dX12_readRoom_32 : decode cX12_readRoom 32 = .ok (.aload_n 0, 1) := by decide +kernel
theorem dX12_readRoom_33 : decode cX12_readRoom 33 = .ok (.getfield 36, 3) := by decide +kernel
theorem dX12_readRoom_36 : decode cX12_readRoom 36 = .ok (.iload_n 1, 1) := by decide +kernel
theorem dX12_readRoom_37 : decode cX12_readRoom 37 = .ok (.aload_n 0, 1) := by decide +kernel
theorem dX12_readRoom_38 : decode cX12_readRoom 38 = .ok (.ldc2_w 181, 3) := by decide +kernel
theorem dX12_readRoom_41 : decode cX12_readRoom 41 = .ok (.bipush 9, 2) := by decide +kernel
theorem dX12_readRoom_43 : decode cX12_readRoom 43 = .ok (.invokevirtual 321, 3) := by decide +kernel
theorem dX12_readRoom_46 : decode cX12_readRoom 46 = .ok (.iastore, 1) := by decide +kernel
theorem dX12_readRoom_47 : decode cX12_readRoom 47 = .ok (.aload_n 0, 1) := by decide +kernel
theorem dX12_readRoom_48 : decode cX12_readRoom 48 = .ok (.getfield 20, 3) := by decide +kernel
theorem dX12_readRoom_51 : decode cX12_readRoom 51 = .ok (.aload_n 0, 1) := by decide +kernel
theorem dX12_readRoom_52 : decode cX12_readRoom 52 = .ok (.getfield 271, 3) := by decide +kernel
theorem dX12_readRoom_55 : decode cX12_readRoom 55 = .ok (.dup2, 1) := by decide +kernel
theorem dX12_readRoom_56 : decode cX12_readRoom 56 = .ok (.iaload, 1) := by decide +kernel
theorem dX12_readRoom_57 : decode cX12_readRoom 57 = .ok (.iconst 1, 1) := by decide +kernel
theorem dX12_readRoom_58 : decode cX12_readRoom 58 = .ok (.iadd, 1) := by decide +kernel
theorem dX12_readRoom_59 : decode cX12_readRoom 59 = .ok (.iastore, 1) := by decide +kernel
theorem dX12_readRoom_60 : decode cX12_readRoom 60 = .ok (.return_, 1) := by decide +kernel
theorem dX12_isDoor_0 : decode cX12_isDoor 0 = .ok (.iconst 0, 1) := by decide +kernel
theorem dX12_isDoor_1 : decode cX12_isDoor 1 = .ok (.istore_n 3, 1) := by decide +kernel
theorem dX12_isDoor_2 : decode cX12_isDoor 2 = .ok (.iload_n 3, 1) := by decide +kernel
theorem dX12_isDoor_3 : decode cX12_isDoor 3 = .ok (.aload_n 0, 1) := by decide +kernel
theorem dX12_isDoor_4 : decode cX12_isDoor 4 = .ok (.getfield 24, 3) := by decide +kernel
theorem dX12_isDoor_7 : decode cX12_isDoor 7 = .ok (.aload_n 0, 1) := by decide +kernel
theorem dX12_isDoor_8 : decode cX12_isDoor 8 = .ok (.getfield 271, 3) := by decide +kernel
theorem dX12_isDoor_11 : decode cX12_isDoor 11 = .ok (.iaload, 1) := by decide +kernel
theorem dX12_isDoor_12 : decode cX12_isDoor 12 = .ok (.if_icmp .ge 66, 3) := by decide +kernel
theorem dX12_isDoor_15 : decode cX12_isDoor 15 = .ok (.bipush 12, 2) := by decide +kernel
theorem dX12_isDoor_17 : decode cX12_isDoor 17 = .ok (.aload_n 0, 1) := by decide +kernel
theorem dX12_isDoor_18 : decode cX12_isDoor 18 = .ok (.getfield 271, 3) := by decide +kernel
theorem dX12_isDoor_21 : decode cX12_isDoor 21 = .ok (.imul, 1) := by decide +kernel
theorem dX12_isDoor_22 : decode cX12_isDoor 22 = .ok (.iload_n 3, 1) := by decide +kernel
theorem dX12_isDoor_23 : decode cX12_isDoor 23 = .ok (.iadd, 1) := by decide +kernel
theorem dX12_isDoor_24 : decode cX12_isDoor 24 = .ok (.istore 4, 2) := by decide +kernel
theorem dX12_isDoor_26 : decode cX12_isDoor 26 = .ok (.aload_n 0, 1) := by decide +kernel
theorem dX12_isDoor_27 : decode cX12_isDoor 27 = .ok (.getfield 39, 3) := by decide +kernel
theorem dX12_isDoor_30 : decode cX12_isDoor 30 = .ok (.iload 4, 2) := by decide +kernel
theorem dX12_isDoor_32 : decode cX12_isDoor 32 = .ok (.iaload, 1) := by decide +kernel
theorem dX12_isDoor_33 : decode cX12_isDoor 33 = .ok (.iload_n 1, 1) := by decide +kernel
theorem dX12_isDoor_34 : decode cX12_isDoor 34 = .ok (.if_icmp .ne 14, 3) := by decide +kernel
theorem dX12_isDoor_37 : decode cX12_isDoor 37 = .ok (.aload_n 0, 1) := by decide +kernel
theorem dX12_isDoor_38 : decode cX12_isDoor 38 = .ok (.getfield 42, 3) := by decide +kernel
theorem dX12_isDoor_41 : decode cX12_isDoor 41 = .ok (.iload 4, 2) := by decide +kernel
theorem dX12_isDoor_43 : decode cX12_isDoor 43 = .ok (.iaload, 1) := by decide +kernel
theorem dX12_isDoor_44 : decode cX12_isDoor 44 = .ok (.iload_n 2, 1) := by decide +kernel
theorem dX12_isDoor_45 : decode cX12_isDoor 45 = .ok (.if_icmp .eq 25, 3) := by decide +kernel
theorem dX12_isDoor_48 : decode cX12_isDoor 48 = .ok (.aload_n 0, 1) := by decide +kernel
theorem dX12_isDoor_49 : decode cX12_isDoor 49 = .ok (.getfield 39, 3) := by decide +kernel
theorem dX12_isDoor_52 : decode cX12_isDoor 52 = .ok (.iload 4, 2) := by decide +kernel
theorem dX12_isDoor_54 : decode cX12_isDoor 54 = .ok (.iaload, 1) := by decide +kernel
theorem dX12_isDoor_55 : decode cX12_isDoor 55 = .ok (.iload_n 2, 1) := by decide +kernel
theorem dX12_isDoor_56 : decode cX12_isDoor 56 = .ok (.if_icmp .ne 16, 3) := by decide +kernel
theorem dX12_isDoor_59 : decode cX12_isDoor 59 = .ok (.aload_n 0, 1) := by decide +kernel
theorem dX12_isDoor_60 : decode cX12_isDoor 60 = .ok (.getfield 42, 3) := by decide +kernel
theorem dX12_isDoor_63 : decode cX12_isDoor 63 = .ok (.iload 4, 2) := by decide +kernel
theorem dX12_isDoor_65 : decode cX12_isDoor 65 = .ok (.iaload, 1) := by decide +kernel
theorem dX12_isDoor_66 : decode cX12_isDoor 66 = .ok (.iload_n 1, 1) := by decide +kernel
theorem dX12_isDoor_67 : decode cX12_isDoor 67 = .ok (.if_icmp .ne 5, 3) := by decide +kernel
theorem dX12_isDoor_70 : decode cX12_isDoor 70 = .ok (.iconst 1, 1) := by decide +kernel
theorem dX12_isDoor_71 : decode cX12_isDoor 71 = .ok (.ireturn, 1) := by decide +kernel
theorem dX12_isDoor_72 : decode cX12_isDoor 72 = .ok (.iinc 3 1, 3) := by decide +kernel
theorem dX12_isDoor_75 : decode cX12_isDoor 75 = .ok (.goto (-73), 3) := by decide +kernel
theorem dX12_isDoor_78 : decode cX12_isDoor 78 = .ok (.iconst 0, 1) := by decide +kernel
theorem dX12_isDoor_79 : decode cX12_isDoor 79 = .ok (.ireturn, 1) := by decide +kernel
theorem dX12_readDoor_0 : decode cX12_readDoor 0 = .ok (.bipush 12, 2) := by decide +kernel
theorem dX12_readDoor_2 : decode cX12_readDoor 2 = .ok (.aload_n 0, 1) := by decide +kernel
theorem dX12_readDoor_3 : decode cX12_readDoor 3 = .ok (.getfield 271, 3) := by decide +kernel
theorem dX12_readDoor_6 : decode cX12_readDoor 6 = .ok (.imul, 1) := by decide +kernel
theorem dX12_readDoor_7 : decode cX12_readDoor 7 = .ok (.aload_n 0, 1) := by decide +kernel
theorem dX12_readDoor_8 : decode cX12_readDoor 8 = .ok (.getfield 24, 3) := by decide +kernel
theorem dX12_readDoor_11 : decode cX12_readDoor 11 = .ok (.aload_n 0, 1) := by decide +kernel
theorem dX12_readDoor_12 : decode cX12_readDoor 12 = .ok (.getfield 271, 3) := by decide +kernel
theorem dX12_readDoor_15 : decode cX12_readDoor 15 = .ok (.iaload, 1) := by decide +kernel
theorem dX12_readDoor_16 : decode cX12_readDoor 16 = .ok (.iadd, 1) := by decide +kernel
theorem dX12_readDoor_17 : decode cX12_readDoor 17 = .ok (.istore_n 1, 1) := by decide +kernel
theorem dX12_readDoor_18 : decode cX12_readDoor 18 = .ok (.aload_n 0, 1) := by decide +kernel
theorem dX12_readDoor_19 : decode cX12_readDoor 19 = .ok (.getfield 39, 3) := by decide +kernel
theorem dX12_readDoor_22 : decode cX12_readDoor 22 = .ok (.iload_n 1, 1) := by decide +kernel
theorem dX12_readDoor_23 : decode cX12_readDoor 23 = .ok (.aload_n 0, 1) := by decide +kernel
theorem dX12_readDoor_24 : decode cX12_readDoor 24 = .ok (.aload_n 0, 1) := by decide +kernel
theorem dX12_readDoor_25 : decode cX12_readDoor 25 = .ok (.invokevirtual 313, 3) := by decide +kernel
theorem dX12_readDoor_28 : decode cX12_readDoor 28 = .ok (.invokevirtual 325, 3) := by decide +kernel
theorem dX12_readDoor_31 : decode cX12_readDoor 31 = .ok (.iastore, 1) := by decide +kernel
theorem dX12_readDoor_32 : decode cX12_readDoor 32 = .ok (.aload_n 0, 1) := by decide +kernel
theorem dX12_readDoor_33 : decode cX12_readDoor 33 = .ok (.invokevirtual 251, 3) := by decide +kernel
theorem dX12_readDoor_36 : decode cX12_readDoor 36 = .ok (.ifCond .ne 4, 3) := by decide +kernel
theorem dX12_readDoor_39 : decode cX12_readDoor 39 = .ok (.return_, 1) := by decide +kernel
theorem dX12_readDoor_40 : decode cX12_readDoor 40 = .ok (.aload_n 0, 1) := by decide +kernel
theorem dX12_readDoor_41 : decode cX12_readDoor 41 = .ok (.invokevirtual 313, 3) := by decide +kernel
theorem dX12_readDoor_44 : decode cX12_readDoor 44 = .ok (.istore_n 2, 1) := by decide +kernel
theorem dX12_readDoor_45 : decode cX12_readDoor 45 = .ok (.iload_n 2, 1) := by decide +kernel
theorem dX12_readDoor_46 : decode cX12_readDoor 46 = .ok (.ifCond .lt 36, 3) := by decide +kernel
theorem dX12_readDoor_49 : decode cX12_readDoor 49 = .ok (.iload_n 2, 1) := by decide +kernel
theorem dX12_readDoor_50 : decode cX12_readDoor 50 = .ok (.aload_n 0, 1) := by decide +kernel
theorem dX12_readDoor_51 : decode cX12_readDoor 51 = .ok (.getfield 39, 3) := by decide +kernel
theorem dX12_readDoor_54 : decode cX12_readDoor 54 = .ok (.iload_n 1, 1) := by decide +kernel
theorem dX12_readDoor_55 : decode cX12_readDoor 55 = .ok (.iaload, 1) := by decide +kernel
theorem dX12_readDoor_56 : decode cX12_readDoor 56 = .ok (.if_icmp .eq 17, 3) := by decide +kernel
theorem dX12_readDoor_59 : decode cX12_readDoor 59 = .ok (.aload_n 0, 1) := by decide +kernel
theorem dX12_readDoor_60 : decode cX12_readDoor 60 = .ok (.aload_n 0, 1) := by decide +kernel
theorem dX12_readDoor_61 : decode cX12_readDoor 61 = .ok (.getfield 39, 3) := by decide +kernel
theorem dX12_readDoor_64 : decode cX12_readDoor 64 = .ok (.iload_n 1, 1) := by decide +kernel
theorem dX12_readDoor_65 : decode cX12_readDoor 65 = .ok (.iaload, 1) := by decide +kernel
theorem dX12_readDoor_66 : decode cX12_readDoor 66 = .ok (.iload_n 2, 1) := by decide +kernel
theorem dX12_readDoor_67 : decode cX12_readDoor 67 = .ok (.invokevirtual 328, 3) := by decide +kernel
theorem dX12_readDoor_70 : decode cX12_readDoor 70 = .ok (.ifCond .eq 12, 3) := by decide +kernel
theorem dX12_readDoor_73 : decode cX12_readDoor 73 = .ok (.aload_n 0, 1) := by decide +kernel
theorem dX12_readDoor_74 : decode cX12_readDoor 74 = .ok (.iconst 3, 1) := by decide +kernel
theorem dX12_readDoor_75 : decode cX12_readDoor 75 = .ok (.aload_n 0, 1) := by decide +kernel
theorem dX12_readDoor_76 : decode cX12_readDoor 76 = .ok (.getfield 216, 3) := by decide +kernel
theorem dX12_readDoor_79 : decode cX12_readDoor 79 = .ok (.invokevirtual 247, 3) := by decide +kernel
theorem dX12_readDoor_82 : decode cX12_readDoor 82 = .ok (.aload_n 0, 1) := by decide +kernel
theorem dX12_readDoor_83 : decode cX12_readDoor 83 = .ok (.getfield 42, 3) := by decide +kernel
theorem dX12_readDoor_86 : decode cX12_readDoor 86 = .ok (.iload_n 1, 1) := by decide +kernel
theorem dX12_readDoor_87 : decode cX12_readDoor 87 = .ok (.aload_n 0, 1) := by decide +kernel
theorem dX12_readDoor_88 : decode cX12_readDoor 88 = .ok (.iload_n 2, 1) := by decide +kernel
theorem dX12_readDoor_89 : decode cX12_readDoor 89 = .ok (.invokevirtual 325, 3) := by decide +kernel
theorem dX12_readDoor_92 : decode cX12_readDoor 92 = .ok (.iastore, 1) := by decide +kernel
theorem dX12_readDoor_93 : decode cX12_readDoor 93 = .ok (.aload_n 0, 1) := by decide +kernel
theorem dX12_readDoor_94 : decode cX12_readDoor 94 = .ok (.getfield 24, 3) := by decide +kernel
theorem dX12_readDoor_97 : decode cX12_readDoor 97 = .ok (.aload_n 0, 1) := by decide +kernel
theorem dX12_readDoor_98 : decode cX12_readDoor 98 = .ok (.getfield 271, 3) := by decide +kernel
theorem dX12_readDoor_101 : decode cX12_readDoor 101 = .ok (.dup2, 1) := by decide +kernel
theorem dX12_readDoor_102 : decode cX12_readDoor 102 = .ok (.iaload, 1) := by decide +kernel
theorem dX12_readDoor_103 : decode cX12_readDoor 103 = .ok (.iconst 1, 1) := by decide +kernel
theorem dX12_readDoor_104 : decode cX12_readDoor 104 = .ok (.iadd, 1) := by decide +kernel
theorem dX12_readDoor_105 : decode cX12_readDoor 105 = .ok (.iastore, 1) := by decide +kernel
theorem dX12_readDoor_106 : decode cX12_readDoor 106 = .ok (.return_, 1) := by decide +kernel
theorem dX12_readThing_0 : decode cX12_readThing 0 = .ok (.bipush 6, 2) := by decide +kernel
theorem dX12_readThing_2 : decode cX12_readThing 2 = .ok (.aload_n 0, 1) := by decide +kernel
theorem dX12_readThing_3 : decode cX12_readThing 3 = .ok (.getfield 271, 3) := by decide +kernel
theorem dX12_readThing_6 : decode cX12_readThing 6 = .ok (.imul, 1) := by decide +kernel
theorem dX12_readThing_7 : decode cX12_readThing 7 = .ok (.aload_n 0, 1) := by decide +kernel
theorem dX12_readThing_8 : decode cX12_readThing 8 = .ok (.getfield 27, 3) := by decide +kernel
theorem dX12_readThing_11 : decode cX12_readThing 11 = .ok (.aload_n 0, 1) := by decide +kernel
theorem dX12_readThing_12 : decode cX12_readThing 12 = .ok (.getfield 271, 3) := by decide +kernel
theorem dX12_readThing_15 : decode cX12_readThing 15 = .ok (.iaload, 1) := by decide +kernel
theorem dX12_readThing_16 : decode cX12_readThing 16 = .ok (.iadd, 1) := by decide +kernel
theorem dX12_readThing_17 : decode cX12_readThing 17 = .ok (.istore_n 1, 1) := by decide +kernel
theorem dX12_readThing_18 : decode cX12_readThing 18 = .ok (.aload_n 0, 1) := by decide +kernel
theorem dX12_readThing_19 : decode cX12_readThing 19 = .ok (.getfield 77, 3) := by decide +kernel
theorem dX12_readThing_22 : decode cX12_readThing 22 = .ok (.iload_n 1, 1) := by decide +kernel
theorem dX12_readThing_23 : decode cX12_readThing 23 = .ok (.aload_n 0, 1) := by decide +kernel
theorem dX12_readThing_24 : decode cX12_readThing 24 = .ok (.aload_n 0, 1) := by decide +kernel
theorem dX12_readThing_25 : decode cX12_readThing 25 = .ok (.aload_n 0, 1) := by decide +kernel
theorem dX12_readThing_26 : decode cX12_readThing 26 = .ok (.getfield 77, 3) := by decide +kernel
theorem dX12_readThing_29 : decode cX12_readThing 29 = .ok (.bipush 6, 2) := by decide +kernel
theorem dX12_readThing_31 : decode cX12_readThing 31 = .ok (.aload_n 0, 1) := by decide +kernel
theorem dX12_readThing_32 : decode cX12_readThing 32 = .ok (.getfield 271, 3) := by decide +kernel
theorem dX12_readThing_35 : decode cX12_readThing 35 = .ok (.imul, 1) := by decide +kernel
theorem dX12_readThing_36 : decode cX12_readThing 36 = .ok (.aload_n 0, 1) := by decide +kernel
theorem dX12_readThing_37 : decode cX12_readThing 37 = .ok (.getfield 27, 3) := by decide +kernel
theorem dX12_readThing_40 : decode cX12_readThing 40 = .ok (.aload_n 0, 1) := by decide +kernel
theorem dX12_readThing_41 : decode cX12_readThing 41 = .ok (.getfield 271, 3) := by decide +kernel
theorem dX12_readThing_44 : decode cX12_readThing 44 = .ok (.iaload, 1) := by decide +kernel
theorem dX12_readThing_45 : decode cX12_readThing 45 = .ok (.invokevirtual 309, 3) := by decide +kernel
theorem dX12_readThing_48 : decode cX12_readThing 48 = .ok (.invokevirtual 317, 3) := by decide +kernel
theorem dX12_readThing_51 : decode cX12_readThing 51 = .ok (.lastore, 1) := by decide +kernel
theorem dX12_readThing_52 : decode cX12_readThing 52 = .ok (.aload_n 0, 1) := by decide +kernel
theorem dX12_readThing_53 : decode cX12_readThing 53 = .ok (.aload_n 0, 1) := by decide +kernel
theorem dX12_readThing_54 : decode cX12_readThing 54 = .ok (.ldc2_w 187, 3) := by decide +kernel
theorem dX12_readThing_57 : decode cX12_readThing 57 = .ok (.invokevirtual 261, 3) := by decide +kernel
theorem dX12_readThing_60 : decode cX12_readThing 60 = .ok (.invokevirtual 305, 3) := by decide +kernel
theorem dX12_readThing_63 : decode cX12_readThing 63 = .ok (.aload_n 0, 1) := by decide +kernel
theorem dX12_readThing_64 : decode cX12_readThing 64 = .ok (.getfield 45, 3) := by decide +kernel
theorem dX12_readThing_67 : decode cX12_readThing 67 = .ok (.iload_n 1, 1) := by decide +kernel
theorem dX12_readThing_68 : decode cX12_readThing 68 = .ok (.aload_n 0, 1) := by decide +kernel
theorem dX12_readThing_69 : decode cX12_readThing 69 = .ok (.aload_n 0, 1) := by decide +kernel
theorem dX12_readThing_70 : decode cX12_readThing 70 = .ok (.invokevirtual 313, 3) := by decide +kernel
theorem dX12_readThing_73 : decode cX12_readThing 73 = .ok (.invokevirtual 325, 3) := by decide +kernel
theorem dX12_readThing_76 : decode cX12_readThing 76 = .ok (.iastore, 1) := by decide +kernel
theorem dX12_readThing_77 : decode cX12_readThing 77 = .ok (.aload_n 0, 1) := by decide +kernel
theorem dX12_readThing_78 : decode cX12_readThing 78 = .ok (.getfield 48, 3) := by decide +kernel
theorem dX12_readThing_81 : decode cX12_readThing 81 = .ok (.iload_n 1, 1) := by decide +kernel
theorem dX12_readThing_82 : decode cX12_readThing 82 = .ok (.aload_n 0, 1) := by decide +kernel
theorem dX12_readThing_83 : decode cX12_readThing 83 = .ok (.ldc2_w 189, 3) := by decide +kernel
theorem dX12_readThing_86 : decode cX12_readThing 86 = .ok (.invokevirtual 264, 3) := by decide +kernel
theorem dX12_readThing_89 : decode cX12_readThing 89 = .ok (.ifCond .eq 14, 3) := by decide +kernel
theorem dX12_readThing_92 : decode cX12_readThing 92 = .ok (.aload_n 0, 1) := by decide +kernel
theorem dX12_readThing_93 : decode cX12_readThing 93 = .ok (.aload_n 0, 1) := by decide +kernel
theorem dX12_readThing_94 : decode cX12_readThing 94 = .ok (.invokevirtual 313, 3) := by decide +kernel
theorem dX12_readThing_97 : decode cX12_readThing 97 = .ok (.invokevirtual 325, 3) := by decide +kernel
theorem dX12_readThing_100 : decode cX12_readThing 100 = .ok (.goto 9, 3) := by decide +kernel
theorem dX12_readThing_103 : decode cX12_readThing 103 = .ok (.aload_n 0, 1) := by decide +kernel
theorem dX12_readThing_104 : decode cX12_readThing 104 = .ok (.getfield 45, 3) := by decide +kernel
theorem dX12_readThing_107 : decode cX12_readThing 107 = .ok (.iload_n 1, 1) := by decide +kernel
theorem dX12_readThing_108 : decode cX12_readThing 108 = .ok (.iaload, 1) := by decide +kernel
theorem dX12_readThing_109 : decode cX12_readThing 109 = .ok (.iastore, 1) := by decide +kernel
theorem dX12_readThing_110 : decode cX12_readThing 110 = .ok (.aload_n 0, 1) := by decide +kernel
theorem dX12_readThing_111 : decode cX12_readThing 111 = .ok (.getfield 51, 3) := by decide +kernel
theorem dX12_readThing_114 : decode cX12_readThing 114 = .ok (.iload_n 1, 1) := by decide +kernel
theorem dX12_readThing_115 : decode cX12_readThing 115 = .ok (.aload_n 0, 1) := by decide +kernel
theorem dX12_readThing_116 : decode cX12_readThing 116 = .ok (.ldc2_w 191, 3) := by decide +kernel
theorem dX12_readThing_119 : decode cX12_readThing 119 = .ok (.invokevirtual 264, 3) := by decide +kernel
theorem dX12_readThing_122 : decode cX12_readThing 122 = .ok (.ifCond .eq 7, 3) := by decide +kernel
theorem dX12_readThing_125 : decode cX12_readThing 125 = .ok (.iconst 1, 1) := by decide +kernel
theorem dX12_readThing_126 : decode cX12_readThing 126 = .ok (.goto 4, 3) := by decide +kernel
theorem dX12_readThing_129 : decode cX12_readThing 129 = .ok (.iconst 0, 1) := by decide +kernel
theorem dX12_readThing_130 : decode cX12_readThing 130 = .ok (.iastore, 1) := by decide +kernel
theorem dX12_readThing_131 : decode cX12_readThing 131 = .ok (.aload_n 0, 1) := by decide +kernel
theorem dX12_readThing_132 : decode cX12_readThing 132 = .ok (.getfield 54, 3) := by decide +kernel
theorem dX12_readThing_135 : decode cX12_readThing 135 = .ok (.iload_n 1, 1) := by decide +kernel
theorem dX12_readThing_136 : decode cX12_readThing 136 = .ok (.aload_n 0, 1) := by decide +kernel
theorem dX12_readThing_137 : decode cX12_readThing 137 = .ok (.ldc2_w 193, 3) := by decide +kernel
theorem dX12_readThing_140 : decode cX12_readThing 140 = .ok (.bipush 50, 2) := by decide +kernel
theorem dX12_readThing_142 : decode cX12_readThing 142 = .ok (.invokevirtual 321, 3) := by decide +kernel
theorem dX12_readThing_145 : decode cX12_readThing 145 = .ok (.iastore, 1) := by decide +kernel
theorem dX12_readThing_146 : decode cX12_readThing 146 = .ok (.aload_n 0, 1) := by decide +kernel
theorem dX12_readThing_147 : decode cX12_readThing 147 = .ok (.getfield 57, 3) := by decide +kernel
theorem dX12_readThing_150 : decode cX12_readThing 150 = .ok (.iload_n 1, 1) := by decide +kernel
theorem dX12_readThing_151 : decode cX12_readThing 151 = .ok (.aload_n 0, 1) := by decide +kernel
theorem dX12_readThing_152 : decode cX12_readThing 152 = .ok (.ldc2_w 195, 3) := by decide +kernel
theorem dX12_readThing_155 : decode cX12_readThing 155 = .ok (.bipush 50, 2) := by decide +kernel
theorem dX12_readThing_157 : decode cX12_readThing 157 = .ok (.invokevirtual 321, 3) := by decide +kernel
theorem dX12_readThing_160 : decode cX12_readThing 160 = .ok (.iastore, 1) := by decide +kernel
theorem dX12_readThing_161 : decode cX12_readThing 161 = .ok (.aload_n 0, 1) := by decide +kernel
theorem dX12_readThing_162 : decode cX12_readThing 162 = .ok (.getfield 27, 3) := by decide +kernel
theorem dX12_readThing_165 : decode cX12_readThing 165 = .ok (.aload_n 0, 1) := by decide +kernel
theorem dX12_readThing_166 : decode cX12_readThing 166 = .ok (.getfield 271, 3) := by decide +kernel
theorem dX12_readThing_169 : decode cX12_readThing 169 = .ok (.dup2, 1) := by decide +kernel
theorem dX12_readThing_170 : decode cX12_readThing 170 = .ok (.iaload, 1) := by decide +kernel
theorem dX12_readThing_171 : decode cX12_readThing 171 = .ok (.iconst 1, 1) := by decide +kernel
theorem dX12_readThing_172 : decode cX12_readThing 172 = .ok (.iadd, 1) := by decide +kernel
theorem dX12_readThing_173 : decode cX12_readThing 173 = .ok (.iastore, 1) := by decide +kernel
theorem dX12_readThing_174 : decode cX12_readThing 174 = .ok (.return_, 1) := by decide +kernel
theorem dX12_emit_0 : decode cX12_emit 0 = .ok (.aload_n 0, 1) := by decide +kernel
theorem dX12_emit_1 : decode cX12_emit 1 = .ok (.getfield 80, 3) := by decide +kernel
theorem dX12_emit_4 : decode cX12_emit 4 = .ok (.aload_n 0, 1) := by decide +kernel
theorem dX12_emit_5 : decode cX12_emit 5 = .ok (.getfield 274, 3) := by decide +kernel
theorem dX12_emit_8 : decode cX12_emit 8 = .ok (.iload_n 1, 1) := by decide +kernel
theorem dX12_emit_9 : decode cX12_emit 9 = .ok (.iastore, 1) := by decide +kernel
theorem dX12_emit_10 : decode cX12_emit 10 = .ok (.aload_n 0, 1) := by decide +kernel
theorem dX12_emit_11 : decode cX12_emit 11 = .ok (.getfield 83, 3) := by decide +kernel
theorem dX12_emit_14 : decode cX12_emit 14 = .ok (.aload_n 0, 1) := by decide +kernel
theorem dX12_emit_15 : decode cX12_emit 15 = .ok (.getfield 274, 3) := by decide +kernel
theorem dX12_emit_18 : decode cX12_emit 18 = .ok (.iload_n 2, 1) := by decide +kernel
theorem dX12_emit_19 : decode cX12_emit 19 = .ok (.iastore, 1) := by decide +kernel
theorem dX12_emit_20 : decode cX12_emit 20 = .ok (.aload_n 0, 1) := by decide +kernel
theorem dX12_emit_21 : decode cX12_emit 21 = .ok (.dup, 1) := by decide +kernel
theorem dX12_emit_22 : decode cX12_emit 22 = .ok (.getfield 274, 3) := by decide +kernel
theorem dX12_emit_25 : decode cX12_emit 25 = .ok (.iconst 1, 1) := by decide +kernel
theorem dX12_emit_26 : decode cX12_emit 26 = .ok (.iadd, 1) := by decide +kernel
theorem dX12_emit_27 : decode cX12_emit 27 = .ok (.putfield 274, 3) := by decide +kernel
theorem dX12_emit_30 : decode cX12_emit 30 = .ok (.return_, 1) := by decide +kernel
theorem dX12_pushE_0 : decode cX12_pushE 0 = .ok (.aload_n 0, 1) := by decide +kernel
theorem dX12_pushE_1 : decode cX12_pushE 1 = .ok (.getfield 86, 3) := by decide +kernel
theorem dX12_pushE_4 : decode cX12_pushE 4 = .ok (.aload_n 0, 1) := by decide +kernel
theorem dX12_pushE_5 : decode cX12_pushE 5 = .ok (.getfield 338, 3) := by decide +kernel
theorem dX12_pushE_8 : decode cX12_pushE 8 = .ok (.iload_n 1, 1) := by decide +kernel
theorem dX12_pushE_9 : decode cX12_pushE 9 = .ok (.iastore, 1) := by decide +kernel
theorem dX12_pushE_10 : decode cX12_pushE 10 = .ok (.aload_n 0, 1) := by decide +kernel
theorem dX12_pushE_11 : decode cX12_pushE 11 = .ok (.getfield 89, 3) := by decide +kernel
theorem dX12_pushE_14 : decode cX12_pushE 14 = .ok (.aload_n 0, 1) := by decide +kernel
theorem dX12_pushE_15 : decode cX12_pushE 15 = .ok (.getfield 338, 3) := by decide +kernel
theorem dX12_pushE_18 : decode cX12_pushE 18 = .ok (.iload_n 2, 1) := by decide +kernel
theorem dX12_pushE_19 : decode cX12_pushE 19 = .ok (.iastore, 1) := by decide +kernel
theorem dX12_pushE_20 : decode cX12_pushE 20 = .ok (.aload_n 0, 1) := by decide +kernel
theorem dX12_pushE_21 : decode cX12_pushE 21 = .ok (.dup, 1) := by decide +kernel
theorem dX12_pushE_22 : decode cX12_pushE 22 = .ok (.getfield 338, 3) := by decide +kernel
theorem dX12_pushE_25 : decode cX12_pushE 25 = .ok (.iconst 1, 1) := by decide +kernel
theorem dX12_pushE_26 : decode cX12_pushE 26 = .ok (.iadd, 1) := by decide +kernel
theorem dX12_pushE_27 : decode cX12_pushE 27 = .ok (.putfield 338, 3) := by decide +kernel
theorem dX12_pushE_30 : decode cX12_pushE 30 = .ok (.return_, 1) := by decide +kernel
theorem dX12_wordHere_0 : decode cX12_wordHere 0 = .ok (.aload_n 0, 1) := by decide +kernel
theorem dX12_wordHere_1 : decode cX12_wordHere 1 = .ok (.ldc2_w 193, 3) := by decide +kernel
theorem dX12_wordHere_4 : decode cX12_wordHere 4 = .ok (.invokevirtual 261, 3) := by decide +kernel
theorem dX12_wordHere_7 : decode cX12_wordHere 7 = .ok (.ifCond .eq 6, 3) := by decide +kernel
theorem dX12_wordHere_10 : decode cX12_wordHere 10 = .ok (.bipush 117, 2) := by decide +kernel
theorem dX12_wordHere_12 : decode cX12_wordHere 12 = .ok (.ireturn, 1) := by decide +kernel
theorem dX12_wordHere_13 : decode cX12_wordHere 13 = .ok (.aload_n 0, 1) := by decide +kernel
theorem dX12_wordHere_14 : decode cX12_wordHere 14 = .ok (.ldc2_w 195, 3) := by decide +kernel
theorem dX12_wordHere_17 : decode cX12_wordHere 17 = .ok (.invokevirtual 261, 3) := by decide +kernel
theorem dX12_wordHere_20 : decode cX12_wordHere 20 = .ok (.ifCond .eq 6, 3) := by decide +kernel
theorem dX12_wordHere_23 : decode cX12_wordHere 23 = .ok (.bipush 116, 2) := by decide +kernel
theorem dX12_wordHere_25 : decode cX12_wordHere 25 = .ok (.ireturn, 1) := by decide +kernel
theorem dX12_wordHere_26 : decode cX12_wordHere 26 = .ok (.aload_n 0, 1) := by decide +kernel
theorem dX12_wordHere_27 : decode cX12_wordHere 27 = .ok (.ldc2_w 201, 3) := by decide +kernel
theorem dX12_wordHere_30 : decode cX12_wordHere 30 = .ok (.invokevirtual 261, 3) := by decide +kernel
theorem dX12_wordHere_33 : decode cX12_wordHere 33 = .ok (.ifCond .eq 6, 3) := by decide +kernel
theorem dX12_wordHere_36 : decode cX12_wordHere 36 = .ok (.bipush 102, 2) := by decide +kernel
theorem dX12_wordHere_38 : decode cX12_wordHere 38 = .ok (.ireturn, 1) := by decide +kernel
theorem dX12_wordHere_39 : decode cX12_wordHere 39 = .ok (.aload_n 0, 1) := by decide +kernel
theorem dX12_wordHere_40 : decode cX12_wordHere 40 = .ok (.ldc2_w 203, 3) := by decide +kernel
theorem dX12_wordHere_43 : decode cX12_wordHere 43 = .ok (.invokevirtual 261, 3) := by decide +kernel
theorem dX12_wordHere_46 : decode cX12_wordHere 46 = .ok (.ifCond .eq 6, 3) := by decide +kernel
theorem dX12_wordHere_49 : decode cX12_wordHere 49 = .ok (.bipush 107, 2) := by decide +kernel
theorem dX12_wordHere_51 : decode cX12_wordHere 51 = .ok (.ireturn, 1) := by decide +kernel
theorem dX12_wordHere_52 : decode cX12_wordHere 52 = .ok (.aload_n 0, 1) := by decide +kernel
theorem dX12_wordHere_53 : decode cX12_wordHere 53 = .ok (.ldc2_w 205, 3) := by decide +kernel
theorem dX12_wordHere_56 : decode cX12_wordHere 56 = .ok (.invokevirtual 261, 3) := by decide +kernel
theorem dX12_wordHere_59 : decode cX12_wordHere 59 = .ok (.ifCond .eq 8, 3) := by decide +kernel
theorem dX12_wordHere_62 : decode cX12_wordHere 62 = .ok (.bipush 100, 2) := by decide +kernel
theorem dX12_wordHere_64 : decode cX12_wordHere 64 = .ok (.goto 4, 3) := by decide +kernel
theorem dX12_wordHere_67 : decode cX12_wordHere 67 = .ok (.iconst 0, 1) := by decide +kernel
theorem dX12_wordHere_68 : decode cX12_wordHere 68 = .ok (.ireturn, 1) := by decide +kernel
theorem dX12_rankHere_0 : decode cX12_rankHere 0 = .ok (.aload_n 0, 1) := by decide +kernel
theorem dX12_rankHere_1 : decode cX12_rankHere 1 = .ok (.ldc2_w 209, 3) := by decide +kernel
theorem dX12_rankHere_4 : decode cX12_rankHere 4 = .ok (.invokevirtual 261, 3) := by decide +kernel
theorem dX12_rankHere_7 : decode cX12_rankHere 7 = .ok (.ifCond .eq 5, 3) := by decide +kernel
theorem dX12_rankHere_10 : decode cX12_rankHere 10 = .ok (.iconst 2, 1) := by decide +kernel
theorem dX12_rankHere_11 : decode cX12_rankHere 11 = .ok (.ireturn, 1) := by decide +kernel
theorem dX12_rankHere_12 : decode cX12_rankHere 12 = .ok (.aload_n 0, 1) := by decide +kernel
theorem dX12_rankHere_13 : decode cX12_rankHere 13 = .ok (.ldc2_w 207, 3) := by decide +kernel
theorem dX12_rankHere_16 : decode cX12_rankHere 16 = .ok (.invokevirtual 261, 3) := by decide +kernel
theorem dX12_rankHere_19 : decode cX12_rankHere 19 = .ok (.ifCond .eq 5, 3) := by decide +kernel
theorem dX12_rankHere_22 : decode cX12_rankHere 22 = .ok (.iconst 1, 1) := by decide +kernel
theorem dX12_rankHere_23 : decode cX12_rankHere 23 = .ok (.ireturn, 1) := by decide +kernel
theorem dX12_rankHere_24 : decode cX12_rankHere 24 = .ok (.aload_n 0, 1) := by decide +kernel
theorem dX12_rankHere_25 : decode cX12_rankHere 25 = .ok (.bipush 60, 2) := by decide +kernel
theorem dX12_rankHere_27 : decode cX12_rankHere 27 = .ok (.invokevirtual 302, 3) := by decide +kernel
theorem dX12_rankHere_30 : decode cX12_rankHere 30 = .ok (.ifCond .ne 21, 3) := by decide +kernel
theorem dX12_rankHere_33 : decode cX12_rankHere 33 = .ok (.aload_n 0, 1) := by decide +kernel
theorem dX12_rankHere_34 : decode cX12_rankHere 34 = .ok (.bipush 62, 2) := by decide +kernel
theorem dX12_rankHere_36 : decode cX12_rankHere 36 = .ok (.invokevirtual 302, 3) := by decide +kernel
theorem dX12_rankHere_39 : decode cX12_rankHere 39 = .ok (.ifCond .ne 12, 3) := by decide +kernel
theorem dX12_rankHere_42 : decode cX12_rankHere 42 = .ok (.aload_n 0, 1) := by decide +kernel
theorem dX12_rankHere_43 : decode cX12_rankHere 43 = .ok (.bipush 61, 2) := by decide +kernel
theorem dX12_rankHere_45 : decode cX12_rankHere 45 = .ok (.invokevirtual 302, 3) := by decide +kernel
theorem dX12_rankHere_48 : decode cX12_rankHere 48 = .ok (.ifCond .eq 5, 3) := by decide +kernel
theorem dX12_rankHere_51 : decode cX12_rankHere 51 = .ok (.iconst 4, 1) := by decide +kernel
theorem dX12_rankHere_52 : decode cX12_rankHere 52 = .ok (.ireturn, 1) := by decide +kernel
theorem dX12_rankHere_53 : decode cX12_rankHere 53 = .ok (.aload_n 0, 1) := by decide +kernel
theorem dX12_rankHere_54 : decode cX12_rankHere 54 = .ok (.bipush 43, 2) := by decide +kernel
theorem dX12_rankHere_56 : decode cX12_rankHere 56 = .ok (.invokevirtual 302, 3) := by decide +kernel
theorem dX12_rankHere_59 : decode cX12_rankHere 59 = .ok (.ifCond .ne 12, 3) := by decide +kernel
theorem dX12_rankHere_62 : decode cX12_rankHere 62 = .ok (.aload_n 0, 1) := by decide +kernel
theorem dX12_rankHere_63 : decode cX12_rankHere 63 = .ok (.bipush 45, 2) := by decide +kernel
theorem dX12_rankHere_65 : decode cX12_rankHere 65 = .ok (.invokevirtual 302, 3) := by decide +kernel
theorem dX12_rankHere_68 : decode cX12_rankHere 68 = .ok (.ifCond .eq 5, 3) := by decide +kernel
theorem dX12_rankHere_71 : decode cX12_rankHere 71 = .ok (.iconst 5, 1) := by decide +kernel
theorem dX12_rankHere_72 : decode cX12_rankHere 72 = .ok (.ireturn, 1) := by decide +kernel
theorem dX12_rankHere_73 : decode cX12_rankHere 73 = .ok (.aload_n 0, 1) := by decide +kernel
theorem dX12_rankHere_74 : decode cX12_rankHere 74 = .ok (.bipush 42, 2) := by decide +kernel
theorem dX12_rankHere_76 : decode cX12_rankHere 76 = .ok (.invokevirtual 302, 3) := by decide +kernel
theorem dX12_rankHere_79 : decode cX12_rankHere 79 = .ok (.ifCond .ne 21, 3) := by decide +kernel
theorem dX12_rankHere_82 : decode cX12_rankHere 82 = .ok (.aload_n 0, 1) := by decide +kernel
theorem dX12_rankHere_83 : decode cX12_rankHere 83 = .ok (.bipush 47, 2) := by decide +kernel
theorem dX12_rankHere_85 : decode cX12_rankHere 85 = .ok (.invokevirtual 302, 3) := by decide +kernel
theorem dX12_rankHere_88 : decode cX12_rankHere 88 = .ok (.ifCond .ne 12, 3) := by decide +kernel
theorem dX12_rankHere_91 : decode cX12_rankHere 91 = .ok (.aload_n 0, 1) := by decide +kernel
theorem dX12_rankHere_92 : decode cX12_rankHere 92 = .ok (.bipush 37, 2) := by decide +kernel
theorem dX12_rankHere_94 : decode cX12_rankHere 94 = .ok (.invokevirtual 302, 3) := by decide +kernel
theorem dX12_rankHere_97 : decode cX12_rankHere 97 = .ok (.ifCond .eq 8, 3) := by decide +kernel
theorem dX12_rankHere_100 : decode cX12_rankHere 100 = .ok (.bipush 6, 2) := by decide +kernel
theorem dX12_rankHere_102 : decode cX12_rankHere 102 = .ok (.goto 4, 3) := by decide +kernel
theorem dX12_rankHere_105 : decode cX12_rankHere 105 = .ok (.iconst 0, 1) := by decide +kernel
theorem dX12_rankHere_106 : decode cX12_rankHere 106 = .ok (.ireturn, 1) := by decide +kernel
theorem dX12_isCompared_0 : decode cX12_isCompared 0 = .ok (.aload_n 0, 1) := by decide +kernel
theorem dX12_isCompared_1 : decode cX12_isCompared 1 = .ok (.getfield 338, 3) := by decide +kernel
theorem dX12_isCompared_4 : decode cX12_isCompared 4 = .ok (.iconst 1, 1) := by decide +kernel
theorem dX12_isCompared_5 : decode cX12_isCompared 5 = .ok (.isub, 1) := by decide +kernel
theorem dX12_isCompared_6 : decode cX12_isCompared 6 = .ok (.istore_n 1, 1) := by decide +kernel
theorem dX12_isCompared_7 : decode cX12_isCompared 7 = .ok (.aload_n 0, 1) := by decide +kernel
theorem dX12_isCompared_8 : decode cX12_isCompared 8 = .ok (.getfield 86, 3) := by decide +kernel
theorem dX12_isCompared_11 : decode cX12_isCompared 11 = .ok (.iload_n 1, 1) := by decide +kernel
theorem dX12_isCompared_12 : decode cX12_isCompared 12 = .ok (.iaload, 1) := by decide +kernel
theorem dX12_isCompared_13 : decode cX12_isCompared 13 = .ok (.iconst 5, 1) := by decide +kernel
theorem dX12_isCompared_14 : decode cX12_isCompared 14 = .ok (.if_icmp .eq 14, 3) := by decide +kernel
theorem dX12_isCompared_17 : decode cX12_isCompared 17 = .ok (.aload_n 0, 1) := by decide +kernel
theorem dX12_isCompared_18 : decode cX12_isCompared 18 = .ok (.getfield 86, 3) := by decide +kernel
theorem dX12_isCompared_21 : decode cX12_isCompared 21 = .ok (.iload_n 1, 1) := by decide +kernel
theorem dX12_isCompared_22 : decode cX12_isCompared 22 = .ok (.iaload, 1) := by decide +kernel
theorem dX12_isCompared_23 : decode cX12_isCompared 23 = .ok (.bipush 6, 2) := by decide +kernel
theorem dX12_isCompared_25 : decode cX12_isCompared 25 = .ok (.if_icmp .ne 9, 3) := by decide +kernel
theorem dX12_isCompared_28 : decode cX12_isCompared 28 = .ok (.iinc 1 (-1), 3) := by decide +kernel
theorem dX12_isCompared_31 : decode cX12_isCompared 31 = .ok (.goto (-24), 3) := by decide +kernel
theorem dX12_isCompared_34 : decode cX12_isCompared 34 = .ok (.aload_n 0, 1) := by decide +kernel
theorem dX12_isCompared_35 : decode cX12_isCompared 35 = .ok (.getfield 86, 3) := by decide +kernel
theorem dX12_isCompared_38 : decode cX12_isCompared 38 = .ok (.iload_n 1, 1) := by decide +kernel
theorem dX12_isCompared_39 : decode cX12_isCompared 39 = .ok (.iaload, 1) := by decide +kernel
theorem dX12_isCompared_40 : decode cX12_isCompared 40 = .ok (.iconst 4, 1) := by decide +kernel
theorem dX12_isCompared_41 : decode cX12_isCompared 41 = .ok (.if_icmp .ne 7, 3) := by decide +kernel
theorem dX12_isCompared_44 : decode cX12_isCompared 44 = .ok (.iconst 1, 1) := by decide +kernel
theorem dX12_isCompared_45 : decode cX12_isCompared 45 = .ok (.goto 4, 3) := by decide +kernel
theorem dX12_isCompared_48 : decode cX12_isCompared 48 = .ok (.iconst 0, 1) := by decide +kernel
theorem dX12_isCompared_49 : decode cX12_isCompared 49 = .ok (.ireturn, 1) := by decide +kernel
set_option maxRecDepth 20000 in
theorem ggX12_isFull_X12_isWord : GoodIn wsX12_isFull wsX12_isWord := goodIn_r _ [16, 17, 18, 19, 20, 21, 22, 23, 24, 25, 26, 27, 28, 29, 30, 31, 32, 33, 34, 35, 36, 37, 38, 39, 40, 41, 42, 43, 44, 45, 46, 47, 48, 49, 50, 51, 52, 53, 54, 55, 56, 57, 58, 59, 60, 61, 62, 63, 64, 65, 66, 67, 68, 69, 70, 71, 72, 73, 74, 75, 76, 77, 78, 79, 80, 81, 82, 83, 84, 85, 86, 87, 88, 89] (by decide +kernel) (by decide +kernel)
set_option maxRecDepth 20000 in
theorem gX12_isFull_X12_isWord : GoodIn wsX12_isFull (wsV RX12 261 RX12 yX12_isWord wsX12_isWord) := goodIn_app (goodIn_of _ (by decide +kernel)) ggX12_isFull_X12_isWord
set_option maxRecDepth 20000 in
theorem ggX12_roomHere_X12_here : GoodIn wsX12_roomHere wsX12_here := goodIn_r _ [8, 9, 10, 11, 12, 13, 14, 15, 16, 17, 18, 19, 20, 21, 22, 23, 24, 25, 26, 27, 28, 29, 30, 31, 32, 33, 34, 35, 36, 37, 38, 39, 40, 41, 42, 43, 44, 45, 46, 47, 48, 49, 50, 51, 52, 53, 54, 55, 56, 57, 58, 59, 60, 61, 62, 63, 64, 65, 66, 67, 68, 69, 70, 71, 72, 73, 74, 75, 76, 77, 78, 79, 80, 81] (by decide +kernel) (by decide +kernel)
set_option maxRecDepth 20000 in
theorem gX12_roomHere_X12_here : GoodIn wsX12_roomHere (wsV RX12 309 RX12 yX12_here wsX12_here) := goodIn_app (goodIn_of _ (by decide +kernel)) ggX12_roomHere_X12_here
set_option maxRecDepth 20000 in
theorem ggX12_fresh_X12_fails : GoodIn wsX12_fresh wsX12_fails := goodIn_r _ [17, 9, 18, 60, 61, 62, 63, 64, 65, 66, 67, 68, 69, 70, 71, 72, 73, 74, 75, 76, 77, 78, 79, 80, 81, 82, 83, 84, 85, 86, 87, 88, 89, 90, 91, 92, 93, 94, 95, 96, 97, 98, 99, 100, 101, 102, 103, 104, 105, 106, 107, 108, 109, 110, 111, 112, 113, 114, 115, 116, 117, 118, 119, 120, 121, 122, 123, 124, 125, 126, 127, 128, 129, 130] (by decide +kernel) (by decide +kernel)
set_option maxRecDepth 20000 in
theorem gX12_fresh_X12_fails : GoodIn wsX12_fresh (wsV RX12 247 RX12 yX12_fails wsX12_fails) := goodIn_app (goodIn_of _ (by decide +kernel)) ggX12_fresh_X12_fails
set_option maxRecDepth 20000 in
theorem ggX12_fresh_X12_goOn : GoodIn wsX12_fresh wsX12_goOn := goodIn_r _ [22, 23, 2, 24, 1, 3, 25, 26, 27, 28, 7, 29, 30, 31, 32, 33, 34, 35, 36, 37, 38, 39, 40, 41, 42, 43, 44, 45, 46, 47, 48, 49, 50, 51, 52, 53, 54, 55, 56, 57, 58, 59, 60, 61, 62, 63, 64, 65, 66, 67, 68, 69, 70, 71, 72, 73, 74, 75, 76, 77, 78, 79, 80, 81, 82, 83, 84, 85, 86, 87, 88, 89, 90, 91, 92, 93, 94, 95, 96, 97, 98, 99, 100, 101, 102, 103, 104, 105, 106, 107, 108, 109, 110, 111, 112, 113, 114, 115, 116, 117, 118, 119, 120, 121, 122, 123, 124, 125, 126, 127, 128, 129, 130] (by decide +kernel) (by decide +kernel)
set_option maxRecDepth 20000 in
theorem gX12_fresh_X12_goOn : GoodIn wsX12_fresh (wsV RX12 255 RX12 yX12_goOn wsX12_goOn) := goodIn_app (goodIn_of _ (by decide +kernel)) ggX12_fresh_X12_goOn
set_option maxRecDepth 20000 in
theorem ggX12_fresh_X12_isGood : GoodIn wsX12_fresh wsX12_isGood := goodIn_r _ [8, 9, 60, 61, 62, 63, 64, 65, 66, 67, 68, 69, 70, 71, 72, 73, 74, 75, 76, 77, 78, 79, 80, 81, 82, 83, 84, 85, 86, 87, 88, 89, 90, 91, 92, 93, 94, 95, 96, 97, 98, 99, 100, 101, 102, 103, 104, 105, 106, 107, 108, 109, 110, 111, 112, 113, 114, 115, 116, 117, 118, 119, 120, 121, 122, 123, 124, 125, 126, 127, 128, 129, 130] (by decide +kernel) (by decide +kernel)
set_option maxRecDepth 20000 in
theorem gX12_fresh_X12_isGood : GoodIn wsX12_fresh (wsV RX12 251 RX12 yX12_isGood wsX12_isGood) := goodIn_app (goodIn_of _ (by decide +kernel)) ggX12_fresh_X12_isGood
set_option maxRecDepth 20000 in
theorem ggX12_fresh_X12_misplaced : GoodIn wsX12_fresh wsX12_misplaced := goodIn_r _ [13, 1, 2, 14, 15, 16, 7, 17, 9, 18, 60, 61, 62, 63, 64, 65, 66, 67, 68, 69, 70, 71, 72, 73, 74, 75, 76, 77, 78, 79, 80, 81, 82, 83, 84, 85, 86, 87, 88, 89, 90, 91, 92, 93, 94, 95, 96, 97, 98, 99, 100, 101, 102, 103, 104, 105, 106, 107, 108, 109, 110, 111, 112, 113, 114, 115, 116, 117, 118, 119, 120, 121, 122, 123, 124, 125, 126, 127, 128, 129, 130] (by decide +kernel) (by decide +kernel)
set_option maxRecDepth 20000 in
theorem gX12_fresh_X12_misplaced : GoodIn wsX12_fresh (wsV RX12 258 RX12 yX12_misplaced wsX12_misplaced) := goodIn_app (goodIn_of _ (by decide +kernel)) ggX12_fresh_X12_misplaced
set_option maxRecDepth 20000 in
theorem ggX12_known_X12_fails : GoodIn wsX12_known wsX12_fails := goodIn_r _ [16, 8, 17, 60, 61, 62, 63, 64, 65, 66, 67, 68, 69, 70, 71, 72, 73, 74, 75, 76, 77, 78, 79, 80, 81, 82, 83, 84, 85, 86, 87, 88, 89, 90, 91, 92, 93, 94, 95, 96, 97, 98, 99, 100, 101, 102, 103, 104, 105, 106, 107, 108, 109, 110, 111, 112, 113, 114, 115, 116, 117, 118, 119, 120, 121, 122, 123, 124, 125, 126, 127, 128, 129, 130] (by decide +kernel) (by decide +kernel)
set_option maxRecDepth 20000 in
theorem gX12_known_X12_fails : GoodIn wsX12_known (wsV RX12 247 RX12 yX12_fails wsX12_fails) := goodIn_app (goodIn_of _ (by decide +kernel)) ggX12_known_X12_fails
set_option maxRecDepth 20000 in
theorem ggX12_known_X12_goOn : GoodIn wsX12_known wsX12_goOn := goodIn_r _ [21, 22, 2, 23, 1, 24, 25, 26, 27, 28, 6, 29, 30, 31, 32, 33, 34, 35, 36, 37, 38, 39, 40, 41, 42, 43, 44, 45, 46, 47, 48, 49, 50, 51, 52, 53, 54, 55, 56, 57, 58, 59, 60, 61, 62, 63, 64, 65, 66, 67, 68, 69, 70, 71, 72, 73, 74, 75, 76, 77, 78, 79, 80, 81, 82, 83, 84, 85, 86, 87, 88, 89, 90, 91, 92, 93, 94, 95, 96, 97, 98, 99, 100, 101, 102, 103, 104, 105, 106, 107, 108, 109, 110, 111, 112, 113, 114, 115, 116, 117, 118, 119, 120, 121, 122, 123, 124, 125, 126, 127, 128, 129, 130] (by decide +kernel) (by decide +kernel)
set_option maxRecDepth 20000 in
theorem gX12_known_X12_goOn : GoodIn wsX12_known (wsV RX12 255 RX12 yX12_goOn wsX12_goOn) := goodIn_app (goodIn_of _ (by decide +kernel)) ggX12_known_X12_goOn
set_option maxRecDepth 20000 in
theorem ggX12_known_X12_isGood : GoodIn wsX12_known wsX12_isGood := goodIn_r _ [7, 8, 60, 61, 62, 63, 64, 65, 66, 67, 68, 69, 70, 71, 72, 73, 74, 75, 76, 77, 78, 79, 80, 81, 82, 83, 84, 85, 86, 87, 88, 89, 90, 91, 92, 93, 94, 95, 96, 97, 98, 99, 100, 101, 102, 103, 104, 105, 106, 107, 108, 109, 110, 111, 112, 113, 114, 115, 116, 117, 118, 119, 120, 121, 122, 123, 124, 125, 126, 127, 128, 129, 130] (by decide +kernel) (by decide +kernel)
set_option maxRecDepth 20000 in
theorem gX12_known_X12_isGood : GoodIn wsX12_known (wsV RX12 251 RX12 yX12_isGood wsX12_isGood) := goodIn_app (goodIn_of _ (by decide +kernel)) ggX12_known_X12_isGood
set_option maxRecDepth 20000 in
theorem ggX12_known_X12_misplaced : GoodIn wsX12_known wsX12_misplaced := goodIn_r _ [12, 1, 2, 13, 14, 15, 6, 16, 8, 17, 60, 61, 62, 63, 64, 65, 66, 67, 68, 69, 70, 71, 72, 73, 74, 75, 76, 77, 78, 79, 80, 81, 82, 83, 84, 85, 86, 87, 88, 89, 90, 91, 92, 93, 94, 95, 96, 97, 98, 99, 100, 101, 102, 103, 104, 105, 106, 107, 108, 109, 110, 111, 112, 113, 114, 115, 116, 117, 118, 119, 120, 121, 122, 123, 124, 125, 126, 127, 128, 129, 130] (by decide +kernel) (by decide +kernel)
set_option maxRecDepth 20000 in
theorem gX12_known_X12_misplaced : GoodIn wsX12_known (wsV RX12 258 RX12 yX12_misplaced wsX12_misplaced) := goodIn_app (goodIn_of _ (by decide +kernel)) ggX12_known_X12_misplaced
set_option maxRecDepth 20000 in
theorem ggX12_readRoom_X12_fresh : GoodIn wsX12_readRoom wsX12_fresh := goodIn_r _ [20, 15, 21, 16, 22, 23, 24, 9, 25, 26, 27, 28, 29, 30, 31, 32, 33, 34, 35, 36, 37, 38, 39, 40, 41, 42, 43, 44, 45, 46, 47, 48, 49, 50, 51, 52, 53, 54, 5, 55, 56, 57, 58, 59, 60, 61, 62, 63, 64, 65, 66, 67, 68, 69, 70, 71, 72, 73, 74, 75, 92, 93, 94, 95, 96, 97, 98, 99, 100, 101, 102, 103, 104, 105, 106, 107, 108, 109, 110, 111, 112, 113, 114, 115, 116, 117, 118, 119, 120, 121, 122, 123, 124, 125, 126, 127, 128, 129, 130, 131, 132, 133, 134, 135, 136, 137, 138, 139, 140, 141, 142, 143, 144, 145, 146, 147, 148, 149, 150, 151, 152, 153, 154, 155, 156, 157, 158, 159, 160, 161, 162] (by decide +kernel) (by decide +kernel)
set_option maxRecDepth 20000 in
theorem gX12_readRoom_X12_fresh : GoodIn wsX12_readRoom (wsV RX12 317 RX12 yX12_fresh wsX12_fresh) := goodIn_app (goodIn_of _ (by decide +kernel)) ggX12_readRoom_X12_fresh
set_option maxRecDepth 20000 in
theorem ggX12_readRoom_X12_perhaps : GoodIn wsX12_readRoom wsX12_perhaps := goodIn_r _ [79, 80, 81, 82, 9, 83, 22, 23, 24, 25, 26, 84, 85, 86, 87, 15, 16, 36, 37, 38, 39, 40, 21, 41, 42, 43, 44, 45, 46, 47, 48, 49, 50, 51, 52, 53, 54, 5, 55, 56, 57, 58, 59, 60, 61, 62, 63, 64, 65, 66, 67, 68, 69, 70, 71, 72, 73, 74, 75, 88, 89, 90, 91, 27, 28, 29, 30, 31, 32, 33, 34, 35, 92, 93, 94, 95, 96, 97, 98, 99, 100, 101, 102, 103, 104, 105, 106, 107, 108, 109, 110, 111, 112, 113, 114, 115, 116, 117, 118, 119, 120, 121, 122, 123, 124, 125, 126, 127, 128, 129, 130, 131, 132, 133, 134, 135, 136, 137, 138, 139, 140, 141, 142, 143, 144, 145, 146, 147, 148, 149, 150, 151, 152, 153, 154, 155, 156, 157, 158, 159, 160, 161, 162] (by decide +kernel) (by decide +kernel)
set_option maxRecDepth 20000 in
theorem gX12_readRoom_X12_perhaps : GoodIn wsX12_readRoom (wsV RX12 321 RX12 yX12_perhaps wsX12_perhaps) := goodIn_app (goodIn_of _ (by decide +kernel)) ggX12_readRoom_X12_perhaps
set_option maxRecDepth 20000 in
theorem ggX12_readRoom_X12_roomHere : GoodIn wsX12_readRoom wsX12_roomHere := goodIn_r _ [10, 3, 1, 2, 11, 12, 13, 9, 14, 15, 16, 92, 93, 94, 95, 96, 97, 98, 99, 100, 101, 102, 103, 104, 105, 106, 107, 108, 109, 110, 111, 112, 113, 114, 115, 116, 117, 118, 119, 120, 121, 122, 123, 124, 125, 126, 127, 128, 129, 130, 131, 132, 133, 134, 135, 136, 137, 138, 139, 140, 141, 142, 143, 144, 145, 146, 147, 148, 149, 150, 151, 152, 153, 154, 155, 156, 157, 158, 159, 160, 161, 162] (by decide +kernel) (by decide +kernel)
set_option maxRecDepth 20000 in
theorem gX12_readRoom_X12_roomHere : GoodIn wsX12_readRoom (wsV RX12 313 RX12 yX12_roomHere wsX12_roomHere) := goodIn_app (goodIn_of _ (by decide +kernel)) ggX12_readRoom_X12_roomHere
set_option maxRecDepth 20000 in
theorem ggX12_readDoor_X12_fails : GoodIn wsX12_readDoor wsX12_fails := goodIn_r _ [35, 27, 36, 82, 83, 84, 85, 86, 87, 88, 89, 90, 91, 92, 93, 94, 95, 96, 97, 98, 99, 100, 101, 102, 103, 104, 105, 106, 107, 108, 109, 110, 111, 112, 113, 114, 115, 116, 117, 118, 119, 120, 121, 122, 123, 124, 125, 126, 127, 128, 129, 130, 131, 132, 133, 134, 135, 136, 137, 138, 139, 140, 141, 142, 143, 144, 145, 146, 147, 148, 149, 150, 151, 152] (by decide +kernel) (by decide +kernel)
set_option maxRecDepth 20000 in
theorem gX12_readDoor_X12_fails : GoodIn wsX12_readDoor (wsV RX12 247 RX12 yX12_fails wsX12_fails) := goodIn_app (goodIn_of _ (by decide +kernel)) ggX12_readDoor_X12_fails
set_option maxRecDepth 20000 in
theorem ggX12_readDoor_X12_isDoor : GoodIn wsX12_readDoor wsX12_isDoor := goodIn_r _ [81, 2, 1, 3, 5, 82, 83, 84, 85, 86, 87, 88, 89, 90, 91, 92, 93, 94, 95, 96, 97, 98, 99, 100, 101, 102, 103, 104, 105, 106, 107, 108, 109, 110, 111, 112, 113, 114, 115, 116, 117, 118, 119, 120, 121, 122, 123, 124, 125, 126, 127, 128, 129, 130, 131, 132, 133, 134, 135, 136, 137, 138, 139, 140, 141, 142, 143, 144, 145, 146, 147, 148, 149, 150, 151, 152] (by decide +kernel) (by decide +kernel)
set_option maxRecDepth 20000 in
theorem gX12_readDoor_X12_isDoor : GoodIn wsX12_readDoor (wsV RX12 328 RX12 yX12_isDoor wsX12_isDoor) := goodIn_app (goodIn_of _ (by decide +kernel)) ggX12_readDoor_X12_isDoor
set_option maxRecDepth 20000 in
theorem ggX12_readDoor_X12_isGood : GoodIn wsX12_readDoor wsX12_isGood := goodIn_r _ [26, 27, 82, 83, 84, 85, 86, 87, 88, 89, 90, 91, 92, 93, 94, 95, 96, 97, 98, 99, 100, 101, 102, 103, 104, 105, 106, 107, 108, 109, 110, 111, 112, 113, 114, 115, 116, 117, 118, 119, 120, 121, 122, 123, 124, 125, 126, 127, 128, 129, 130, 131, 132, 133, 134, 135, 136, 137, 138, 139, 140, 141, 142, 143, 144, 145, 146, 147, 148, 149, 150, 151, 152] (by decide +kernel) (by decide +kernel)
set_option maxRecDepth 20000 in
theorem gX12_readDoor_X12_isGood : GoodIn wsX12_readDoor (wsV RX12 251 RX12 yX12_isGood wsX12_isGood) := goodIn_app (goodIn_of _ (by decide +kernel)) ggX12_readDoor_X12_isGood
set_option maxRecDepth 20000 in
theorem ggX12_readDoor_X12_known : GoodIn wsX12_readDoor wsX12_known := goodIn_r _ [22, 17, 4, 23, 24, 25, 9, 26, 27, 28, 29, 30, 31, 32, 33, 34, 35, 36, 37, 38, 39, 40, 41, 42, 18, 43, 44, 45, 46, 47, 48, 49, 50, 51, 52, 53, 54, 55, 56, 57, 58, 59, 60, 61, 62, 63, 64, 65, 66, 67, 68, 69, 70, 71, 72, 73, 74, 75, 76, 77, 82, 83, 84, 85, 86, 87, 88, 89, 90, 91, 92, 93, 94, 95, 96, 97, 98, 99, 100, 101, 102, 103, 104, 105, 106, 107, 108, 109, 110, 111, 112, 113, 114, 115, 116, 117, 118, 119, 120, 121, 122, 123, 124, 125, 126, 127, 128, 129, 130, 131, 132, 133, 134, 135, 136, 137, 138, 139, 140, 141, 142, 143, 144, 145, 146, 147, 148, 149, 150, 151, 152] (by decide +kernel) (by decide +kernel)
set_option maxRecDepth 20000 in
theorem gX12_readDoor_X12_known : GoodIn wsX12_readDoor (wsV RX12 325 RX12 yX12_known wsX12_known) := goodIn_app (goodIn_of _ (by decide +kernel)) ggX12_readDoor_X12_known
set_option maxRecDepth 20000 in
theorem ggX12_readDoor_X12_roomHere : GoodIn wsX12_readDoor wsX12_roomHere := goodIn_r _ [10, 11, 1, 12, 13, 14, 15, 9, 16, 17, 18, 82, 83, 84, 85, 86, 87, 88, 89, 90, 91, 92, 93, 94, 95, 96, 97, 98, 99, 100, 101, 102, 103, 104, 105, 106, 107, 108, 109, 110, 111, 112, 113, 114, 115, 116, 117, 118, 119, 120, 121, 122, 123, 124, 125, 126, 127, 128, 129, 130, 131, 132, 133, 134, 135, 136, 137, 138, 139, 140, 141, 142, 143, 144, 145, 146, 147, 148, 149, 150, 151, 152] (by decide +kernel) (by decide +kernel)
set_option maxRecDepth 20000 in
theorem gX12_readDoor_X12_roomHere : GoodIn wsX12_readDoor (wsV RX12 313 RX12 yX12_roomHere wsX12_roomHere) := goodIn_app (goodIn_of _ (by decide +kernel)) ggX12_readDoor_X12_roomHere
set_option maxRecDepth 20000 in
theorem ggX12_readThing_X12_fresh : GoodIn wsX12_readThing wsX12_fresh := goodIn_r _ [24, 19, 25, 20, 26, 27, 28, 17, 29, 30, 31, 32, 33, 34, 35, 36, 37, 38, 39, 40, 41, 42, 43, 44, 45, 46, 47, 48, 49, 50, 51, 52, 53, 54, 55, 56, 57, 58, 59, 60, 61, 4, 7, 9, 11, 13, 62, 63, 64, 65, 66, 67, 68, 69, 70, 71, 72, 73, 74, 75, 106, 107, 108, 109, 110, 111, 112, 113, 114, 115, 116, 117, 118, 119, 120, 121, 122, 123, 124, 125, 126, 127, 128, 129, 130, 131, 132, 133, 134, 135, 136, 137, 138, 139, 140, 141, 142, 143, 144, 145, 146, 147, 148, 149, 150, 151, 152, 153, 154, 155, 156, 157, 158, 159, 160, 161, 162, 163, 164, 165, 166, 167, 168, 169, 170, 171, 172, 173, 174, 175, 176] (by decide +kernel) (by decide +kernel)
set_option maxRecDepth 20000 in
theorem gX12_readThing_X12_fresh : GoodIn wsX12_readThing (wsV RX12 317 RX12 yX12_fresh wsX12_fresh) := goodIn_app (goodIn_of _ (by decide +kernel)) ggX12_readThing_X12_fresh
set_option maxRecDepth 20000 in
theorem ggX12_readThing_X12_here : GoodIn wsX12_readThing wsX12_here := goodIn_r _ [18, 19, 20, 106, 107, 108, 109, 110, 111, 112, 113, 114, 115, 116, 117, 118, 119, 120, 121, 122, 123, 124, 125, 126, 127, 128, 129, 130, 131, 132, 133, 134, 135, 136, 137, 138, 139, 140, 141, 142, 143, 144, 145, 146, 147, 148, 149, 150, 151, 152, 153, 154, 155, 156, 157, 158, 159, 160, 161, 162, 163, 164, 165, 166, 167, 168, 169, 170, 171, 172, 173, 174, 175, 176] (by decide +kernel) (by decide +kernel)
set_option maxRecDepth 20000 in
theorem gX12_readThing_X12_here : GoodIn wsX12_readThing (wsV RX12 309 RX12 yX12_here wsX12_here) := goodIn_app (goodIn_of _ (by decide +kernel)) ggX12_readThing_X12_here
set_option maxRecDepth 20000 in
theorem ggX12_readThing_X12_isWord : GoodIn wsX12_readThing wsX12_isWord := goodIn_r _ [79, 19, 20, 106, 107, 108, 109, 110, 111, 112, 113, 114, 115, 116, 117, 118, 119, 120, 121, 122, 123, 124, 125, 126, 127, 128, 129, 130, 131, 132, 133, 134, 135, 136, 137, 138, 139, 140, 141, 142, 143, 144, 145, 146, 147, 148, 149, 150, 151, 152, 153, 154, 155, 156, 157, 158, 159, 160, 161, 162, 163, 164, 165, 166, 167, 168, 169, 170, 171, 172, 173, 174, 175, 176] (by decide +kernel) (by decide +kernel)
set_option maxRecDepth 20000 in
theorem gX12_readThing_X12_isWord : GoodIn wsX12_readThing (wsV RX12 261 RX12 yX12_isWord wsX12_isWord) := goodIn_app (goodIn_of _ (by decide +kernel)) ggX12_readThing_X12_isWord
set_option maxRecDepth 20000 in
theorem ggX12_readThing_X12_known : GoodIn wsX12_readThing wsX12_known := goodIn_r _ [93, 19, 25, 26, 27, 28, 17, 29, 30, 31, 32, 33, 34, 35, 36, 37, 38, 39, 40, 41, 42, 43, 44, 45, 20, 46, 47, 48, 49, 50, 51, 52, 53, 54, 55, 56, 57, 58, 59, 60, 61, 4, 7, 9, 11, 13, 62, 63, 64, 65, 66, 67, 68, 69, 70, 71, 72, 73, 74, 75, 106, 107, 108, 109, 110, 111, 112, 113, 114, 115, 116, 117, 118, 119, 120, 121, 122, 123, 124, 125, 126, 127, 128, 129, 130, 131, 132, 133, 134, 135, 136, 137, 138, 139, 140, 141, 142, 143, 144, 145, 146, 147, 148, 149, 150, 151, 152, 153, 154, 155, 156, 157, 158, 159, 160, 161, 162, 163, 164, 165, 166, 167, 168, 169, 170, 171, 172, 173, 174, 175, 176] (by decide +kernel) (by decide +kernel)
set_option maxRecDepth 20000 in
theorem gX12_readThing_X12_known : GoodIn wsX12_readThing (wsV RX12 325 RX12 yX12_known wsX12_known) := goodIn_app (goodIn_of _ (by decide +kernel)) ggX12_readThing_X12_known
set_option maxRecDepth 20000 in
theorem ggX12_readThing_X12_must : GoodIn wsX12_readThing wsX12_must := goodIn_r _ [83, 26, 27, 28, 17, 29, 30, 40, 41, 42, 43, 44, 25, 45, 19, 20, 46, 47, 48, 49, 50, 51, 52, 53, 54, 55, 56, 57, 58, 59, 60, 61, 4, 7, 9, 11, 13, 62, 63, 64, 65, 66, 67, 68, 69, 70, 71, 72, 73, 74, 75, 31, 32, 33, 34, 35, 36, 37, 38, 39, 106, 107, 108, 109, 110, 111, 112, 113, 114, 115, 116, 117, 118, 119, 120, 121, 122, 123, 124, 125, 126, 127, 128, 129, 130, 131, 132, 133, 134, 135, 136, 137, 138, 139, 140, 141, 142, 143, 144, 145, 146, 147, 148, 149, 150, 151, 152, 153, 154, 155, 156, 157, 158, 159, 160, 161, 162, 163, 164, 165, 166, 167, 168, 169, 170, 171, 172, 173, 174, 175, 176] (by decide +kernel) (by decide +kernel)
set_option maxRecDepth 20000 in
theorem gX12_readThing_X12_must : GoodIn wsX12_readThing (wsV RX12 305 RX12 yX12_must wsX12_must) := goodIn_app (goodIn_of _ (by decide +kernel)) ggX12_readThing_X12_must
set_option maxRecDepth 20000 in
theorem ggX12_readThing_X12_passes : GoodIn wsX12_readThing wsX12_passes := goodIn_r _ [97, 26, 27, 28, 17, 29, 30, 76, 77, 78, 79, 19, 20, 40, 41, 42, 43, 44, 25, 45, 46, 47, 48, 49, 50, 51, 52, 53, 54, 55, 56, 57, 58, 59, 60, 61, 4, 7, 9, 11, 13, 62, 63, 64, 65, 66, 67, 68, 69, 70, 71, 72, 73, 74, 75, 106, 107, 108, 109, 110, 111, 112, 113, 114, 115, 116, 117, 118, 119, 120, 121, 122, 123, 124, 125, 126, 127, 128, 129, 130, 131, 132, 133, 134, 135, 136, 137, 138, 139, 140, 141, 142, 143, 144, 145, 146, 147, 148, 149, 150, 151, 152, 153, 154, 155, 156, 157, 158, 159, 160, 161, 162, 163, 164, 165, 166, 167, 168, 169, 170, 171, 172, 173, 174, 175, 176] (by decide +kernel) (by decide +kernel)
set_option maxRecDepth 20000 in
theorem gX12_readThing_X12_passes : GoodIn wsX12_readThing (wsV RX12 264 RX12 yX12_passes wsX12_passes) := goodIn_app (goodIn_of _ (by decide +kernel)) ggX12_readThing_X12_passes
set_option maxRecDepth 20000 in
theorem ggX12_readThing_X12_perhaps : GoodIn wsX12_readThing wsX12_perhaps := goodIn_r _ [101, 94, 95, 96, 17, 97, 26, 27, 28, 29, 30, 76, 77, 78, 79, 19, 20, 40, 41, 42, 43, 44, 25, 45, 46, 47, 48, 49, 50, 51, 52, 53, 54, 55, 56, 57, 58, 59, 60, 61, 4, 7, 9, 11, 13, 62, 63, 64, 65, 66, 67, 68, 69, 70, 71, 72, 73, 74, 75, 102, 103, 104, 105, 31, 32, 33, 34, 35, 36, 37, 38, 39, 106, 107, 108, 109, 110, 111, 112, 113, 114, 115, 116, 117, 118, 119, 120, 121, 122, 123, 124, 125, 126, 127, 128, 129, 130, 131, 132, 133, 134, 135, 136, 137, 138, 139, 140, 141, 142, 143, 144, 145, 146, 147, 148, 149, 150, 151, 152, 153, 154, 155, 156, 157, 158, 159, 160, 161, 162, 163, 164, 165, 166, 167, 168, 169, 170, 171, 172, 173, 174, 175, 176] (by decide +kernel) (by decide +kernel)
set_option maxRecDepth 20000 in
theorem gX12_readThing_X12_perhaps : GoodIn wsX12_readThing (wsV RX12 321 RX12 yX12_perhaps wsX12_perhaps) := goodIn_app (goodIn_of _ (by decide +kernel)) ggX12_readThing_X12_perhaps
set_option maxRecDepth 20000 in
theorem ggX12_readThing_X12_roomHere : GoodIn wsX12_readThing wsX12_roomHere := goodIn_r _ [87, 88, 1, 89, 14, 15, 16, 17, 18, 19, 20, 106, 107, 108, 109, 110, 111, 112, 113, 114, 115, 116, 117, 118, 119, 120, 121, 122, 123, 124, 125, 126, 127, 128, 129, 130, 131, 132, 133, 134, 135, 136, 137, 138, 139, 140, 141, 142, 143, 144, 145, 146, 147, 148, 149, 150, 151, 152, 153, 154, 155, 156, 157, 158, 159, 160, 161, 162, 163, 164, 165, 166, 167, 168, 169, 170, 171, 172, 173, 174, 175, 176] (by decide +kernel) (by decide +kernel)
set_option maxRecDepth 20000 in
theorem gX12_readThing_X12_roomHere : GoodIn wsX12_readThing (wsV RX12 313 RX12 yX12_roomHere wsX12_roomHere) := goodIn_app (goodIn_of _ (by decide +kernel)) ggX12_readThing_X12_roomHere
set_option maxRecDepth 20000 in
theorem ggX12_wordHere_X12_isWord : GoodIn wsX12_wordHere wsX12_isWord := goodIn_r _ [10, 11, 12, 13, 14, 15, 16, 17, 18, 19, 20, 21, 22, 23, 24, 25, 26, 27, 28, 29, 30, 31, 32, 33, 34, 35, 36, 37, 38, 39, 40, 41, 42, 43, 44, 45, 46, 47, 48, 49, 50, 51, 52, 53, 54, 55, 56, 57, 58, 59, 60, 61, 62, 63, 64, 65, 66, 67, 68, 69, 70, 71, 72, 73, 74, 75, 76, 77, 78, 79, 80, 81, 82, 83] (by decide +kernel) (by decide +kernel)
set_option maxRecDepth 20000 in
theorem gX12_wordHere_X12_isWord : GoodIn wsX12_wordHere (wsV RX12 261 RX12 yX12_isWord wsX12_isWord) := goodIn_app (goodIn_of _ (by decide +kernel)) ggX12_wordHere_X12_isWord
set_option maxRecDepth 20000 in
theorem ggX12_rankHere_X12_isSignHere : GoodIn wsX12_rankHere wsX12_isSignHere := goodIn_r _ [13, 8, 14, 15, 16, 17, 6, 18, 19, 20, 21, 22, 23, 24, 25, 26, 27, 28, 29, 30, 31, 32, 33, 34, 35, 36, 37, 38, 39, 40, 41, 42, 43, 44, 45, 46, 47, 48, 49, 50, 51, 52, 53, 54, 55, 56, 57, 58, 59, 60, 61, 62, 63, 64, 65, 66, 67, 68, 69, 70, 71, 72, 73, 74, 75, 76, 77, 78, 79, 80, 81, 82, 83, 84, 85, 86, 87, 88, 89, 90, 91] (by decide +kernel) (by decide +kernel)
set_option maxRecDepth 20000 in
theorem gX12_rankHere_X12_isSignHere : GoodIn wsX12_rankHere (wsV RX12 302 RX12 yX12_isSignHere wsX12_isSignHere) := goodIn_app (goodIn_of _ (by decide +kernel)) ggX12_rankHere_X12_isSignHere
set_option maxRecDepth 20000 in
theorem ggX12_rankHere_X12_isWord : GoodIn wsX12_rankHere wsX12_isWord := goodIn_r _ [7, 8, 9, 21, 22, 23, 24, 25, 26, 27, 28, 29, 30, 31, 32, 33, 34, 35, 36, 37, 38, 39, 40, 41, 42, 43, 44, 45, 46, 47, 48, 49, 50, 51, 52, 53, 54, 55, 56, 57, 58, 59, 60, 61, 62, 63, 64, 65, 66, 67, 68, 69, 70, 71, 72, 73, 74, 75, 76, 77, 78, 79, 80, 81, 82, 83, 84, 85, 86, 87, 88, 89, 90, 91] (by decide +kernel) (by decide +kernel)
set_option maxRecDepth 20000 in
theorem gX12_rankHere_X12_isWord : GoodIn wsX12_rankHere (wsV RX12 261 RX12 yX12_isWord wsX12_isWord) := goodIn_app (goodIn_of _ (by decide +kernel)) ggX12_rankHere_X12_isWord
theorem iw_X12_clearBank_X12 : ∀ w ∈ wsX120, w ∈ wsX12_clearBank := fun _ h => List.mem_cons_of_mem _ (List.mem_append_right _ h)
theorem iw_X12_isFull_X12 : ∀ w ∈ wsX120, w ∈ wsX12_isFull := fun _ h => List.mem_cons_of_mem _ (List.mem_append_right _ h)
theorem iw_X12_here_X12 : ∀ w ∈ wsX120, w ∈ wsX12_here := fun _ h => List.mem_cons_of_mem _ (List.mem_append_right _ h)
theorem iw_X12_roomHere_X12 : ∀ w ∈ wsX120, w ∈ wsX12_roomHere := fun _ h => List.mem_cons_of_mem _ (List.mem_append_right _ h)
theorem iw_X12_fresh_X12 : ∀ w ∈ wsX120, w ∈ wsX12_fresh := fun _ h => List.mem_cons_of_mem _ (List.mem_append_right _ h)
theorem iw_X12_known_X12 : ∀ w ∈ wsX120, w ∈ wsX12_known := fun _ h => List.mem_cons_of_mem _ (List.mem_append_right _ h)
theorem iw_X12_readRoom_X12 : ∀ w ∈ wsX120, w ∈ wsX12_readRoom := fun _ h => List.mem_cons_of_mem _ (List.mem_append_right _ h)
theorem iw_X12_isDoor_X12 : ∀ w ∈ wsX120, w ∈ wsX12_isDoor := fun _ h => List.mem_cons_of_mem _ (List.mem_append_right _ h)
theorem iw_X12_readDoor_X12 : ∀ w ∈ wsX120, w ∈ wsX12_readDoor := fun _ h => List.mem_cons_of_mem _ (List.mem_append_right _ h)
theorem iw_X12_readThing_X12 : ∀ w ∈ wsX120, w ∈ wsX12_readThing := fun _ h => List.mem_cons_of_mem _ (List.mem_append_right _ h)
theorem iw_X12_emit_X12 : ∀ w ∈ wsX120, w ∈ wsX12_emit := fun _ h => List.mem_cons_of_mem _ (List.mem_append_right _ h)
theorem iw_X12_pushE_X12 : ∀ w ∈ wsX120, w ∈ wsX12_pushE := fun _ h => List.mem_cons_of_mem _ (List.mem_append_right _ h)
theorem iw_X12_isCompared_X12 : ∀ w ∈ wsX120, w ∈ wsX12_isCompared := fun _ h => List.mem_cons_of_mem _ (List.mem_append_right _ h)
