def wsX12_unit_r1 : List Cond := [Cond.fieldLink RX12 86 "SoldHouseModel" "eWhat" "[I", Cond.fieldLink RX12 338 "SoldHouseModel" "piled" "I", Cond.constantLong RX12 211 (7237492), Cond.fieldLink RX12 30 "SoldHouseModel" "units" "[I", Cond.fieldLink RX12 271 "SoldHouseModel" "rb" "I", Cond.fieldLink RX12 332 "SoldHouseModel" "unitsInRule" "I", Cond.fieldLink RX12 223 "SoldHouseModel" "token" "I", Cond.fieldLink RX12 341 "SoldHouseModel" "within" "I", Cond.fieldLink RX12 241 "SoldHouseModel" "number" "I", Cond.methodLink RX12 261 yX12_isWord, Cond.instanceMethod yX12_isWord, Cond.selects RX12 yX12_isWord yX12_isWord, Cond.initialized RX12, Cond.code yX12_isWord cX12_isWord 3 (some .boolean), Cond.fieldLink RX12 230 "SoldHouseModel" "name" "J", Cond.methodLink RX12 302 yX12_isSignHere, Cond.instanceMethod yX12_isSignHere, Cond.selects RX12 yX12_isSignHere yX12_isSignHere, Cond.code yX12_isSignHere cX12_isSignHere 2 (some .boolean), Cond.fieldLink RX12 216 "SoldHouseModel" "at" "I", Cond.methodLink RX12 219 yX12_sign, Cond.instanceMethod yX12_sign, Cond.selects RX12 yX12_sign yX12_sign, Cond.code yX12_sign cX12_sign 2 (some .int)]
def wsX12_unit_r2 : List Cond := [Cond.fieldLink RX12 173 "SoldHouseModel" "size" "I", Cond.fieldLink RX12 13 "SoldHouseModel" "text" "[B", Cond.methodLink RX12 353 yX12_wordHere, Cond.instanceMethod yX12_wordHere, Cond.selects RX12 yX12_wordHere yX12_wordHere, Cond.code yX12_wordHere cX12_wordHere 1 (some .int), Cond.constantLong RX12 193 (30067), Cond.constantLong RX12 195 (1952998765), Cond.constantLong RX12 201 (6709618), Cond.constantLong RX12 203 (1953459300), Cond.constantLong RX12 205 (6578553), Cond.methodLink RX12 258 yX12_misplaced, Cond.instanceMethod yX12_misplaced, Cond.selects RX12 yX12_misplaced yX12_misplaced, Cond.code yX12_misplaced cX12_misplaced 1 none, Cond.methodLink RX12 247 yX12_fails, Cond.instanceMethod yX12_fails, Cond.selects RX12 yX12_fails yX12_fails, Cond.code yX12_fails cX12_fails 3 none, Cond.fieldLink RX12 176 "SoldHouseModel" "faultKind" "I", Cond.fieldLink RX12 16 "SoldHouseModel" "faultPlace" "I", Cond.methodLink RX12 251 yX12_isGood, Cond.instanceMethod yX12_isGood, Cond.selects RX12 yX12_isGood yX12_isGood]
def wsX12_unit_r3 : List Cond := [Cond.code yX12_isGood cX12_isGood 1 (some .boolean), Cond.methodLink RX12 255 yX12_goOn, Cond.instanceMethod yX12_goOn, Cond.selects RX12 yX12_goOn yX12_goOn, Cond.code yX12_goOn cX12_goOn 3 none, Cond.fieldLink RX12 213 "SoldHouseModel" "end" "I", Cond.methodLink RX12 226 yX12_isLetter, Cond.static yX12_isLetter, Cond.code yX12_isLetter cX12_isLetter 1 (some .boolean), Cond.methodLink RX12 234 yX12_isKept, Cond.static yX12_isKept, Cond.code yX12_isKept cX12_isKept 3 (some .boolean), Cond.constantLong RX12 179 (1919905645), Cond.constantLong RX12 181 (109342978304883), Cond.constantLong RX12 183 (1685024626), Cond.constantLong RX12 185 (499967946343), Cond.constantLong RX12 187 (26990), Cond.constantLong RX12 189 (7823731), Cond.constantLong RX12 191 (1869967987), Cond.constantLong RX12 197 (1937076837), Cond.constantLong RX12 199 (1685217655), Cond.constantLong RX12 207 (28530), Cond.constantLong RX12 209 (6385252), Cond.methodLink RX12 238 yX12_isDigit]
def wsX12_unit_r4 : List Cond := [Cond.static yX12_isDigit, Cond.code yX12_isDigit cX12_isDigit 1 (some .boolean), Cond.methodLink RX12 244 yX12_isSign, Cond.static yX12_isSign, Cond.code yX12_isSign cX12_isSign 1 (some .boolean), Cond.methodLink RX12 344 yX12_pushE, Cond.instanceMethod yX12_pushE, Cond.selects RX12 yX12_pushE yX12_pushE, Cond.code yX12_pushE cX12_pushE 3 none, Cond.fieldLink RX12 89 "SoldHouseModel" "eSign" "[I", Cond.methodLink RX12 356 yX12_emit, Cond.instanceMethod yX12_emit, Cond.selects RX12 yX12_emit yX12_emit, Cond.code yX12_emit cX12_emit 3 none, Cond.fieldLink RX12 80 "SoldHouseModel" "code" "[I", Cond.fieldLink RX12 274 "SoldHouseModel" "codes" "I", Cond.fieldLink RX12 83 "SoldHouseModel" "codeNumber" "[I"]
def wsX12_unit : List Cond := .code yX12_unit cX12_unit 7 (some .boolean) :: ((wsX12_unit_r1 ++ (wsX12_unit_r2 ++ (wsX12_unit_r3 ++ wsX12_unit_r4))) ++ wsX120)
def wsX12_behindUnit_r1 : List Cond := [Cond.fieldLink RX12 86 "SoldHouseModel" "eWhat" "[I", Cond.fieldLink RX12 338 "SoldHouseModel" "piled" "I", Cond.fieldLink RX12 341 "SoldHouseModel" "within" "I", Cond.fieldLink RX12 89 "SoldHouseModel" "eSign" "[I", Cond.fieldLink RX12 216 "SoldHouseModel" "at" "I", Cond.methodLink RX12 359 yX12_rankHere, Cond.instanceMethod yX12_rankHere, Cond.selects RX12 yX12_rankHere yX12_rankHere, Cond.initialized RX12, Cond.code yX12_rankHere cX12_rankHere 1 (some .int), Cond.constantLong RX12 209 (6385252), Cond.constantLong RX12 207 (28530), Cond.methodLink RX12 261 yX12_isWord, Cond.instanceMethod yX12_isWord, Cond.selects RX12 yX12_isWord yX12_isWord, Cond.code yX12_isWord cX12_isWord 3 (some .boolean), Cond.fieldLink RX12 223 "SoldHouseModel" "token" "I", Cond.fieldLink RX12 230 "SoldHouseModel" "name" "J", Cond.methodLink RX12 302 yX12_isSignHere, Cond.instanceMethod yX12_isSignHere, Cond.selects RX12 yX12_isSignHere yX12_isSignHere, Cond.code yX12_isSignHere cX12_isSignHere 2 (some .boolean), Cond.methodLink RX12 219 yX12_sign, Cond.instanceMethod yX12_sign]
def wsX12_behindUnit_r2 : List Cond := [Cond.selects RX12 yX12_sign yX12_sign, Cond.code yX12_sign cX12_sign 2 (some .int), Cond.fieldLink RX12 173 "SoldHouseModel" "size" "I", Cond.fieldLink RX12 13 "SoldHouseModel" "text" "[B", Cond.methodLink RX12 362 yX12_isCompared, Cond.instanceMethod yX12_isCompared, Cond.selects RX12 yX12_isCompared yX12_isCompared, Cond.code yX12_isCompared cX12_isCompared 2 (some .boolean), Cond.methodLink RX12 258 yX12_misplaced, Cond.instanceMethod yX12_misplaced, Cond.selects RX12 yX12_misplaced yX12_misplaced, Cond.code yX12_misplaced cX12_misplaced 1 none, Cond.methodLink RX12 247 yX12_fails, Cond.instanceMethod yX12_fails, Cond.selects RX12 yX12_fails yX12_fails, Cond.code yX12_fails cX12_fails 3 none, Cond.fieldLink RX12 176 "SoldHouseModel" "faultKind" "I", Cond.fieldLink RX12 16 "SoldHouseModel" "faultPlace" "I", Cond.methodLink RX12 356 yX12_emit, Cond.instanceMethod yX12_emit, Cond.selects RX12 yX12_emit yX12_emit, Cond.code yX12_emit cX12_emit 3 none, Cond.fieldLink RX12 80 "SoldHouseModel" "code" "[I", Cond.fieldLink RX12 274 "SoldHouseModel" "codes" "I"]
def wsX12_behindUnit_r3 : List Cond := [Cond.fieldLink RX12 83 "SoldHouseModel" "codeNumber" "[I", Cond.methodLink RX12 344 yX12_pushE, Cond.instanceMethod yX12_pushE, Cond.selects RX12 yX12_pushE yX12_pushE, Cond.code yX12_pushE cX12_pushE 3 none, Cond.methodLink RX12 255 yX12_goOn, Cond.instanceMethod yX12_goOn, Cond.selects RX12 yX12_goOn yX12_goOn, Cond.code yX12_goOn cX12_goOn 3 none, Cond.fieldLink RX12 213 "SoldHouseModel" "end" "I", Cond.fieldLink RX12 241 "SoldHouseModel" "number" "I", Cond.methodLink RX12 226 yX12_isLetter, Cond.static yX12_isLetter, Cond.code yX12_isLetter cX12_isLetter 1 (some .boolean), Cond.methodLink RX12 234 yX12_isKept, Cond.static yX12_isKept, Cond.code yX12_isKept cX12_isKept 3 (some .boolean), Cond.constantLong RX12 179 (1919905645), Cond.constantLong RX12 181 (109342978304883), Cond.constantLong RX12 183 (1685024626), Cond.constantLong RX12 185 (499967946343), Cond.constantLong RX12 187 (26990), Cond.constantLong RX12 189 (7823731), Cond.constantLong RX12 191 (1869967987)]
def wsX12_behindUnit_r4 : List Cond := [Cond.constantLong RX12 193 (30067), Cond.constantLong RX12 195 (1952998765), Cond.constantLong RX12 197 (1937076837), Cond.constantLong RX12 199 (1685217655), Cond.constantLong RX12 201 (6709618), Cond.constantLong RX12 203 (1953459300), Cond.constantLong RX12 205 (6578553), Cond.constantLong RX12 211 (7237492), Cond.methodLink RX12 238 yX12_isDigit, Cond.static yX12_isDigit, Cond.code yX12_isDigit cX12_isDigit 1 (some .boolean), Cond.methodLink RX12 244 yX12_isSign, Cond.static yX12_isSign, Cond.code yX12_isSign cX12_isSign 1 (some .boolean), Cond.methodLink RX12 305 yX12_must, Cond.instanceMethod yX12_must, Cond.selects RX12 yX12_must yX12_must, Cond.code yX12_must cX12_must 2 none, Cond.methodLink RX12 251 yX12_isGood, Cond.instanceMethod yX12_isGood, Cond.selects RX12 yX12_isGood yX12_isGood, Cond.code yX12_isGood cX12_isGood 1 (some .boolean)]
def wsX12_behindUnit : List Cond := .code yX12_behindUnit cX12_behindUnit 2 (some .boolean) :: ((wsX12_behindUnit_r1 ++ (wsX12_behindUnit_r2 ++ (wsX12_behindUnit_r3 ++ wsX12_behindUnit_r4))) ++ wsX120)
def wsX12_e_r1 : List Cond := [Cond.fieldLink RX12 338 "SoldHouseModel" "piled" "I", Cond.fieldLink RX12 341 "SoldHouseModel" "within" "I", Cond.methodLink RX12 344 yX12_pushE, Cond.instanceMethod yX12_pushE, Cond.selects RX12 yX12_pushE yX12_pushE, Cond.initialized RX12, Cond.code yX12_pushE cX12_pushE 3 none, Cond.fieldLink RX12 86 "SoldHouseModel" "eWhat" "[I", Cond.fieldLink RX12 89 "SoldHouseModel" "eSign" "[I", Cond.methodLink RX12 251 yX12_isGood, Cond.instanceMethod yX12_isGood, Cond.selects RX12 yX12_isGood yX12_isGood, Cond.code yX12_isGood cX12_isGood 1 (some .boolean), Cond.fieldLink RX12 176 "SoldHouseModel" "faultKind" "I", Cond.methodLink RX12 347 yX12_unit, Cond.instanceMethod yX12_unit, Cond.selects RX12 yX12_unit yX12_unit, Cond.code yX12_unit cX12_unit 7 (some .boolean), Cond.constantLong RX12 211 (7237492), Cond.fieldLink RX12 30 "SoldHouseModel" "units" "[I", Cond.fieldLink RX12 271 "SoldHouseModel" "rb" "I", Cond.fieldLink RX12 332 "SoldHouseModel" "unitsInRule" "I", Cond.fieldLink RX12 223 "SoldHouseModel" "token" "I", Cond.fieldLink RX12 241 "SoldHouseModel" "number" "I"]
def wsX12_e_r2 : List Cond := [Cond.methodLink RX12 261 yX12_isWord, Cond.instanceMethod yX12_isWord, Cond.selects RX12 yX12_isWord yX12_isWord, Cond.code yX12_isWord cX12_isWord 3 (some .boolean), Cond.fieldLink RX12 230 "SoldHouseModel" "name" "J", Cond.methodLink RX12 302 yX12_isSignHere, Cond.instanceMethod yX12_isSignHere, Cond.selects RX12 yX12_isSignHere yX12_isSignHere, Cond.code yX12_isSignHere cX12_isSignHere 2 (some .boolean), Cond.fieldLink RX12 216 "SoldHouseModel" "at" "I", Cond.methodLink RX12 219 yX12_sign, Cond.instanceMethod yX12_sign, Cond.selects RX12 yX12_sign yX12_sign, Cond.code yX12_sign cX12_sign 2 (some .int), Cond.fieldLink RX12 173 "SoldHouseModel" "size" "I", Cond.fieldLink RX12 13 "SoldHouseModel" "text" "[B", Cond.methodLink RX12 353 yX12_wordHere, Cond.instanceMethod yX12_wordHere, Cond.selects RX12 yX12_wordHere yX12_wordHere, Cond.code yX12_wordHere cX12_wordHere 1 (some .int), Cond.constantLong RX12 193 (30067), Cond.constantLong RX12 195 (1952998765), Cond.constantLong RX12 201 (6709618), Cond.constantLong RX12 203 (1953459300)]
def wsX12_e_r3 : List Cond := [Cond.constantLong RX12 205 (6578553), Cond.methodLink RX12 258 yX12_misplaced, Cond.instanceMethod yX12_misplaced, Cond.selects RX12 yX12_misplaced yX12_misplaced, Cond.code yX12_misplaced cX12_misplaced 1 none, Cond.methodLink RX12 247 yX12_fails, Cond.instanceMethod yX12_fails, Cond.selects RX12 yX12_fails yX12_fails, Cond.code yX12_fails cX12_fails 3 none, Cond.fieldLink RX12 16 "SoldHouseModel" "faultPlace" "I", Cond.methodLink RX12 255 yX12_goOn, Cond.instanceMethod yX12_goOn, Cond.selects RX12 yX12_goOn yX12_goOn, Cond.code yX12_goOn cX12_goOn 3 none, Cond.fieldLink RX12 213 "SoldHouseModel" "end" "I", Cond.methodLink RX12 226 yX12_isLetter, Cond.static yX12_isLetter, Cond.code yX12_isLetter cX12_isLetter 1 (some .boolean), Cond.methodLink RX12 234 yX12_isKept, Cond.static yX12_isKept, Cond.code yX12_isKept cX12_isKept 3 (some .boolean), Cond.constantLong RX12 179 (1919905645), Cond.constantLong RX12 181 (109342978304883), Cond.constantLong RX12 183 (1685024626)]
def wsX12_e_r4 : List Cond := [Cond.constantLong RX12 185 (499967946343), Cond.constantLong RX12 187 (26990), Cond.constantLong RX12 189 (7823731), Cond.constantLong RX12 191 (1869967987), Cond.constantLong RX12 197 (1937076837), Cond.constantLong RX12 199 (1685217655), Cond.constantLong RX12 207 (28530), Cond.constantLong RX12 209 (6385252), Cond.methodLink RX12 238 yX12_isDigit, Cond.static yX12_isDigit, Cond.code yX12_isDigit cX12_isDigit 1 (some .boolean), Cond.methodLink RX12 244 yX12_isSign, Cond.static yX12_isSign, Cond.code yX12_isSign cX12_isSign 1 (some .boolean), Cond.methodLink RX12 356 yX12_emit, Cond.instanceMethod yX12_emit, Cond.selects RX12 yX12_emit yX12_emit, Cond.code yX12_emit cX12_emit 3 none, Cond.fieldLink RX12 80 "SoldHouseModel" "code" "[I", Cond.fieldLink RX12 274 "SoldHouseModel" "codes" "I", Cond.fieldLink RX12 83 "SoldHouseModel" "codeNumber" "[I", Cond.methodLink RX12 350 yX12_behindUnit, Cond.instanceMethod yX12_behindUnit, Cond.selects RX12 yX12_behindUnit yX12_behindUnit]
def wsX12_e_r5 : List Cond := [Cond.code yX12_behindUnit cX12_behindUnit 2 (some .boolean), Cond.methodLink RX12 359 yX12_rankHere, Cond.instanceMethod yX12_rankHere, Cond.selects RX12 yX12_rankHere yX12_rankHere, Cond.code yX12_rankHere cX12_rankHere 1 (some .int), Cond.methodLink RX12 362 yX12_isCompared, Cond.instanceMethod yX12_isCompared, Cond.selects RX12 yX12_isCompared yX12_isCompared, Cond.code yX12_isCompared cX12_isCompared 2 (some .boolean), Cond.methodLink RX12 305 yX12_must, Cond.instanceMethod yX12_must, Cond.selects RX12 yX12_must yX12_must, Cond.code yX12_must cX12_must 2 none]
def wsX12_e : List Cond := .code yX12_e cX12_e 2 none :: ((wsX12_e_r1 ++ (wsX12_e_r2 ++ (wsX12_e_r3 ++ (wsX12_e_r4 ++ wsX12_e_r5)))) ++ wsX120)
def wsX12_readRule_r1 : List Cond := [Cond.fieldLink RX12 332 "SoldHouseModel" "unitsInRule" "I", Cond.fieldLink RX12 60 "SoldHouseModel" "ruleFrom" "[I", Cond.fieldLink RX12 271 "SoldHouseModel" "rb" "I", Cond.fieldLink RX12 274 "SoldHouseModel" "codes" "I", Cond.fieldLink RX12 63 "SoldHouseModel" "ruleTo" "[I", Cond.methodLink RX12 335 yX12_e, Cond.instanceMethod yX12_e, Cond.selects RX12 yX12_e yX12_e, Cond.initialized RX12, Cond.code yX12_e cX12_e 2 none, Cond.fieldLink RX12 338 "SoldHouseModel" "piled" "I", Cond.fieldLink RX12 341 "SoldHouseModel" "within" "I", Cond.methodLink RX12 344 yX12_pushE, Cond.instanceMethod yX12_pushE, Cond.selects RX12 yX12_pushE yX12_pushE, Cond.code yX12_pushE cX12_pushE 3 none, Cond.fieldLink RX12 86 "SoldHouseModel" "eWhat" "[I", Cond.fieldLink RX12 89 "SoldHouseModel" "eSign" "[I", Cond.methodLink RX12 251 yX12_isGood, Cond.instanceMethod yX12_isGood, Cond.selects RX12 yX12_isGood yX12_isGood, Cond.code yX12_isGood cX12_isGood 1 (some .boolean), Cond.fieldLink RX12 176 "SoldHouseModel" "faultKind" "I", Cond.methodLink RX12 347 yX12_unit]
def wsX12_readRule_r2 : List Cond := [Cond.instanceMethod yX12_unit, Cond.selects RX12 yX12_unit yX12_unit, Cond.code yX12_unit cX12_unit 7 (some .boolean), Cond.constantLong RX12 211 (7237492), Cond.fieldLink RX12 30 "SoldHouseModel" "units" "[I", Cond.fieldLink RX12 223 "SoldHouseModel" "token" "I", Cond.fieldLink RX12 241 "SoldHouseModel" "number" "I", Cond.methodLink RX12 261 yX12_isWord, Cond.instanceMethod yX12_isWord, Cond.selects RX12 yX12_isWord yX12_isWord, Cond.code yX12_isWord cX12_isWord 3 (some .boolean), Cond.fieldLink RX12 230 "SoldHouseModel" "name" "J", Cond.methodLink RX12 302 yX12_isSignHere, Cond.instanceMethod yX12_isSignHere, Cond.selects RX12 yX12_isSignHere yX12_isSignHere, Cond.code yX12_isSignHere cX12_isSignHere 2 (some .boolean), Cond.fieldLink RX12 216 "SoldHouseModel" "at" "I", Cond.methodLink RX12 219 yX12_sign, Cond.instanceMethod yX12_sign, Cond.selects RX12 yX12_sign yX12_sign, Cond.code yX12_sign cX12_sign 2 (some .int), Cond.fieldLink RX12 173 "SoldHouseModel" "size" "I", Cond.fieldLink RX12 13 "SoldHouseModel" "text" "[B", Cond.methodLink RX12 353 yX12_wordHere]
def wsX12_readRule_r3 : List Cond := [Cond.instanceMethod yX12_wordHere, Cond.selects RX12 yX12_wordHere yX12_wordHere, Cond.code yX12_wordHere cX12_wordHere 1 (some .int), Cond.constantLong RX12 193 (30067), Cond.constantLong RX12 195 (1952998765), Cond.constantLong RX12 201 (6709618), Cond.constantLong RX12 203 (1953459300), Cond.constantLong RX12 205 (6578553), Cond.methodLink RX12 258 yX12_misplaced, Cond.instanceMethod yX12_misplaced, Cond.selects RX12 yX12_misplaced yX12_misplaced, Cond.code yX12_misplaced cX12_misplaced 1 none, Cond.methodLink RX12 247 yX12_fails, Cond.instanceMethod yX12_fails, Cond.selects RX12 yX12_fails yX12_fails, Cond.code yX12_fails cX12_fails 3 none, Cond.fieldLink RX12 16 "SoldHouseModel" "faultPlace" "I", Cond.methodLink RX12 255 yX12_goOn, Cond.instanceMethod yX12_goOn, Cond.selects RX12 yX12_goOn yX12_goOn, Cond.code yX12_goOn cX12_goOn 3 none, Cond.fieldLink RX12 213 "SoldHouseModel" "end" "I", Cond.methodLink RX12 226 yX12_isLetter, Cond.static yX12_isLetter]
def wsX12_readRule_r4 : List Cond := [Cond.code yX12_isLetter cX12_isLetter 1 (some .boolean), Cond.methodLink RX12 234 yX12_isKept, Cond.static yX12_isKept, Cond.code yX12_isKept cX12_isKept 3 (some .boolean), Cond.constantLong RX12 179 (1919905645), Cond.constantLong RX12 181 (109342978304883), Cond.constantLong RX12 183 (1685024626), Cond.constantLong RX12 185 (499967946343), Cond.constantLong RX12 187 (26990), Cond.constantLong RX12 189 (7823731), Cond.constantLong RX12 191 (1869967987), Cond.constantLong RX12 197 (1937076837), Cond.constantLong RX12 199 (1685217655), Cond.constantLong RX12 207 (28530), Cond.constantLong RX12 209 (6385252), Cond.methodLink RX12 238 yX12_isDigit, Cond.static yX12_isDigit, Cond.code yX12_isDigit cX12_isDigit 1 (some .boolean), Cond.methodLink RX12 244 yX12_isSign, Cond.static yX12_isSign, Cond.code yX12_isSign cX12_isSign 1 (some .boolean), Cond.methodLink RX12 356 yX12_emit, Cond.instanceMethod yX12_emit, Cond.selects RX12 yX12_emit yX12_emit]
def wsX12_readRule_r5 : List Cond := [Cond.code yX12_emit cX12_emit 3 none, Cond.fieldLink RX12 80 "SoldHouseModel" "code" "[I", Cond.fieldLink RX12 83 "SoldHouseModel" "codeNumber" "[I", Cond.methodLink RX12 350 yX12_behindUnit, Cond.instanceMethod yX12_behindUnit, Cond.selects RX12 yX12_behindUnit yX12_behindUnit, Cond.code yX12_behindUnit cX12_behindUnit 2 (some .boolean), Cond.methodLink RX12 359 yX12_rankHere, Cond.instanceMethod yX12_rankHere, Cond.selects RX12 yX12_rankHere yX12_rankHere, Cond.code yX12_rankHere cX12_rankHere 1 (some .int), Cond.methodLink RX12 362 yX12_isCompared, Cond.instanceMethod yX12_isCompared, Cond.selects RX12 yX12_isCompared yX12_isCompared, Cond.code yX12_isCompared cX12_isCompared 2 (some .boolean), Cond.methodLink RX12 305 yX12_must, Cond.instanceMethod yX12_must, Cond.selects RX12 yX12_must yX12_must, Cond.code yX12_must cX12_must 2 none]
def wsX12_readRule : List Cond := .code yX12_readRule cX12_readRule 2 none :: ((wsX12_readRule_r1 ++ (wsX12_readRule_r2 ++ (wsX12_readRule_r3 ++ (wsX12_readRule_r4 ++ wsX12_readRule_r5)))) ++ wsX120)
def wsX12_readLine_r1 : List Cond := [Cond.fieldLink RX12 230 "SoldHouseModel" "name" "J", Cond.fieldLink RX12 223 "SoldHouseModel" "token" "I", Cond.constantLong RX12 179 (1919905645), Cond.constantLong RX12 183 (1685024626), Cond.constantLong RX12 185 (499967946343), Cond.constantLong RX12 197 (1937076837), Cond.fieldLink RX12 66 "SoldHouseModel" "hasSure" "[Z", Cond.fieldLink RX12 271 "SoldHouseModel" "rb" "I", Cond.constantLong RX12 199 (1685217655), Cond.fieldLink RX12 70 "SoldHouseModel" "isDraw" "[Z", Cond.fieldLink RX12 33 "SoldHouseModel" "draw" "[I", Cond.methodLink RX12 286 yX12_isFull, Cond.instanceMethod yX12_isFull, Cond.selects RX12 yX12_isFull yX12_isFull, Cond.initialized RX12, Cond.code yX12_isFull cX12_isFull 1 (some .boolean), Cond.fieldLink RX12 20 "SoldHouseModel" "rooms" "[I", Cond.fieldLink RX12 24 "SoldHouseModel" "doors" "[I", Cond.fieldLink RX12 27 "SoldHouseModel" "things" "[I", Cond.methodLink RX12 261 yX12_isWord, Cond.instanceMethod yX12_isWord, Cond.selects RX12 yX12_isWord yX12_isWord, Cond.code yX12_isWord cX12_isWord 3 (some .boolean), Cond.methodLink RX12 258 yX12_misplaced]
def wsX12_readLine_r2 : List Cond := [Cond.instanceMethod yX12_misplaced, Cond.selects RX12 yX12_misplaced yX12_misplaced, Cond.code yX12_misplaced cX12_misplaced 1 none, Cond.fieldLink RX12 216 "SoldHouseModel" "at" "I", Cond.methodLink RX12 247 yX12_fails, Cond.instanceMethod yX12_fails, Cond.selects RX12 yX12_fails yX12_fails, Cond.code yX12_fails cX12_fails 3 none, Cond.fieldLink RX12 176 "SoldHouseModel" "faultKind" "I", Cond.fieldLink RX12 16 "SoldHouseModel" "faultPlace" "I", Cond.methodLink RX12 251 yX12_isGood, Cond.instanceMethod yX12_isGood, Cond.selects RX12 yX12_isGood yX12_isGood, Cond.code yX12_isGood cX12_isGood 1 (some .boolean), Cond.methodLink RX12 255 yX12_goOn, Cond.instanceMethod yX12_goOn, Cond.selects RX12 yX12_goOn yX12_goOn, Cond.code yX12_goOn cX12_goOn 3 none, Cond.fieldLink RX12 213 "SoldHouseModel" "end" "I", Cond.fieldLink RX12 173 "SoldHouseModel" "size" "I", Cond.fieldLink RX12 241 "SoldHouseModel" "number" "I", Cond.methodLink RX12 219 yX12_sign, Cond.instanceMethod yX12_sign, Cond.selects RX12 yX12_sign yX12_sign]
def wsX12_readLine_r3 : List Cond := [Cond.code yX12_sign cX12_sign 2 (some .int), Cond.fieldLink RX12 13 "SoldHouseModel" "text" "[B", Cond.methodLink RX12 226 yX12_isLetter, Cond.static yX12_isLetter, Cond.code yX12_isLetter cX12_isLetter 1 (some .boolean), Cond.methodLink RX12 234 yX12_isKept, Cond.static yX12_isKept, Cond.code yX12_isKept cX12_isKept 3 (some .boolean), Cond.constantLong RX12 181 (109342978304883), Cond.constantLong RX12 187 (26990), Cond.constantLong RX12 189 (7823731), Cond.constantLong RX12 191 (1869967987), Cond.constantLong RX12 193 (30067), Cond.constantLong RX12 195 (1952998765), Cond.constantLong RX12 201 (6709618), Cond.constantLong RX12 203 (1953459300), Cond.constantLong RX12 205 (6578553), Cond.constantLong RX12 207 (28530), Cond.constantLong RX12 209 (6385252), Cond.constantLong RX12 211 (7237492), Cond.methodLink RX12 238 yX12_isDigit, Cond.static yX12_isDigit, Cond.code yX12_isDigit cX12_isDigit 1 (some .boolean), Cond.methodLink RX12 244 yX12_isSign]
def wsX12_readLine_r4 : List Cond := [Cond.static yX12_isSign, Cond.code yX12_isSign cX12_isSign 1 (some .boolean), Cond.methodLink RX12 289 yX12_readRoom, Cond.instanceMethod yX12_readRoom, Cond.selects RX12 yX12_readRoom yX12_readRoom, Cond.code yX12_readRoom cX12_readRoom 2 none, Cond.fieldLink RX12 73 "SoldHouseModel" "rName" "[J", Cond.fieldLink RX12 36 "SoldHouseModel" "creaks" "[I", Cond.methodLink RX12 313 yX12_roomHere, Cond.instanceMethod yX12_roomHere, Cond.selects RX12 yX12_roomHere yX12_roomHere, Cond.code yX12_roomHere cX12_roomHere 1 (some .int), Cond.methodLink RX12 309 yX12_here, Cond.instanceMethod yX12_here, Cond.selects RX12 yX12_here yX12_here, Cond.code yX12_here cX12_here 5 (some .int), Cond.methodLink RX12 317 yX12_fresh, Cond.instanceMethod yX12_fresh, Cond.selects RX12 yX12_fresh yX12_fresh, Cond.code yX12_fresh cX12_fresh 4 (some .long), Cond.methodLink RX12 321 yX12_perhaps, Cond.instanceMethod yX12_perhaps, Cond.selects RX12 yX12_perhaps yX12_perhaps, Cond.code yX12_perhaps cX12_perhaps 4 (some .int)]
def wsX12_readLine_r5 : List Cond := [Cond.methodLink RX12 264 yX12_passes, Cond.instanceMethod yX12_passes, Cond.selects RX12 yX12_passes yX12_passes, Cond.code yX12_passes cX12_passes 4 (some .boolean), Cond.methodLink RX12 267 yX12_numeral, Cond.instanceMethod yX12_numeral, Cond.selects RX12 yX12_numeral yX12_numeral, Cond.code yX12_numeral cX12_numeral 4 (some .int), Cond.methodLink RX12 292 yX12_readDoor, Cond.instanceMethod yX12_readDoor, Cond.selects RX12 yX12_readDoor yX12_readDoor, Cond.code yX12_readDoor cX12_readDoor 3 none, Cond.fieldLink RX12 39 "SoldHouseModel" "one" "[I", Cond.fieldLink RX12 42 "SoldHouseModel" "other" "[I", Cond.methodLink RX12 325 yX12_known, Cond.instanceMethod yX12_known, Cond.selects RX12 yX12_known yX12_known, Cond.code yX12_known cX12_known 2 (some .int), Cond.methodLink RX12 328 yX12_isDoor, Cond.instanceMethod yX12_isDoor, Cond.selects RX12 yX12_isDoor yX12_isDoor, Cond.code yX12_isDoor cX12_isDoor 5 (some .boolean), Cond.methodLink RX12 295 yX12_readThing, Cond.instanceMethod yX12_readThing]
def wsX12_readLine_r6 : List Cond := [Cond.selects RX12 yX12_readThing yX12_readThing, Cond.code yX12_readThing cX12_readThing 2 none, Cond.fieldLink RX12 77 "SoldHouseModel" "tName" "[J", Cond.fieldLink RX12 45 "SoldHouseModel" "inTold" "[I", Cond.fieldLink RX12 48 "SoldHouseModel" "wasTold" "[I", Cond.fieldLink RX12 51 "SoldHouseModel" "isOurs" "[I", Cond.fieldLink RX12 54 "SoldHouseModel" "toUs" "[I", Cond.fieldLink RX12 57 "SoldHouseModel" "toThem" "[I", Cond.methodLink RX12 305 yX12_must, Cond.instanceMethod yX12_must, Cond.selects RX12 yX12_must yX12_must, Cond.code yX12_must cX12_must 2 none, Cond.methodLink RX12 298 yX12_readRule, Cond.instanceMethod yX12_readRule, Cond.selects RX12 yX12_readRule yX12_readRule, Cond.code yX12_readRule cX12_readRule 2 none, Cond.fieldLink RX12 332 "SoldHouseModel" "unitsInRule" "I", Cond.fieldLink RX12 60 "SoldHouseModel" "ruleFrom" "[I", Cond.fieldLink RX12 274 "SoldHouseModel" "codes" "I", Cond.fieldLink RX12 63 "SoldHouseModel" "ruleTo" "[I", Cond.methodLink RX12 335 yX12_e, Cond.instanceMethod yX12_e, Cond.selects RX12 yX12_e yX12_e, Cond.code yX12_e cX12_e 2 none]
def wsX12_readLine_r7 : List Cond := [Cond.fieldLink RX12 338 "SoldHouseModel" "piled" "I", Cond.fieldLink RX12 341 "SoldHouseModel" "within" "I", Cond.methodLink RX12 344 yX12_pushE, Cond.instanceMethod yX12_pushE, Cond.selects RX12 yX12_pushE yX12_pushE, Cond.code yX12_pushE cX12_pushE 3 none, Cond.fieldLink RX12 86 "SoldHouseModel" "eWhat" "[I", Cond.fieldLink RX12 89 "SoldHouseModel" "eSign" "[I", Cond.methodLink RX12 347 yX12_unit, Cond.instanceMethod yX12_unit, Cond.selects RX12 yX12_unit yX12_unit, Cond.code yX12_unit cX12_unit 7 (some .boolean), Cond.fieldLink RX12 30 "SoldHouseModel" "units" "[I", Cond.methodLink RX12 302 yX12_isSignHere, Cond.instanceMethod yX12_isSignHere, Cond.selects RX12 yX12_isSignHere yX12_isSignHere, Cond.code yX12_isSignHere cX12_isSignHere 2 (some .boolean), Cond.methodLink RX12 353 yX12_wordHere, Cond.instanceMethod yX12_wordHere, Cond.selects RX12 yX12_wordHere yX12_wordHere, Cond.code yX12_wordHere cX12_wordHere 1 (some .int), Cond.methodLink RX12 356 yX12_emit, Cond.instanceMethod yX12_emit, Cond.selects RX12 yX12_emit yX12_emit]
def wsX12_readLine_r8 : List Cond := [Cond.code yX12_emit cX12_emit 3 none, Cond.fieldLink RX12 80 "SoldHouseModel" "code" "[I", Cond.fieldLink RX12 83 "SoldHouseModel" "codeNumber" "[I", Cond.methodLink RX12 350 yX12_behindUnit, Cond.instanceMethod yX12_behindUnit, Cond.selects RX12 yX12_behindUnit yX12_behindUnit, Cond.code yX12_behindUnit cX12_behindUnit 2 (some .boolean), Cond.methodLink RX12 359 yX12_rankHere, Cond.instanceMethod yX12_rankHere, Cond.selects RX12 yX12_rankHere yX12_rankHere, Cond.code yX12_rankHere cX12_rankHere 1 (some .int), Cond.methodLink RX12 362 yX12_isCompared, Cond.instanceMethod yX12_isCompared, Cond.selects RX12 yX12_isCompared yX12_isCompared, Cond.code yX12_isCompared cX12_isCompared 2 (some .boolean)]
def wsX12_readLine : List Cond := .code yX12_readLine cX12_readLine 3 none :: ((wsX12_readLine_r1 ++ (wsX12_readLine_r2 ++ (wsX12_readLine_r3 ++ (wsX12_readLine_r4 ++ (wsX12_readLine_r5 ++ (wsX12_readLine_r6 ++ (wsX12_readLine_r7 ++ wsX12_readLine_r8))))))) ++ wsX120)
def wsX12_fault : List Cond := .code yX12_fault cX12_fault 2 (some .int) :: ([.fieldLink RX12 176 "SoldHouseModel" "faultKind" "I", .fieldLink RX12 16 "SoldHouseModel" "faultPlace" "I"] ++ wsX120)
def wsX12_two : List Cond := .code yX12_two cX12_two 3 (some .int) :: ([])
def wsX12_lesser : List Cond := .code yX12_lesser cX12_lesser 2 (some .int) :: ([])
def wsX12_has : List Cond := .code yX12_has cX12_has 2 (some .boolean) :: ([])
def wsX12_places : List Cond := .code yX12_places cX12_places 1 (some .int) :: ([.fieldLink RX12 20 "SoldHouseModel" "rooms" "[I", .fieldLink RX12 280 "SoldHouseModel" "bank" "I"] ++ wsX120)
def wsX12_many : List Cond := .code yX12_many cX12_many 1 (some .int) :: ([.fieldLink RX12 27 "SoldHouseModel" "things" "[I", .fieldLink RX12 280 "SoldHouseModel" "bank" "I"] ++ wsX120)
def wsX12_isRoom : List Cond := .code yX12_isRoom cX12_isRoom 2 (some .boolean) :: ([.methodLink RX12 378 yX12_places, .instanceMethod yX12_places, .selects RX12 yX12_places yX12_places, .initialized RX12, .code yX12_places cX12_places 1 (some .int), .fieldLink RX12 20 "SoldHouseModel" "rooms" "[I", .fieldLink RX12 280 "SoldHouseModel" "bank" "I", .methodLink RX12 381 yX12_isIn, .static yX12_isIn, .code yX12_isIn cX12_isIn 3 (some .boolean)] ++ wsX120)
def wsX12_areRooms : List Cond := .code yX12_areRooms cX12_areRooms 3 (some .boolean) :: ([.methodLink RX12 385 yX12_isRoom, .instanceMethod yX12_isRoom, .selects RX12 yX12_isRoom yX12_isRoom, .initialized RX12, .code yX12_isRoom cX12_isRoom 2 (some .boolean), .methodLink RX12 378 yX12_places, .instanceMethod yX12_places, .selects RX12 yX12_places yX12_places, .code yX12_places cX12_places 1 (some .int), .fieldLink RX12 20 "SoldHouseModel" "rooms" "[I", .fieldLink RX12 280 "SoldHouseModel" "bank" "I", .methodLink RX12 381 yX12_isIn, .static yX12_isIn, .code yX12_isIn cX12_isIn 3 (some .boolean)] ++ wsX120)
def wsX12_isThing : List Cond := .code yX12_isThing cX12_isThing 2 (some .boolean) :: ([.methodLink RX12 388 yX12_many, .instanceMethod yX12_many, .selects RX12 yX12_many yX12_many, .initialized RX12, .code yX12_many cX12_many 1 (some .int), .fieldLink RX12 27 "SoldHouseModel" "things" "[I", .fieldLink RX12 280 "SoldHouseModel" "bank" "I", .methodLink RX12 381 yX12_isIn, .static yX12_isIn, .code yX12_isIn cX12_isIn 3 (some .boolean)] ++ wsX120)
def wsX12_isSet : List Cond := .code yX12_isSet cX12_isSet 2 (some .boolean) :: ([.methodLink RX12 378 yX12_places, .instanceMethod yX12_places, .selects RX12 yX12_places yX12_places, .initialized RX12, .code yX12_places cX12_places 1 (some .int), .fieldLink RX12 20 "SoldHouseModel" "rooms" "[I", .fieldLink RX12 280 "SoldHouseModel" "bank" "I", .methodLink RX12 381 yX12_isIn, .static yX12_isIn, .code yX12_isIn cX12_isIn 3 (some .boolean)] ++ wsX120)
def wsX12_bitsOf : List Cond := .code yX12_bitsOf cX12_bitsOf 3 (some .int) :: ([])
theorem dX12_unit_0 : decode cX12_unit 0 = .ok (.aload_n 0, 1) := by decide +kernel
theorem dX12_unit_1 : decode cX12_unit 1 = .ok (.getfield 86, 3) := by decide +kernel
theorem dX12_unit_4 : decode cX12_unit 4 = .ok (.aload_n 0, 1) := by decide +kernel
theorem dX12_unit_5 : decode cX12_unit 5 = .ok (.getfield 338, 3) := by decide +kernel
theorem dX12_unit_8 : decode cX12_unit 8 = .ok (.iconst 1, 1) := by decide +kernel
theorem dX12_unit_9 : decode cX12_unit 9 = .ok (.isub, 1) := by decide +kernel
theorem dX12_unit_10 : decode cX12_unit 10 = .ok (.iaload, 1) := by decide +kernel
theorem dX12_unit_11 : decode cX12_unit 11 = .ok (.iconst 3, 1) := by decide +kernel
theorem dX12_unit_12 : decode cX12_unit 12 = .ok (.if_icmp .le 19, 3) := by decide +kernel
theorem dX12_unit_15 : decode cX12_unit 15 = .ok (.aload_n 0, 1) := by decide +kernel
theorem dX12_unit_16 : decode cX12_unit 16 = .ok (.getfield 86, 3) := by decide +kernel
theorem dX12_unit_19 : decode cX12_unit 19 = .ok (.aload_n 0, 1) := by decide +kernel
theorem dX12_unit_20 : decode cX12_unit 20 = .ok (.getfield 338, 3) := by decide +kernel
theorem dX12_unit_23 : decode cX12_unit 23 = .ok (.iconst 1, 1) := by decide +kernel
theorem dX12_unit_24 : decode cX12_unit 24 = .ok (.isub, 1) := by decide +kernel
theorem dX12_unit_25 : decode cX12_unit 25 = .ok (.iaload, 1) := by decide +kernel
theorem dX12_unit_26 : decode cX12_unit 26 = .ok (.bipush 7, 2) := by decide +kernel
theorem dX12_unit_28 : decode cX12_unit 28 = .ok (.if_icmp .lt 7, 3) := by decide +kernel
theorem dX12_unit_31 : decode cX12_unit 31 = .ok (.iconst 1, 1) := by decide +kernel
theorem dX12_unit_32 : decode cX12_unit 32 = .ok (.goto 4, 3) := by decide +kernel
theorem dX12_unit_35 : decode cX12_unit 35 = .ok (.iconst 0, 1) := by decide +kernel
theorem dX12_unit_36 : decode cX12_unit 36 = .ok (.istore_n 1, 1) := by decide +kernel
theorem dX12_unit_37 : decode cX12_unit 37 = .ok (.iload_n 1, 1) := by decide +kernel
theorem dX12_unit_38 : decode cX12_unit 38 = .ok (.ifCond .eq 17, 3) := by decide +kernel
theorem dX12_unit_41 : decode cX12_unit 41 = .ok (.aload_n 0, 1) := by decide +kernel
theorem dX12_unit_42 : decode cX12_unit 42 = .ok (.ldc2_w 211, 3) := by decide +kernel
theorem dX12_unit_45 : decode cX12_unit 45 = .ok (.invokevirtual 261, 3) := by decide +kernel
theorem dX12_unit_48 : decode cX12_unit 48 = .ok (.ifCond .eq 7, 3) := by decide +kernel
theorem dX12_unit_51 : decode cX12_unit 51 = .ok (.iconst 1, 1) := by decide +kernel
theorem dX12_unit_52 : decode cX12_unit 52 = .ok (.goto 4, 3) := by decide +kernel
theorem dX12_unit_55 : decode cX12_unit 55 = .ok (.iconst 0, 1) := by decide +kernel
theorem dX12_unit_56 : decode cX12_unit 56 = .ok (.istore_n 2, 1) := by decide +kernel
theorem dX12_unit_57 : decode cX12_unit 57 = .ok (.aload_n 0, 1) := by decide +kernel
theorem dX12_unit_58 : decode cX12_unit 58 = .ok (.bipush 40, 2) := by decide +kernel
theorem dX12_unit_60 : decode cX12_unit 60 = .ok (.invokevirtual 302, 3) := by decide +kernel
theorem dX12_unit_63 : decode cX12_unit 63 = .ok (.istore_n 3, 1) := by decide +kernel
theorem dX12_unit_64 : decode cX12_unit 64 = .ok (.aload_n 0, 1) := by decide +kernel
theorem dX12_unit_65 : decode cX12_unit 65 = .ok (.invokevirtual 353, 3) := by decide +kernel
theorem dX12_unit_68 : decode cX12_unit 68 = .ok (.istore 4, 2) := by decide +kernel
theorem dX12_unit_70 : decode cX12_unit 70 = .ok (.aload_n 0, 1) := by decide +kernel
theorem dX12_unit_71 : decode cX12_unit 71 = .ok (.getfield 30, 3) := by decide +kernel
theorem dX12_unit_74 : decode cX12_unit 74 = .ok (.aload_n 0, 1) := by decide +kernel
theorem dX12_unit_75 : decode cX12_unit 75 = .ok (.getfield 271, 3) := by decide +kernel
theorem dX12_unit_78 : decode cX12_unit 78 = .ok (.iaload, 1) := by decide +kernel
theorem dX12_unit_79 : decode cX12_unit 79 = .ok (.bipush 60, 2) := by decide +kernel
theorem dX12_unit_81 : decode cX12_unit 81 = .ok (.if_icmp .eq 12, 3) := by decide +kernel
theorem dX12_unit_84 : decode cX12_unit 84 = .ok (.aload_n 0, 1) := by decide +kernel
theorem dX12_unit_85 : decode cX12_unit 85 = .ok (.getfield 332, 3) := by decide +kernel
theorem dX12_unit_88 : decode cX12_unit 88 = .ok (.bipush 30, 2) := by decide +kernel
theorem dX12_unit_90 : decode cX12_unit 90 = .ok (.if_icmp .ne 7, 3) := by decide +kernel
theorem dX12_unit_93 : decode cX12_unit 93 = .ok (.iconst 1, 1) := by decide +kernel
theorem dX12_unit_94 : decode cX12_unit 94 = .ok (.goto 4, 3) := by decide +kernel
theorem dX12_unit_97 : decode cX12_unit 97 = .ok (.iconst 0, 1) := by decide +kernel
theorem dX12_unit_98 : decode cX12_unit 98 = .ok (.istore 5, 2) := by decide +kernel
theorem dX12_unit_100 : decode cX12_unit 100 = .ok (.iload_n 2, 1) := by decide +kernel
theorem dX12_unit_101 : decode cX12_unit 101 = .ok (.ifCond .ne 25, 3) := by decide +kernel
theorem dX12_unit_104 : decode cX12_unit 104 = .ok (.iload 4, 2) := by decide +kernel
theorem dX12_unit_106 : decode cX12_unit 106 = .ok (.ifCond .ne 15, 3) := by decide +kernel
theorem dX12_unit_109 : decode cX12_unit 109 = .ok (.aload_n 0, 1) := by decide +kernel
theorem dX12_unit_110 : decode cX12_unit 110 = .ok (.getfield 223, 3) := by decide +kernel
theorem dX12_unit_113 : decode cX12_unit 113 = .ok (.iconst 4, 1) := by decide +kernel
theorem dX12_unit_114 : decode cX12_unit 114 = .ok (.if_icmp .eq 7, 3) := by decide +kernel
theorem dX12_unit_117 : decode cX12_unit 117 = .ok (.iload_n 3, 1) := by decide +kernel
theorem dX12_unit_118 : decode cX12_unit 118 = .ok (.ifCond .eq 25, 3) := by decide +kernel
theorem dX12_unit_121 : decode cX12_unit 121 = .ok (.iload 5, 2) := by decide +kernel
theorem dX12_unit_123 : decode cX12_unit 123 = .ok (.ifCond .ne 20, 3) := by decide +kernel
theorem dX12_unit_126 : decode cX12_unit 126 = .ok (.iload_n 2, 1) := by decide +kernel
theorem dX12_unit_127 : decode cX12_unit 127 = .ok (.ifCond .ne 7, 3) := by decide +kernel
theorem dX12_unit_130 : decode cX12_unit 130 = .ok (.iload_n 3, 1) := by decide +kernel
theorem dX12_unit_131 : decode cX12_unit 131 = .ok (.ifCond .eq 16, 3) := by decide +kernel
theorem dX12_unit_134 : decode cX12_unit 134 = .ok (.aload_n 0, 1) := by decide +kernel
theorem dX12_unit_135 : decode cX12_unit 135 = .ok (.getfield 341, 3) := by decide +kernel
theorem dX12_unit_138 : decode cX12_unit 138 = .ok (.bipush 7, 2) := by decide +kernel
theorem dX12_unit_140 : decode cX12_unit 140 = .ok (.if_icmp .ne 7, 3) := by decide +kernel
theorem dX12_unit_143 : decode cX12_unit 143 = .ok (.aload_n 0, 1) := by decide +kernel
theorem dX12_unit_144 : decode cX12_unit 144 = .ok (.invokevirtual 258, 3) := by decide +kernel
theorem dX12_unit_147 : decode cX12_unit 147 = .ok (.aload_n 0, 1) := by decide +kernel
theorem dX12_unit_148 : decode cX12_unit 148 = .ok (.invokevirtual 251, 3) := by decide +kernel
theorem dX12_unit_151 : decode cX12_unit 151 = .ok (.ifCond .ne 5, 3) := by decide +kernel
theorem dX12_unit_154 : decode cX12_unit 154 = .ok (.iconst 1, 1) := by decide +kernel
theorem dX12_unit_155 : decode cX12_unit 155 = .ok (.ireturn, 1) := by decide +kernel
theorem dX12_unit_156 : decode cX12_unit 156 = .ok (.aload_n 0, 1) := by decide +kernel
theorem dX12_unit_157 : decode cX12_unit 157 = .ok (.getfield 30, 3) := by decide +kernel
theorem dX12_unit_160 : decode cX12_unit 160 = .ok (.aload_n 0, 1) := by decide +kernel
theorem dX12_unit_161 : decode cX12_unit 161 = .ok (.getfield 271, 3) := by decide +kernel
theorem dX12_unit_164 : decode cX12_unit 164 = .ok (.dup2, 1) := by decide +kernel
theorem dX12_unit_165 : decode cX12_unit 165 = .ok (.iaload, 1) := by decide +kernel
theorem dX12_unit_166 : decode cX12_unit 166 = .ok (.iload_n 2, 1) := by decide +kernel
theorem dX12_unit_167 : decode cX12_unit 167 = .ok (.ifCond .eq 7, 3) := by decide +kernel
theorem dX12_unit_170 : decode cX12_unit 170 = .ok (.iconst 0, 1) := by decide +kernel
theorem dX12_unit_171 : decode cX12_unit 171 = .ok (.goto 4, 3) := by decide +kernel
theorem dX12_unit_174 : decode cX12_unit 174 = .ok (.iconst 1, 1) := by decide +kernel
theorem dX12_unit_175 : decode cX12_unit 175 = .ok (.iadd, 1) := by decide +kernel
theorem dX12_unit_176 : decode cX12_unit 176 = .ok (.iastore, 1) := by decide +kernel
theorem dX12_unit_177 : decode cX12_unit 177 = .ok (.aload_n 0, 1) := by decide +kernel
theorem dX12_unit_178 : decode cX12_unit 178 = .ok (.dup, 1) := by decide +kernel
theorem dX12_unit_179 : decode cX12_unit 179 = .ok (.getfield 332, 3) := by decide +kernel
theorem dX12_unit_182 : decode cX12_unit 182 = .ok (.iload_n 2, 1) := by decide +kernel
theorem dX12_unit_183 : decode cX12_unit 183 = .ok (.ifCond .eq 7, 3) := by decide +kernel
theorem dX12_unit_186 : decode cX12_unit 186 = .ok (.iconst 0, 1) := by decide +kernel
theorem dX12_unit_187 : decode cX12_unit 187 = .ok (.goto 4, 3) := by decide +kernel
theorem dX12_unit_190 : decode cX12_unit 190 = .ok (.iconst 1, 1) := by decide +kernel
theorem dX12_unit_191 : decode cX12_unit 191 = .ok (.iadd, 1) := by decide +kernel
theorem dX12_unit_192 : decode cX12_unit 192 = .ok (.putfield 332, 3) := by decide +kernel
theorem dX12_unit_195 : decode cX12_unit 195 = .ok (.iload 4, 2) := by decide +kernel
theorem dX12_unit_197 : decode cX12_unit 197 = .ok (.ifCond .ne 10, 3) := by decide +kernel
theorem dX12_unit_200 : decode cX12_unit 200 = .ok (.aload_n 0, 1) := by decide +kernel
theorem dX12_unit_201 : decode cX12_unit 201 = .ok (.getfield 241, 3) := by decide +kernel
theorem dX12_unit_204 : decode cX12_unit 204 = .ok (.goto 4, 3) := by decide +kernel
theorem dX12_unit_207 : decode cX12_unit 207 = .ok (.iconst 0, 1) := by decide +kernel
theorem dX12_unit_208 : decode cX12_unit 208 = .ok (.istore 6, 2) := by decide +kernel
theorem dX12_unit_210 : decode cX12_unit 210 = .ok (.aload_n 0, 1) := by decide +kernel
theorem dX12_unit_211 : decode cX12_unit 211 = .ok (.invokevirtual 255, 3) := by decide +kernel
theorem dX12_unit_214 : decode cX12_unit 214 = .ok (.iload_n 2, 1) := by decide +kernel
theorem dX12_unit_215 : decode cX12_unit 215 = .ok (.ifCond .ne 7, 3) := by decide +kernel
theorem dX12_unit_218 : decode cX12_unit 218 = .ok (.iload_n 3, 1) := by decide +kernel
theorem dX12_unit_219 : decode cX12_unit 219 = .ok (.ifCond .eq 31, 3) := by decide +kernel
theorem dX12_unit_222 : decode cX12_unit 222 = .ok (.aload_n 0, 1) := by decide +kernel
theorem dX12_unit_223 : decode cX12_unit 223 = .ok (.iload_n 2, 1) := by decide +kernel
theorem dX12_unit_224 : decode cX12_unit 224 = .ok (.ifCond .eq 7, 3) := by decide +kernel
theorem dX12_unit_227 : decode cX12_unit 227 = .ok (.iconst 3, 1) := by decide +kernel
theorem dX12_unit_228 : decode cX12_unit 228 = .ok (.goto 5, 3) := by decide +kernel
theorem dX12_unit_231 : decode cX12_unit 231 = .ok (.bipush 7, 2) := by decide +kernel
theorem dX12_unit_233 : decode cX12_unit 233 = .ok (.bipush 126, 2) := by decide +kernel
theorem dX12_unit_235 : decode cX12_unit 235 = .ok (.invokevirtual 344, 3) := by decide +kernel
theorem dX12_unit_238 : decode cX12_unit 238 = .ok (.aload_n 0, 1) := by decide +kernel
theorem dX12_unit_239 : decode cX12_unit 239 = .ok (.dup, 1) := by decide +kernel
theorem dX12_unit_240 : decode cX12_unit 240 = .ok (.getfield 341, 3) := by decide +kernel
theorem dX12_unit_243 : decode cX12_unit 243 = .ok (.iconst 1, 1) := by decide +kernel
theorem dX12_unit_244 : decode cX12_unit 244 = .ok (.iadd, 1) := by decide +kernel
theorem dX12_unit_245 : decode cX12_unit 245 = .ok (.putfield 341, 3) := by decide +kernel
theorem dX12_unit_248 : decode cX12_unit 248 = .ok (.iconst 1, 1) := by decide +kernel
theorem dX12_unit_249 : decode cX12_unit 249 = .ok (.ireturn, 1) := by decide +kernel
theorem dX12_unit_250 : decode cX12_unit 250 = .ok (.aload_n 0, 1) := by decide +kernel
theorem dX12_unit_251 : decode cX12_unit 251 = .ok (.iload 4, 2) := by decide +kernel
theorem dX12_unit_253 : decode cX12_unit 253 = .ok (.ifCond .ne 8, 3) := by decide +kernel
theorem dX12_unit_256 : decode cX12_unit 256 = .ok (.bipush 110, 2) := by decide +kernel
theorem dX12_unit_258 : decode cX12_unit 258 = .ok (.goto 5, 3) := by decide +kernel
theorem dX12_unit_261 : decode cX12_unit 261 = .ok (.iload 4, 2) := by decide +kernel
theorem dX12_unit_263 : decode cX12_unit 263 = .ok (.iload 6, 2) := by decide +kernel
theorem dX12_unit_265 : decode cX12_unit 265 = .ok (.invokevirtual 356, 3) := by decide +kernel
theorem dX12_unit_268 : decode cX12_unit 268 = .ok (.iconst 0, 1) := by decide +kernel
theorem dX12_unit_269 : decode cX12_unit 269 = .ok (.ireturn, 1) := by decide +kernel
theorem dX12_behindUnit_0 : decode cX12_behindUnit 0 = .ok (.aload_n 0, 1) := by decide +kernel
theorem dX12_behindUnit_1 : decode cX12_behindUnit 1 = .ok (.invokevirtual 359, 3) := by decide +kernel
theorem dX12_behindUnit_4 : decode cX12_behindUnit 4 = .ok (.istore_n 1, 1) := by decide +kernel
theorem dX12_behindUnit_5 : decode cX12_behindUnit 5 = .ok (.iload_n 1, 1) := by decide +kernel
theorem dX12_behindUnit_6 : decode cX12_behindUnit 6 = .ok (.iconst 4, 1) := by decide +kernel
theorem dX12_behindUnit_7 : decode cX12_behindUnit 7 = .ok (.if_icmp .ne 16, 3) := by decide +kernel
theorem dX12_behindUnit_10 : decode cX12_behindUnit 10 = .ok (.aload_n 0, 1) := by decide +kernel
theorem dX12_behindUnit_11 : decode cX12_behindUnit 11 = .ok (.invokevirtual 362, 3) := by decide +kernel
theorem dX12_behindUnit_14 : decode cX12_behindUnit 14 = .ok (.ifCond .eq 9, 3) := by decide +kernel
theorem dX12_behindUnit_17 : decode cX12_behindUnit 17 = .ok (.aload_n 0, 1) := by decide +kernel
theorem dX12_behindUnit_18 : decode cX12_behindUnit 18 = .ok (.invokevirtual 258, 3) := by decide +kernel
theorem dX12_behindUnit_21 : decode cX12_behindUnit 21 = .ok (.iconst 1, 1) := by decide +kernel
theorem dX12_behindUnit_22 : decode cX12_behindUnit 22 = .ok (.ireturn, 1) := by decide +kernel
theorem dX12_behindUnit_23 : decode cX12_behindUnit 23 = .ok (.aload_n 0, 1) := by decide +kernel
theorem dX12_behindUnit_24 : decode cX12_behindUnit 24 = .ok (.getfield 86, 3) := by decide +kernel
theorem dX12_behindUnit_27 : decode cX12_behindUnit 27 = .ok (.aload_n 0, 1) := by decide +kernel
theorem dX12_behindUnit_28 : decode cX12_behindUnit 28 = .ok (.getfield 338, 3) := by decide +kernel
theorem dX12_behindUnit_31 : decode cX12_behindUnit 31 = .ok (.iconst 1, 1) := by decide +kernel
theorem dX12_behindUnit_32 : decode cX12_behindUnit 32 = .ok (.isub, 1) := by decide +kernel
theorem dX12_behindUnit_33 : decode cX12_behindUnit 33 = .ok (.iaload, 1) := by decide +kernel
theorem dX12_behindUnit_34 : decode cX12_behindUnit 34 = .ok (.bipush 6, 2) := by decide +kernel
theorem dX12_behindUnit_36 : decode cX12_behindUnit 36 = .ok (.if_icmp .gt 68, 3) := by decide +kernel
theorem dX12_behindUnit_39 : decode cX12_behindUnit 39 = .ok (.aload_n 0, 1) := by decide +kernel
theorem dX12_behindUnit_40 : decode cX12_behindUnit 40 = .ok (.getfield 86, 3) := by decide +kernel
theorem dX12_behindUnit_43 : decode cX12_behindUnit 43 = .ok (.aload_n 0, 1) := by decide +kernel
theorem dX12_behindUnit_44 : decode cX12_behindUnit 44 = .ok (.getfield 338, 3) := by decide +kernel
theorem dX12_behindUnit_47 : decode cX12_behindUnit 47 = .ok (.iconst 1, 1) := by decide +kernel
theorem dX12_behindUnit_48 : decode cX12_behindUnit 48 = .ok (.isub, 1) := by decide +kernel
theorem dX12_behindUnit_49 : decode cX12_behindUnit 49 = .ok (.iaload, 1) := by decide +kernel
theorem dX12_behindUnit_50 : decode cX12_behindUnit 50 = .ok (.iload_n 1, 1) := by decide +kernel
theorem dX12_behindUnit_51 : decode cX12_behindUnit 51 = .ok (.if_icmp .lt 53, 3) := by decide +kernel
theorem dX12_behindUnit_54 : decode cX12_behindUnit 54 = .ok (.aload_n 0, 1) := by decide +kernel
theorem dX12_behindUnit_55 : decode cX12_behindUnit 55 = .ok (.dup, 1) := by decide +kernel
theorem dX12_behindUnit_56 : decode cX12_behindUnit 56 = .ok (.getfield 338, 3) := by decide +kernel
theorem dX12_behindUnit_59 : decode cX12_behindUnit 59 = .ok (.iconst 1, 1) := by decide +kernel
theorem dX12_behindUnit_60 : decode cX12_behindUnit 60 = .ok (.isub, 1) := by decide +kernel
theorem dX12_behindUnit_61 : decode cX12_behindUnit 61 = .ok (.putfield 338, 3) := by decide +kernel
theorem dX12_behindUnit_64 : decode cX12_behindUnit 64 = .ok (.aload_n 0, 1) := by decide +kernel
theorem dX12_behindUnit_65 : decode cX12_behindUnit 65 = .ok (.getfield 86, 3) := by decide +kernel
theorem dX12_behindUnit_68 : decode cX12_behindUnit 68 = .ok (.aload_n 0, 1) := by decide +kernel
theorem dX12_behindUnit_69 : decode cX12_behindUnit 69 = .ok (.getfield 338, 3) := by decide +kernel
theorem dX12_behindUnit_72 : decode cX12_behindUnit 72 = .ok (.iaload, 1) := by decide +kernel
theorem dX12_behindUnit_73 : decode cX12_behindUnit 73 = .ok (.iconst 3, 1) := by decide +kernel
theorem dX12_behindUnit_74 : decode cX12_behindUnit 74 = .ok (.if_icmp .ne 13, 3) := by decide +kernel
theorem dX12_behindUnit_77 : decode cX12_behindUnit 77 = .ok (.aload_n 0, 1) := by decide +kernel
theorem dX12_behindUnit_78 : decode cX12_behindUnit 78 = .ok (.dup, 1) := by decide +kernel
theorem dX12_behindUnit_79 : decode cX12_behindUnit 79 = .ok (.getfield 341, 3) := by decide +kernel
theorem dX12_behindUnit_82 : decode cX12_behindUnit 82 = .ok (.iconst 1, 1) := by decide +kernel
theorem dX12_behindUnit_83 : decode cX12_behindUnit 83 = .ok (.isub, 1) := by decide +kernel
theorem dX12_behindUnit_84 : decode cX12_behindUnit 84 = .ok (.putfield 341, 3) := by decide +kernel
theorem dX12_behindUnit_87 : decode cX12_behindUnit 87 = .ok (.aload_n 0, 1) := by decide +kernel
theorem dX12_behindUnit_88 : decode cX12_behindUnit 88 = .ok (.aload_n 0, 1) := by decide +kernel
theorem dX12_behindUnit_89 : decode cX12_behindUnit 89 = .ok (.getfield 89, 3) := by decide +kernel
theorem dX12_behindUnit_92 : decode cX12_behindUnit 92 = .ok (.aload_n 0, 1) := by decide +kernel
theorem dX12_behindUnit_93 : decode cX12_behindUnit 93 = .ok (.getfield 338, 3) := by decide +kernel
theorem dX12_behindUnit_96 : decode cX12_behindUnit 96 = .ok (.iaload, 1) := by decide +kernel
theorem dX12_behindUnit_97 : decode cX12_behindUnit 97 = .ok (.iconst 0, 1) := by decide +kernel
theorem dX12_behindUnit_98 : decode cX12_behindUnit 98 = .ok (.invokevirtual 356, 3) := by decide +kernel
theorem dX12_behindUnit_101 : decode cX12_behindUnit 101 = .ok (.goto (-78), 3) := by decide +kernel
theorem dX12_behindUnit_104 : decode cX12_behindUnit 104 = .ok (.iload_n 1, 1) := by decide +kernel
theorem dX12_behindUnit_105 : decode cX12_behindUnit 105 = .ok (.ifCond .le 42, 3) := by decide +kernel
theorem dX12_behindUnit_108 : decode cX12_behindUnit 108 = .ok (.aload_n 0, 1) := by decide +kernel
theorem dX12_behindUnit_109 : decode cX12_behindUnit 109 = .ok (.iload_n 1, 1) := by decide +kernel
theorem dX12_behindUnit_110 : decode cX12_behindUnit 110 = .ok (.iload_n 1, 1) := by decide +kernel
theorem dX12_behindUnit_111 : decode cX12_behindUnit 111 = .ok (.iconst 2, 1) := by decide +kernel
theorem dX12_behindUnit_112 : decode cX12_behindUnit 112 = .ok (.if_icmp .ne 8, 3) := by decide +kernel
theorem dX12_behindUnit_115 : decode cX12_behindUnit 115 = .ok (.bipush 38, 2) := by decide +kernel
theorem dX12_behindUnit_117 : decode cX12_behindUnit 117 = .ok (.goto 21, 3) := by decide +kernel
theorem dX12_behindUnit_120 : decode cX12_behindUnit 120 = .ok (.iload_n 1, 1) := by decide +kernel
theorem dX12_behindUnit_121 : decode cX12_behindUnit 121 = .ok (.iconst 1, 1) := by decide +kernel
theorem dX12_behindUnit_122 : decode cX12_behindUnit 122 = .ok (.if_icmp .ne 8, 3) := by decide +kernel
theorem dX12_behindUnit_125 : decode cX12_behindUnit 125 = .ok (.bipush 124, 2) := by decide +kernel
theorem dX12_behindUnit_127 : decode cX12_behindUnit 127 = .ok (.goto 11, 3) := by decide +kernel
theorem dX12_behindUnit_130 : decode cX12_behindUnit 130 = .ok (.aload_n 0, 1) := by decide +kernel
theorem dX12_behindUnit_131 : decode cX12_behindUnit 131 = .ok (.aload_n 0, 1) := by decide +kernel
theorem dX12_behindUnit_132 : decode cX12_behindUnit 132 = .ok (.getfield 216, 3) := by decide +kernel
theorem dX12_behindUnit_135 : decode cX12_behindUnit 135 = .ok (.invokevirtual 219, 3) := by decide +kernel
theorem dX12_behindUnit_138 : decode cX12_behindUnit 138 = .ok (.invokevirtual 344, 3) := by decide +kernel
theorem dX12_behindUnit_141 : decode cX12_behindUnit 141 = .ok (.aload_n 0, 1) := by decide +kernel
theorem dX12_behindUnit_142 : decode cX12_behindUnit 142 = .ok (.invokevirtual 255, 3) := by decide +kernel
theorem dX12_behindUnit_145 : decode cX12_behindUnit 145 = .ok (.iconst 1, 1) := by decide +kernel
theorem dX12_behindUnit_146 : decode cX12_behindUnit 146 = .ok (.ireturn, 1) := by decide +kernel
theorem dX12_behindUnit_147 : decode cX12_behindUnit 147 = .ok (.aload_n 0, 1) := by decide +kernel
theorem dX12_behindUnit_148 : decode cX12_behindUnit 148 = .ok (.dup, 1) := by decide +kernel
theorem dX12_behindUnit_149 : decode cX12_behindUnit 149 = .ok (.getfield 338, 3) := by decide +kernel
theorem dX12_behindUnit_152 : decode cX12_behindUnit 152 = .ok (.iconst 1, 1) := by decide +kernel
theorem dX12_behindUnit_153 : decode cX12_behindUnit 153 = .ok (.isub, 1) := by decide +kernel
theorem dX12_behindUnit_154 : decode cX12_behindUnit 154 = .ok (.putfield 338, 3) := by decide +kernel
theorem dX12_behindUnit_157 : decode cX12_behindUnit 157 = .ok (.aload_n 0, 1) := by decide +kernel
theorem dX12_behindUnit_158 : decode cX12_behindUnit 158 = .ok (.getfield 86, 3) := by decide +kernel
theorem dX12_behindUnit_161 : decode cX12_behindUnit 161 = .ok (.aload_n 0, 1) := by decide +kernel
theorem dX12_behindUnit_162 : decode cX12_behindUnit 162 = .ok (.getfield 338, 3) := by decide +kernel
theorem dX12_behindUnit_165 : decode cX12_behindUnit 165 = .ok (.iaload, 1) := by decide +kernel
theorem dX12_behindUnit_166 : decode cX12_behindUnit 166 = .ok (.bipush 7, 2) := by decide +kernel
theorem dX12_behindUnit_168 : decode cX12_behindUnit 168 = .ok (.if_icmp .ne 23, 3) := by decide +kernel
theorem dX12_behindUnit_171 : decode cX12_behindUnit 171 = .ok (.aload_n 0, 1) := by decide +kernel
theorem dX12_behindUnit_172 : decode cX12_behindUnit 172 = .ok (.dup, 1) := by decide +kernel
theorem dX12_behindUnit_173 : decode cX12_behindUnit 173 = .ok (.getfield 341, 3) := by decide +kernel
theorem dX12_behindUnit_176 : decode cX12_behindUnit 176 = .ok (.iconst 1, 1) := by decide +kernel
theorem dX12_behindUnit_177 : decode cX12_behindUnit 177 = .ok (.isub, 1) := by decide +kernel
theorem dX12_behindUnit_178 : decode cX12_behindUnit 178 = .ok (.putfield 341, 3) := by decide +kernel
theorem dX12_behindUnit_181 : decode cX12_behindUnit 181 = .ok (.aload_n 0, 1) := by decide +kernel
theorem dX12_behindUnit_182 : decode cX12_behindUnit 182 = .ok (.aload_n 0, 1) := by decide +kernel
theorem dX12_behindUnit_183 : decode cX12_behindUnit 183 = .ok (.bipush 41, 2) := by decide +kernel
theorem dX12_behindUnit_185 : decode cX12_behindUnit 185 = .ok (.invokevirtual 302, 3) := by decide +kernel
theorem dX12_behindUnit_188 : decode cX12_behindUnit 188 = .ok (.invokevirtual 305, 3) := by decide +kernel
theorem dX12_behindUnit_191 : decode cX12_behindUnit 191 = .ok (.iconst 0, 1) := by decide +kernel
theorem dX12_behindUnit_192 : decode cX12_behindUnit 192 = .ok (.ireturn, 1) := by decide +kernel
theorem dX12_e_0 : decode cX12_e 0 = .ok (.aload_n 0, 1) := by decide +kernel
theorem dX12_e_1 : decode cX12_e 1 = .ok (.iconst 0, 1) := by decide +kernel
theorem dX12_e_2 : decode cX12_e 2 = .ok (.putfield 338, 3) := by decide +kernel
theorem dX12_e_5 : decode cX12_e 5 = .ok (.aload_n 0, 1) := by decide +kernel
theorem dX12_e_6 : decode cX12_e 6 = .ok (.iconst 0, 1) := by decide +kernel
theorem dX12_e_7 : decode cX12_e 7 = .ok (.putfield 341, 3) := by decide +kernel
theorem dX12_e_10 : decode cX12_e 10 = .ok (.aload_n 0, 1) := by decide +kernel
theorem dX12_e_11 : decode cX12_e 11 = .ok (.bipush 8, 2) := by decide +kernel
theorem dX12_e_13 : decode cX12_e 13 = .ok (.iconst 0, 1) := by decide +kernel
theorem dX12_e_14 : decode cX12_e 14 = .ok (.invokevirtual 344, 3) := by decide +kernel
theorem dX12_e_17 : decode cX12_e 17 = .ok (.iconst 1, 1) := by decide +kernel
theorem dX12_e_18 : decode cX12_e 18 = .ok (.istore_n 1, 1) := by decide +kernel
theorem dX12_e_19 : decode cX12_e 19 = .ok (.aload_n 0, 1) := by decide +kernel
theorem dX12_e_20 : decode cX12_e 20 = .ok (.invokevirtual 251, 3) := by decide +kernel
theorem dX12_e_23 : decode cX12_e 23 = .ok (.ifCond .eq 29, 3) := by decide +kernel
theorem dX12_e_26 : decode cX12_e 26 = .ok (.aload_n 0, 1) := by decide +kernel
theorem dX12_e_27 : decode cX12_e 27 = .ok (.getfield 338, 3) := by decide +kernel
theorem dX12_e_30 : decode cX12_e 30 = .ok (.ifCond .le 22, 3) := by decide +kernel
theorem dX12_e_33 : decode cX12_e 33 = .ok (.iload_n 1, 1) := by decide +kernel
theorem dX12_e_34 : decode cX12_e 34 = .ok (.ifCond .eq 10, 3) := by decide +kernel
theorem dX12_e_37 : decode cX12_e 37 = .ok (.aload_n 0, 1) := by decide +kernel
theorem dX12_e_38 : decode cX12_e 38 = .ok (.invokevirtual 347, 3) := by decide +kernel
theorem dX12_e_41 : decode cX12_e 41 = .ok (.goto 7, 3) := by decide +kernel
theorem dX12_e_44 : decode cX12_e 44 = .ok (.aload_n 0, 1) := by decide +kernel
theorem dX12_e_45 : decode cX12_e 45 = .ok (.invokevirtual 350, 3) := by decide +kernel
theorem dX12_e_48 : decode cX12_e 48 = .ok (.istore_n 1, 1) := by decide +kernel
theorem dX12_e_49 : decode cX12_e 49 = .ok (.goto (-30), 3) := by decide +kernel
theorem dX12_e_52 : decode cX12_e 52 = .ok (.return_, 1) := by decide +kernel
theorem dX12_readRule_0 : decode cX12_readRule 0 = .ok (.aload_n 0, 1) := by decide +kernel
theorem dX12_readRule_1 : decode cX12_readRule 1 = .ok (.iconst 0, 1) := by decide +kernel
theorem dX12_readRule_2 : decode cX12_readRule 2 = .ok (.putfield 332, 3) := by decide +kernel
theorem dX12_readRule_5 : decode cX12_readRule 5 = .ok (.aload_n 0, 1) := by decide +kernel
theorem dX12_readRule_6 : decode cX12_readRule 6 = .ok (.getfield 60, 3) := by decide +kernel
theorem dX12_readRule_9 : decode cX12_readRule 9 = .ok (.aload_n 0, 1) := by decide +kernel
theorem dX12_readRule_10 : decode cX12_readRule 10 = .ok (.getfield 271, 3) := by decide +kernel
theorem dX12_readRule_13 : decode cX12_readRule 13 = .ok (.iload_n 1, 1) := by decide +kernel
theorem dX12_readRule_14 : decode cX12_readRule 14 = .ok (.iadd, 1) := by decide +kernel
theorem dX12_readRule_15 : decode cX12_readRule 15 = .ok (.aload_n 0, 1) := by decide +kernel
theorem dX12_readRule_16 : decode cX12_readRule 16 = .ok (.getfield 274, 3) := by decide +kernel
theorem dX12_readRule_19 : decode cX12_readRule 19 = .ok (.iastore, 1) := by decide +kernel
theorem dX12_readRule_20 : decode cX12_readRule 20 = .ok (.aload_n 0, 1) := by decide +kernel
theorem dX12_readRule_21 : decode cX12_readRule 21 = .ok (.invokevirtual 335, 3) := by decide +kernel
theorem dX12_readRule_24 : decode cX12_readRule 24 = .ok (.aload_n 0, 1) := by decide +kernel
theorem dX12_readRule_25 : decode cX12_readRule 25 = .ok (.getfield 63, 3) := by decide +kernel
theorem dX12_readRule_28 : decode cX12_readRule 28 = .ok (.aload_n 0, 1) := by decide +kernel
theorem dX12_readRule_29 : decode cX12_readRule 29 = .ok (.getfield 271, 3) := by decide +kernel
theorem dX12_readRule_32 : decode cX12_readRule 32 = .ok (.iload_n 1, 1) := by decide +kernel
theorem dX12_readRule_33 : decode cX12_readRule 33 = .ok (.iadd, 1) := by decide +kernel
theorem dX12_readRule_34 : decode cX12_readRule 34 = .ok (.aload_n 0, 1) := by decide +kernel
theorem dX12_readRule_35 : decode cX12_readRule 35 = .ok (.getfield 274, 3) := by decide +kernel
theorem dX12_readRule_38 : decode cX12_readRule 38 = .ok (.iastore, 1) := by decide +kernel
theorem dX12_readRule_39 : decode cX12_readRule 39 = .ok (.return_, 1) := by decide +kernel
theorem dX12_readLine_0 : decode cX12_readLine 0 = .ok (.aload_n 0, 1) := by decide +kernel
theorem dX12_readLine_1 : decode cX12_readLine 1 = .ok (.getfield 230, 3) := by decide +kernel
theorem dX12_readLine_4 : decode cX12_readLine 4 = .ok (.lstore_n 1, 1) := by decide +kernel
theorem dX12_readLine_5 : decode cX12_readLine 5 = .ok (.aload_n 0, 1) := by decide +kernel
theorem dX12_readLine_6 : decode cX12_readLine 6 = .ok (.getfield 223, 3) := by decide +kernel
theorem dX12_readLine_9 : decode cX12_readLine 9 = .ok (.iconst 3, 1) := by decide +kernel
theorem dX12_readLine_10 : decode cX12_readLine 10 = .ok (.if_icmp .ne 10, 3) := by decide +kernel
theorem dX12_readLine_13 : decode cX12_readLine 13 = .ok (.aload_n 0, 1) := by decide +kernel
theorem dX12_readLine_14 : decode cX12_readLine 14 = .ok (.invokevirtual 286, 3) := by decide +kernel
theorem dX12_readLine_17 : decode cX12_readLine 17 = .ok (.ifCond .eq 7, 3) := by decide +kernel
theorem dX12_readLine_20 : decode cX12_readLine 20 = .ok (.aload_n 0, 1) := by decide +kernel
theorem dX12_readLine_21 : decode cX12_readLine 21 = .ok (.invokevirtual 258, 3) := by decide +kernel
theorem dX12_readLine_24 : decode cX12_readLine 24 = .ok (.aload_n 0, 1) := by decide +kernel
theorem dX12_readLine_25 : decode cX12_readLine 25 = .ok (.invokevirtual 251, 3) := by decide +kernel
theorem dX12_readLine_28 : decode cX12_readLine 28 = .ok (.ifCond .ne 4, 3) := by decide +kernel
theorem dX12_readLine_31 : decode cX12_readLine 31 = .ok (.return_, 1) := by decide +kernel
theorem dX12_readLine_32 : decode cX12_readLine 32 = .ok (.aload_n 0, 1) := by decide +kernel
theorem dX12_readLine_33 : decode cX12_readLine 33 = .ok (.invokevirtual 255, 3) := by decide +kernel
theorem dX12_readLine_36 : decode cX12_readLine 36 = .ok (.lload_n 1, 1) := by decide +kernel
theorem dX12_readLine_37 : decode cX12_readLine 37 = .ok (.ldc2_w 179, 3) := by decide +kernel
theorem dX12_readLine_40 : decode cX12_readLine 40 = .ok (.lcmp, 1) := by decide +kernel
theorem dX12_readLine_41 : decode cX12_readLine 41 = .ok (.ifCond .ne 7, 3) := by decide +kernel
theorem dX12_readLine_44 : decode cX12_readLine 44 = .ok (.aload_n 0, 1) := by decide +kernel
theorem dX12_readLine_45 : decode cX12_readLine 45 = .ok (.invokevirtual 289, 3) := by decide +kernel
theorem dX12_readLine_48 : decode cX12_readLine 48 = .ok (.lload_n 1, 1) := by decide +kernel
theorem dX12_readLine_49 : decode cX12_readLine 49 = .ok (.ldc2_w 183, 3) := by decide +kernel
theorem dX12_readLine_52 : decode cX12_readLine 52 = .ok (.lcmp, 1) := by decide +kernel
theorem dX12_readLine_53 : decode cX12_readLine 53 = .ok (.ifCond .ne 7, 3) := by decide +kernel
theorem dX12_readLine_56 : decode cX12_readLine 56 = .ok (.aload_n 0, 1) := by decide +kernel
theorem dX12_readLine_57 : decode cX12_readLine 57 = .ok (.invokevirtual 292, 3) := by decide +kernel
theorem dX12_readLine_60 : decode cX12_readLine 60 = .ok (.lload_n 1, 1) := by decide +kernel
theorem dX12_readLine_61 : decode cX12_readLine 61 = .ok (.ldc2_w 185, 3) := by decide +kernel
theorem dX12_readLine_64 : decode cX12_readLine 64 = .ok (.lcmp, 1) := by decide +kernel
theorem dX12_readLine_65 : decode cX12_readLine 65 = .ok (.ifCond .ne 7, 3) := by decide +kernel
theorem dX12_readLine_68 : decode cX12_readLine 68 = .ok (.aload_n 0, 1) := by decide +kernel
theorem dX12_readLine_69 : decode cX12_readLine 69 = .ok (.invokevirtual 295, 3) := by decide +kernel
theorem dX12_readLine_72 : decode cX12_readLine 72 = .ok (.lload_n 1, 1) := by decide +kernel
theorem dX12_readLine_73 : decode cX12_readLine 73 = .ok (.ldc2_w 197, 3) := by decide +kernel
theorem dX12_readLine_76 : decode cX12_readLine 76 = .ok (.lcmp, 1) := by decide +kernel
theorem dX12_readLine_77 : decode cX12_readLine 77 = .ok (.ifCond .ne 18, 3) := by decide +kernel
theorem dX12_readLine_80 : decode cX12_readLine 80 = .ok (.aload_n 0, 1) := by decide +kernel
theorem dX12_readLine_81 : decode cX12_readLine 81 = .ok (.getfield 66, 3) := by decide +kernel
theorem dX12_readLine_84 : decode cX12_readLine 84 = .ok (.aload_n 0, 1) := by decide +kernel
theorem dX12_readLine_85 : decode cX12_readLine 85 = .ok (.getfield 271, 3) := by decide +kernel
theorem dX12_readLine_88 : decode cX12_readLine 88 = .ok (.iconst 1, 1) := by decide +kernel
theorem dX12_readLine_89 : decode cX12_readLine 89 = .ok (.bastore, 1) := by decide +kernel
theorem dX12_readLine_90 : decode cX12_readLine 90 = .ok (.aload_n 0, 1) := by decide +kernel
theorem dX12_readLine_91 : decode cX12_readLine 91 = .ok (.iconst 0, 1) := by decide +kernel
theorem dX12_readLine_92 : decode cX12_readLine 92 = .ok (.invokevirtual 298, 3) := by decide +kernel
theorem dX12_readLine_95 : decode cX12_readLine 95 = .ok (.lload_n 1, 1) := by decide +kernel
theorem dX12_readLine_96 : decode cX12_readLine 96 = .ok (.ldc2_w 199, 3) := by decide +kernel
theorem dX12_readLine_99 : decode cX12_readLine 99 = .ok (.lcmp, 1) := by decide +kernel
theorem dX12_readLine_100 : decode cX12_readLine 100 = .ok (.ifCond .ne 30, 3) := by decide +kernel
theorem dX12_readLine_103 : decode cX12_readLine 103 = .ok (.aload_n 0, 1) := by decide +kernel
theorem dX12_readLine_104 : decode cX12_readLine 104 = .ok (.getfield 70, 3) := by decide +kernel
theorem dX12_readLine_107 : decode cX12_readLine 107 = .ok (.aload_n 0, 1) := by decide +kernel
theorem dX12_readLine_108 : decode cX12_readLine 108 = .ok (.getfield 271, 3) := by decide +kernel
theorem dX12_readLine_111 : decode cX12_readLine 111 = .ok (.iconst 1, 1) := by decide +kernel
theorem dX12_readLine_112 : decode cX12_readLine 112 = .ok (.bastore, 1) := by decide +kernel
theorem dX12_readLine_113 : decode cX12_readLine 113 = .ok (.aload_n 0, 1) := by decide +kernel
theorem dX12_readLine_114 : decode cX12_readLine 114 = .ok (.getfield 33, 3) := by decide +kernel
theorem dX12_readLine_117 : decode cX12_readLine 117 = .ok (.aload_n 0, 1) := by decide +kernel
theorem dX12_readLine_118 : decode cX12_readLine 118 = .ok (.getfield 271, 3) := by decide +kernel
theorem dX12_readLine_121 : decode cX12_readLine 121 = .ok (.aload_n 0, 1) := by decide +kernel
theorem dX12_readLine_122 : decode cX12_readLine 122 = .ok (.iconst 0, 1) := by decide +kernel
theorem dX12_readLine_123 : decode cX12_readLine 123 = .ok (.sipush 999, 3) := by decide +kernel
theorem dX12_readLine_126 : decode cX12_readLine 126 = .ok (.invokevirtual 267, 3) := by decide +kernel
theorem dX12_readLine_129 : decode cX12_readLine 129 = .ok (.iastore, 1) := by decide +kernel
theorem dX12_readLine_130 : decode cX12_readLine 130 = .ok (.aload_n 0, 1) := by decide +kernel
theorem dX12_readLine_131 : decode cX12_readLine 131 = .ok (.aload_n 0, 1) := by decide +kernel
theorem dX12_readLine_132 : decode cX12_readLine 132 = .ok (.bipush 59, 2) := by decide +kernel
theorem dX12_readLine_134 : decode cX12_readLine 134 = .ok (.invokevirtual 302, 3) := by decide +kernel
theorem dX12_readLine_137 : decode cX12_readLine 137 = .ok (.invokevirtual 305, 3) := by decide +kernel
theorem dX12_readLine_140 : decode cX12_readLine 140 = .ok (.return_, 1) := by decide +kernel
theorem dX12_fault_0 : decode cX12_fault 0 = .ok (.iload_n 1, 1) := by decide +kernel
theorem dX12_fault_1 : decode cX12_fault 1 = .ok (.ifCond .ne 10, 3) := by decide +kernel
theorem dX12_fault_4 : decode cX12_fault 4 = .ok (.aload_n 0, 1) := by decide +kernel
theorem dX12_fault_5 : decode cX12_fault 5 = .ok (.getfield 176, 3) := by decide +kernel
theorem dX12_fault_8 : decode cX12_fault 8 = .ok (.goto 16, 3) := by decide +kernel
theorem dX12_fault_11 : decode cX12_fault 11 = .ok (.iload_n 1, 1) := by decide +kernel
theorem dX12_fault_12 : decode cX12_fault 12 = .ok (.iconst 1, 1) := by decide +kernel
theorem dX12_fault_13 : decode cX12_fault 13 = .ok (.if_icmp .ne 10, 3) := by decide +kernel
theorem dX12_fault_16 : decode cX12_fault 16 = .ok (.aload_n 0, 1) := by decide +kernel
theorem dX12_fault_17 : decode cX12_fault 17 = .ok (.getfield 16, 3) := by decide +kernel
theorem dX12_fault_20 : decode cX12_fault 20 = .ok (.goto 4, 3) := by decide +kernel
theorem dX12_fault_23 : decode cX12_fault 23 = .ok (.iconst (-1), 1) := by decide +kernel
theorem dX12_fault_24 : decode cX12_fault 24 = .ok (.ireturn, 1) := by decide +kernel
theorem dX12_two_0 : decode cX12_two 0 = .ok (.iload_n 0, 1) := by decide +kernel
theorem dX12_two_1 : decode cX12_two 1 = .ok (.tableswitch 202 37 62 #[143, 188, 202, 202, 202, 127, 119, 202, 123, 202, 131, 202, 202, 202, 202, 202, 202, 202, 202, 202, 202, 202, 202, 155, 177, 166], 119) := by decide +kernel
theorem dX12_two_120 : decode cX12_two 120 = .ok (.iload_n 1, 1) := by decide +kernel
theorem dX12_two_121 : decode cX12_two 121 = .ok (.iload_n 2, 1) := by decide +kernel
theorem dX12_two_122 : decode cX12_two 122 = .ok (.iadd, 1) := by decide +kernel
theorem dX12_two_123 : decode cX12_two 123 = .ok (.ireturn, 1) := by decide +kernel
theorem dX12_two_124 : decode cX12_two 124 = .ok (.iload_n 1, 1) := by decide +kernel
theorem dX12_two_125 : decode cX12_two 125 = .ok (.iload_n 2, 1) := by decide +kernel
theorem dX12_two_126 : decode cX12_two 126 = .ok (.isub, 1) := by decide +kernel
theorem dX12_two_127 : decode cX12_two 127 = .ok (.ireturn, 1) := by decide +kernel
theorem dX12_two_128 : decode cX12_two 128 = .ok (.iload_n 1, 1) := by decide +kernel
theorem dX12_two_129 : decode cX12_two 129 = .ok (.iload_n 2, 1) := by decide +kernel
theorem dX12_two_130 : decode cX12_two 130 = .ok (.imul, 1) := by decide +kernel
theorem dX12_two_131 : decode cX12_two 131 = .ok (.ireturn, 1) := by decide +kernel
theorem dX12_two_132 : decode cX12_two 132 = .ok (.iload_n 2, 1) := by decide +kernel
theorem dX12_two_133 : decode cX12_two 133 = .ok (.ifCond .ne 7, 3) := by decide +kernel
theorem dX12_two_136 : decode cX12_two 136 = .ok (.iconst 0, 1) := by decide +kernel
theorem dX12_two_137 : decode cX12_two 137 = .ok (.goto 6, 3) := by decide +kernel
theorem dX12_two_140 : decode cX12_two 140 = .ok (.iload_n 1, 1) := by decide +kernel
theorem dX12_two_141 : decode cX12_two 141 = .ok (.iload_n 2, 1) := by decide +kernel
theorem dX12_two_142 : decode cX12_two 142 = .ok (.idiv, 1) := by decide +kernel
theorem dX12_two_143 : decode cX12_two 143 = .ok (.ireturn, 1) := by decide +kernel
theorem dX12_two_144 : decode cX12_two 144 = .ok (.iload_n 2, 1) := by decide +kernel
theorem dX12_two_145 : decode cX12_two 145 = .ok (.ifCond .ne 7, 3) := by decide +kernel
theorem dX12_two_148 : decode cX12_two 148 = .ok (.iconst 0, 1) := by decide +kernel
theorem dX12_two_149 : decode cX12_two 149 = .ok (.goto 6, 3) := by decide +kernel
theorem dX12_two_152 : decode cX12_two 152 = .ok (.iload_n 1, 1) := by decide +kernel
theorem dX12_two_153 : decode cX12_two 153 = .ok (.iload_n 2, 1) := by decide +kernel
theorem dX12_two_154 : decode cX12_two 154 = .ok (.irem, 1) := by decide +kernel
theorem dX12_two_155 : decode cX12_two 155 = .ok (.ireturn, 1) := by decide +kernel
theorem dX12_two_156 : decode cX12_two 156 = .ok (.iload_n 1, 1) := by decide +kernel
theorem dX12_two_157 : decode cX12_two 157 = .ok (.iload_n 2, 1) := by decide +kernel
theorem dX12_two_158 : decode cX12_two 158 = .ok (.if_icmp .ge 7, 3) := by decide +kernel
theorem dX12_two_161 : decode cX12_two 161 = .ok (.iconst 1, 1) := by decide +kernel
theorem dX12_two_162 : decode cX12_two 162 = .ok (.goto 4, 3) := by decide +kernel
theorem dX12_two_165 : decode cX12_two 165 = .ok (.iconst 0, 1) := by decide +kernel
theorem dX12_two_166 : decode cX12_two 166 = .ok (.ireturn, 1) := by decide +kernel
theorem dX12_two_167 : decode cX12_two 167 = .ok (.iload_n 1, 1) := by decide +kernel
theorem dX12_two_168 : decode cX12_two 168 = .ok (.iload_n 2, 1) := by decide +kernel
theorem dX12_two_169 : decode cX12_two 169 = .ok (.if_icmp .le 7, 3) := by decide +kernel
theorem dX12_two_172 : decode cX12_two 172 = .ok (.iconst 1, 1) := by decide +kernel
theorem dX12_two_173 : decode cX12_two 173 = .ok (.goto 4, 3) := by decide +kernel
theorem dX12_two_176 : decode cX12_two 176 = .ok (.iconst 0, 1) := by decide +kernel
theorem dX12_two_177 : decode cX12_two 177 = .ok (.ireturn, 1) := by decide +kernel
theorem dX12_two_178 : decode cX12_two 178 = .ok (.iload_n 1, 1) := by decide +kernel
theorem dX12_two_179 : decode cX12_two 179 = .ok (.iload_n 2, 1) := by decide +kernel
theorem dX12_two_180 : decode cX12_two 180 = .ok (.if_icmp .ne 7, 3) := by decide +kernel
theorem dX12_two_183 : decode cX12_two 183 = .ok (.iconst 1, 1) := by decide +kernel
theorem dX12_two_184 : decode cX12_two 184 = .ok (.goto 4, 3) := by decide +kernel
theorem dX12_two_187 : decode cX12_two 187 = .ok (.iconst 0, 1) := by decide +kernel
theorem dX12_two_188 : decode cX12_two 188 = .ok (.ireturn, 1) := by decide +kernel
theorem dX12_two_189 : decode cX12_two 189 = .ok (.iload_n 1, 1) := by decide +kernel
theorem dX12_two_190 : decode cX12_two 190 = .ok (.ifCond .eq 11, 3) := by decide +kernel
theorem dX12_two_193 : decode cX12_two 193 = .ok (.iload_n 2, 1) := by decide +kernel
theorem dX12_two_194 : decode cX12_two 194 = .ok (.ifCond .eq 7, 3) := by decide +kernel
theorem dX12_two_197 : decode cX12_two 197 = .ok (.iconst 1, 1) := by decide +kernel
theorem dX12_two_198 : decode cX12_two 198 = .ok (.goto 4, 3) := by decide +kernel
theorem dX12_two_201 : decode cX12_two 201 = .ok (.iconst 0, 1) := by decide +kernel
theorem dX12_two_202 : decode cX12_two 202 = .ok (.ireturn, 1) := by decide +kernel
theorem dX12_two_203 : decode cX12_two 203 = .ok (.iload_n 1, 1) := by decide +kernel
theorem dX12_two_204 : decode cX12_two 204 = .ok (.ifCond .ne 7, 3) := by decide +kernel
theorem dX12_two_207 : decode cX12_two 207 = .ok (.iload_n 2, 1) := by decide +kernel
theorem dX12_two_208 : decode cX12_two 208 = .ok (.ifCond .eq 7, 3) := by decide +kernel
theorem dX12_two_211 : decode cX12_two 211 = .ok (.iconst 1, 1) := by decide +kernel
theorem dX12_two_212 : decode cX12_two 212 = .ok (.goto 4, 3) := by decide +kernel
theorem dX12_two_215 : decode cX12_two 215 = .ok (.iconst 0, 1) := by decide +kernel
theorem dX12_two_216 : decode cX12_two 216 = .ok (.ireturn, 1) := by decide +kernel
theorem dX12_lesser_0 : decode cX12_lesser 0 = .ok (.iload_n 0, 1) := by decide +kernel
theorem dX12_lesser_1 : decode cX12_lesser 1 = .ok (.iload_n 1, 1) := by decide +kernel
theorem dX12_lesser_2 : decode cX12_lesser 2 = .ok (.if_icmp .ge 7, 3) := by decide +kernel
theorem dX12_lesser_5 : decode cX12_lesser 5 = .ok (.iload_n 0, 1) := by decide +kernel
theorem dX12_lesser_6 : decode cX12_lesser 6 = .ok (.goto 4, 3) := by decide +kernel
theorem dX12_lesser_9 : decode cX12_lesser 9 = .ok (.iload_n 1, 1) := by decide +kernel
theorem dX12_lesser_10 : decode cX12_lesser 10 = .ok (.ireturn, 1) := by decide +kernel
theorem dX12_has_0 : decode cX12_has 0 = .ok (.iload_n 0, 1) := by decide +kernel
theorem dX12_has_1 : decode cX12_has 1 = .ok (.iload_n 1, 1) := by decide +kernel
theorem dX12_has_2 : decode cX12_has 2 = .ok (.ishr, 1) := by decide +kernel
theorem dX12_has_3 : decode cX12_has 3 = .ok (.iconst 1, 1) := by decide +kernel
theorem dX12_has_4 : decode cX12_has 4 = .ok (.iand, 1) := by decide +kernel
theorem dX12_has_5 : decode cX12_has 5 = .ok (.iconst 1, 1) := by decide +kernel
theorem dX12_has_6 : decode cX12_has 6 = .ok (.if_icmp .ne 7, 3) := by decide +kernel
theorem dX12_has_9 : decode cX12_has 9 = .ok (.iconst 1, 1) := by decide +kernel
theorem dX12_has_10 : decode cX12_has 10 = .ok (.goto 4, 3) := by decide +kernel
theorem dX12_has_13 : decode cX12_has 13 = .ok (.iconst 0, 1) := by decide +kernel
theorem dX12_has_14 : decode cX12_has 14 = .ok (.ireturn, 1) := by decide +kernel
theorem dX12_places_0 : decode cX12_places 0 = .ok (.aload_n 0, 1) := by decide +kernel
theorem dX12_places_1 : decode cX12_places 1 = .ok (.getfield 20, 3) := by decide +kernel
theorem dX12_places_4 : decode cX12_places 4 = .ok (.aload_n 0, 1) := by decide +kernel
theorem dX12_places_5 : decode cX12_places 5 = .ok (.getfield 280, 3) := by decide +kernel
theorem dX12_places_8 : decode cX12_places 8 = .ok (.iaload, 1) := by decide +kernel
theorem dX12_places_9 : decode cX12_places 9 = .ok (.ireturn, 1) := by decide +kernel
theorem dX12_many_0 : decode cX12_many 0 = .ok (.aload_n 0, 1) := by decide +kernel
theorem dX12_many_1 : decode cX12_many 1 = .ok (.getfield 27, 3) := by decide +kernel
theorem dX12_many_4 : decode cX12_many 4 = .ok (.aload_n 0, 1) := by decide +kernel
theorem dX12_many_5 : decode cX12_many 5 = .ok (.getfield 280, 3) := by decide +kernel
theorem dX12_many_8 : decode cX12_many 8 = .ok (.iaload, 1) := by decide +kernel
theorem dX12_many_9 : decode cX12_many 9 = .ok (.ireturn, 1) := by decide +kernel
theorem dX12_isRoom_0 : decode cX12_isRoom 0 = .ok (.iload_n 1, 1) := by decide +kernel
theorem dX12_isRoom_1 : decode cX12_isRoom 1 = .ok (.iconst 0, 1) := by decide +kernel
theorem dX12_isRoom_2 : decode cX12_isRoom 2 = .ok (.aload_n 0, 1) := by decide +kernel
theorem dX12_isRoom_3 : decode cX12_isRoom 3 = .ok (.invokevirtual 378, 3) := by decide +kernel
theorem dX12_isRoom_6 : decode cX12_isRoom 6 = .ok (.iconst 1, 1) := by decide +kernel
theorem dX12_isRoom_7 : decode cX12_isRoom 7 = .ok (.isub, 1) := by decide +kernel
theorem dX12_isRoom_8 : decode cX12_isRoom 8 = .ok (.invokestatic 381, 3) := by decide +kernel
theorem dX12_isRoom_11 : decode cX12_isRoom 11 = .ok (.ireturn, 1) := by decide +kernel
theorem dX12_areRooms_0 : decode cX12_areRooms 0 = .ok (.aload_n 0, 1) := by decide +kernel
theorem dX12_areRooms_1 : decode cX12_areRooms 1 = .ok (.iload_n 1, 1) := by decide +kernel
theorem dX12_areRooms_2 : decode cX12_areRooms 2 = .ok (.invokevirtual 385, 3) := by decide +kernel
theorem dX12_areRooms_5 : decode cX12_areRooms 5 = .ok (.ifCond .eq 15, 3) := by decide +kernel
theorem dX12_areRooms_8 : decode cX12_areRooms 8 = .ok (.aload_n 0, 1) := by decide +kernel
theorem dX12_areRooms_9 : decode cX12_areRooms 9 = .ok (.iload_n 2, 1) := by decide +kernel
theorem dX12_areRooms_10 : decode cX12_areRooms 10 = .ok (.invokevirtual 385, 3) := by decide +kernel
theorem dX12_areRooms_13 : decode cX12_areRooms 13 = .ok (.ifCond .eq 7, 3) := by decide +kernel
theorem dX12_areRooms_16 : decode cX12_areRooms 16 = .ok (.iconst 1, 1) := by decide +kernel
theorem dX12_areRooms_17 : decode cX12_areRooms 17 = .ok (.goto 4, 3) := by decide +kernel
theorem dX12_areRooms_20 : decode cX12_areRooms 20 = .ok (.iconst 0, 1) := by decide +kernel
theorem dX12_areRooms_21 : decode cX12_areRooms 21 = .ok (.ireturn, 1) := by decide +kernel
theorem dX12_isThing_0 : decode cX12_isThing 0 = .ok (.iload_n 1, 1) := by decide +kernel
theorem dX12_isThing_1 : decode cX12_isThing 1 = .ok (.iconst 0, 1) := by decide +kernel
theorem dX12_isThing_2 : decode cX12_isThing 2 = .ok (.aload_n 0, 1) := by decide +kernel
theorem dX12_isThing_3 : decode cX12_isThing 3 = .ok (.invokevirtual 388, 3) := by decide +kernel
theorem dX12_isThing_6 : decode cX12_isThing 6 = .ok (.iconst 1, 1) := by decide +kernel
theorem dX12_isThing_7 : decode cX12_isThing 7 = .ok (.isub, 1) := by decide +kernel
theorem dX12_isThing_8 : decode cX12_isThing 8 = .ok (.invokestatic 381, 3) := by decide +kernel
theorem dX12_isThing_11 : decode cX12_isThing 11 = .ok (.ireturn, 1) := by decide +kernel
theorem dX12_isSet_0 : decode cX12_isSet 0 = .ok (.iload_n 1, 1) := by decide +kernel
theorem dX12_isSet_1 : decode cX12_isSet 1 = .ok (.iconst 0, 1) := by decide +kernel
theorem dX12_isSet_2 : decode cX12_isSet 2 = .ok (.iconst 1, 1) := by decide +kernel
theorem dX12_isSet_3 : decode cX12_isSet 3 = .ok (.aload_n 0, 1) := by decide +kernel
theorem dX12_isSet_4 : decode cX12_isSet 4 = .ok (.invokevirtual 378, 3) := by decide +kernel
theorem dX12_isSet_7 : decode cX12_isSet 7 = .ok (.ishl, 1) := by decide +kernel
theorem dX12_isSet_8 : decode cX12_isSet 8 = .ok (.iconst 1, 1) := by decide +kernel
theorem dX12_isSet_9 : decode cX12_isSet 9 = .ok (.isub, 1) := by decide +kernel
theorem dX12_isSet_10 : decode cX12_isSet 10 = .ok (.invokestatic 381, 3) := by decide +kernel
theorem dX12_isSet_13 : decode cX12_isSet 13 = .ok (.ireturn, 1) := by decide +kernel
theorem dX12_bitsOf_0 : decode cX12_bitsOf 0 = .ok (.iconst 0, 1) := by decide +kernel
theorem dX12_bitsOf_1 : decode cX12_bitsOf 1 = .ok (.istore_n 1, 1) := by decide +kernel
theorem dX12_bitsOf_2 : decode cX12_bitsOf 2 = .ok (.iload_n 0, 1) := by decide +kernel
theorem dX12_bitsOf_3 : decode cX12_bitsOf 3 = .ok (.istore_n 2, 1) := by decide +kernel
theorem dX12_bitsOf_4 : decode cX12_bitsOf 4 = .ok (.iload_n 2, 1) := by decide +kernel
theorem dX12_bitsOf_5 : decode cX12_bitsOf 5 = .ok (.ifCond .eq 15, 3) := by decide +kernel
theorem dX12_bitsOf_8 : decode cX12_bitsOf 8 = .ok (.iinc 1 1, 3) := by decide +kernel
theorem dX12_bitsOf_11 : decode cX12_bitsOf 11 = .ok (.iload_n 2, 1) := by decide +kernel
theorem dX12_bitsOf_12 : decode cX12_bitsOf 12 = .ok (.iload_n 2, 1) := by decide +kernel
theorem dX12_bitsOf_13 : decode cX12_bitsOf 13 = .ok (.iconst 1, 1) := by decide +kernel
theorem dX12_bitsOf_14 : decode cX12_bitsOf 14 = .ok (.isub, 1) := by decide +kernel
theorem dX12_bitsOf_15 : decode cX12_bitsOf 15 = .ok (.iand, 1) := by decide +kernel
theorem dX12_bitsOf_16 : decode cX12_bitsOf 16 = .ok (.istore_n 2, 1) := by decide +kernel
theorem dX12_bitsOf_17 : decode cX12_bitsOf 17 = .ok (.goto (-13), 3) := by decide +kernel
theorem dX12_bitsOf_20 : decode cX12_bitsOf 20 = .ok (.iload_n 1, 1) := by decide +kernel
theorem dX12_bitsOf_21 : decode cX12_bitsOf 21 = .ok (.ireturn, 1) := by decide +kernel
set_option maxRecDepth 20000 in
theorem ggX12_unit_X12_emit : GoodIn wsX12_unit wsX12_emit := goodIn_r _ [86, 87, 88, 89, 90, 91, 92, 93, 94, 95, 96, 97, 98, 99, 100, 101, 102, 103, 104, 105, 106, 107, 108, 109, 110, 111, 112, 113, 114, 115, 116, 117, 118, 119, 120, 121, 122, 123, 124, 125, 126, 127, 128, 129, 130, 131, 132, 133, 134, 135, 136, 137, 138, 139, 140, 141, 142, 143, 144, 145, 146, 147, 148, 149, 150, 151, 152, 153, 154, 155, 156, 157, 158, 159, 160] (by decide +kernel) (by decide +kernel)
set_option maxRecDepth 20000 in
theorem gX12_unit_X12_emit : GoodIn wsX12_unit (wsV RX12 356 RX12 yX12_emit wsX12_emit) := goodIn_app (goodIn_of _ (by decide +kernel)) ggX12_unit_X12_emit
set_option maxRecDepth 20000 in
theorem ggX12_unit_X12_goOn : GoodIn wsX12_unit wsX12_goOn := goodIn_r _ [53, 54, 20, 25, 7, 15, 9, 21, 22, 23, 13, 24, 26, 55, 56, 57, 58, 59, 60, 61, 62, 63, 64, 65, 66, 67, 31, 32, 68, 69, 33, 34, 35, 70, 71, 3, 72, 73, 74, 75, 76, 77, 90, 91, 92, 93, 94, 95, 96, 97, 98, 99, 100, 101, 102, 103, 104, 105, 106, 107, 108, 109, 110, 111, 112, 113, 114, 115, 116, 117, 118, 119, 120, 121, 122, 123, 124, 125, 126, 127, 128, 129, 130, 131, 132, 133, 134, 135, 136, 137, 138, 139, 140, 141, 142, 143, 144, 145, 146, 147, 148, 149, 150, 151, 152, 153, 154, 155, 156, 157, 158, 159, 160] (by decide +kernel) (by decide +kernel)
set_option maxRecDepth 20000 in
theorem gX12_unit_X12_goOn : GoodIn wsX12_unit (wsV RX12 255 RX12 yX12_goOn wsX12_goOn) := goodIn_app (goodIn_of _ (by decide +kernel)) ggX12_unit_X12_goOn
set_option maxRecDepth 20000 in
theorem ggX12_unit_X12_isGood : GoodIn wsX12_unit wsX12_isGood := goodIn_r _ [49, 44, 90, 91, 92, 93, 94, 95, 96, 97, 98, 99, 100, 101, 102, 103, 104, 105, 106, 107, 108, 109, 110, 111, 112, 113, 114, 115, 116, 117, 118, 119, 120, 121, 122, 123, 124, 125, 126, 127, 128, 129, 130, 131, 132, 133, 134, 135, 136, 137, 138, 139, 140, 141, 142, 143, 144, 145, 146, 147, 148, 149, 150, 151, 152, 153, 154, 155, 156, 157, 158, 159, 160] (by decide +kernel) (by decide +kernel)
set_option maxRecDepth 20000 in
theorem gX12_unit_X12_isGood : GoodIn wsX12_unit (wsV RX12 251 RX12 yX12_isGood wsX12_isGood) := goodIn_app (goodIn_of _ (by decide +kernel)) ggX12_unit_X12_isGood
set_option maxRecDepth 20000 in
theorem ggX12_unit_X12_isSignHere : GoodIn wsX12_unit wsX12_isSignHere := goodIn_r _ [19, 7, 20, 21, 22, 23, 13, 24, 25, 26, 90, 91, 92, 93, 94, 95, 96, 97, 98, 99, 100, 101, 102, 103, 104, 105, 106, 107, 108, 109, 110, 111, 112, 113, 114, 115, 116, 117, 118, 119, 120, 121, 122, 123, 124, 125, 126, 127, 128, 129, 130, 131, 132, 133, 134, 135, 136, 137, 138, 139, 140, 141, 142, 143, 144, 145, 146, 147, 148, 149, 150, 151, 152, 153, 154, 155, 156, 157, 158, 159, 160] (by decide +kernel) (by decide +kernel)
set_option maxRecDepth 20000 in
theorem gX12_unit_X12_isSignHere : GoodIn wsX12_unit (wsV RX12 302 RX12 yX12_isSignHere wsX12_isSignHere) := goodIn_app (goodIn_of _ (by decide +kernel)) ggX12_unit_X12_isSignHere
set_option maxRecDepth 20000 in
theorem ggX12_unit_X12_isWord : GoodIn wsX12_unit wsX12_isWord := goodIn_r _ [14, 7, 15, 90, 91, 92, 93, 94, 95, 96, 97, 98, 99, 100, 101, 102, 103, 104, 105, 106, 107, 108, 109, 110, 111, 112, 113, 114, 115, 116, 117, 118, 119, 120, 121, 122, 123, 124, 125, 126, 127, 128, 129, 130, 131, 132, 133, 134, 135, 136, 137, 138, 139, 140, 141, 142, 143, 144, 145, 146, 147, 148, 149, 150, 151, 152, 153, 154, 155, 156, 157, 158, 159, 160] (by decide +kernel) (by decide +kernel)
set_option maxRecDepth 20000 in
theorem gX12_unit_X12_isWord : GoodIn wsX12_unit (wsV RX12 261 RX12 yX12_isWord wsX12_isWord) := goodIn_app (goodIn_of _ (by decide +kernel)) ggX12_unit_X12_isWord
set_option maxRecDepth 20000 in
theorem ggX12_unit_X12_misplaced : GoodIn wsX12_unit wsX12_misplaced := goodIn_r _ [39, 7, 20, 40, 41, 42, 13, 43, 44, 45, 90, 91, 92, 93, 94, 95, 96, 97, 98, 99, 100, 101, 102, 103, 104, 105, 106, 107, 108, 109, 110, 111, 112, 113, 114, 115, 116, 117, 118, 119, 120, 121, 122, 123, 124, 125, 126, 127, 128, 129, 130, 131, 132, 133, 134, 135, 136, 137, 138, 139, 140, 141, 142, 143, 144, 145, 146, 147, 148, 149, 150, 151, 152, 153, 154, 155, 156, 157, 158, 159, 160] (by decide +kernel) (by decide +kernel)
set_option maxRecDepth 20000 in
theorem gX12_unit_X12_misplaced : GoodIn wsX12_unit (wsV RX12 258 RX12 yX12_misplaced wsX12_misplaced) := goodIn_app (goodIn_of _ (by decide +kernel)) ggX12_unit_X12_misplaced
set_option maxRecDepth 20000 in
theorem ggX12_unit_X12_pushE : GoodIn wsX12_unit wsX12_pushE := goodIn_r _ [81, 1, 2, 82, 90, 91, 92, 93, 94, 95, 96, 97, 98, 99, 100, 101, 102, 103, 104, 105, 106, 107, 108, 109, 110, 111, 112, 113, 114, 115, 116, 117, 118, 119, 120, 121, 122, 123, 124, 125, 126, 127, 128, 129, 130, 131, 132, 133, 134, 135, 136, 137, 138, 139, 140, 141, 142, 143, 144, 145, 146, 147, 148, 149, 150, 151, 152, 153, 154, 155, 156, 157, 158, 159, 160] (by decide +kernel) (by decide +kernel)
set_option maxRecDepth 20000 in
theorem gX12_unit_X12_pushE : GoodIn wsX12_unit (wsV RX12 344 RX12 yX12_pushE wsX12_pushE) := goodIn_app (goodIn_of _ (by decide +kernel)) ggX12_unit_X12_pushE
set_option maxRecDepth 20000 in
theorem ggX12_unit_X12_wordHere : GoodIn wsX12_unit wsX12_wordHere := goodIn_r _ [30, 31, 32, 33, 34, 35, 10, 11, 12, 13, 14, 7, 15, 90, 91, 92, 93, 94, 95, 96, 97, 98, 99, 100, 101, 102, 103, 104, 105, 106, 107, 108, 109, 110, 111, 112, 113, 114, 115, 116, 117, 118, 119, 120, 121, 122, 123, 124, 125, 126, 127, 128, 129, 130, 131, 132, 133, 134, 135, 136, 137, 138, 139, 140, 141, 142, 143, 144, 145, 146, 147, 148, 149, 150, 151, 152, 153, 154, 155, 156, 157, 158, 159, 160] (by decide +kernel) (by decide +kernel)
set_option maxRecDepth 20000 in
theorem gX12_unit_X12_wordHere : GoodIn wsX12_unit (wsV RX12 353 RX12 yX12_wordHere wsX12_wordHere) := goodIn_app (goodIn_of _ (by decide +kernel)) ggX12_unit_X12_wordHere
set_option maxRecDepth 20000 in
theorem ggX12_behindUnit_X12_emit : GoodIn wsX12_behindUnit wsX12_emit := goodIn_r _ [46, 47, 48, 49, 95, 96, 97, 98, 99, 100, 101, 102, 103, 104, 105, 106, 107, 108, 109, 110, 111, 112, 113, 114, 115, 116, 117, 118, 119, 120, 121, 122, 123, 124, 125, 126, 127, 128, 129, 130, 131, 132, 133, 134, 135, 136, 137, 138, 139, 140, 141, 142, 143, 144, 145, 146, 147, 148, 149, 150, 151, 152, 153, 154, 155, 156, 157, 158, 159, 160, 161, 162, 163, 164, 165] (by decide +kernel) (by decide +kernel)
set_option maxRecDepth 20000 in
theorem gX12_behindUnit_X12_emit : GoodIn wsX12_behindUnit (wsV RX12 356 RX12 yX12_emit wsX12_emit) := goodIn_app (goodIn_of _ (by decide +kernel)) ggX12_behindUnit_X12_emit
set_option maxRecDepth 20000 in
theorem ggX12_behindUnit_X12_goOn : GoodIn wsX12_behindUnit wsX12_goOn := goodIn_r _ [57, 58, 5, 27, 17, 18, 59, 23, 24, 25, 9, 26, 28, 60, 61, 62, 63, 64, 65, 66, 67, 68, 69, 70, 71, 72, 73, 74, 75, 76, 77, 78, 79, 12, 11, 80, 81, 82, 83, 84, 85, 86, 95, 96, 97, 98, 99, 100, 101, 102, 103, 104, 105, 106, 107, 108, 109, 110, 111, 112, 113, 114, 115, 116, 117, 118, 119, 120, 121, 122, 123, 124, 125, 126, 127, 128, 129, 130, 131, 132, 133, 134, 135, 136, 137, 138, 139, 140, 141, 142, 143, 144, 145, 146, 147, 148, 149, 150, 151, 152, 153, 154, 155, 156, 157, 158, 159, 160, 161, 162, 163, 164, 165] (by decide +kernel) (by decide +kernel)
set_option maxRecDepth 20000 in
theorem gX12_behindUnit_X12_goOn : GoodIn wsX12_behindUnit (wsV RX12 255 RX12 yX12_goOn wsX12_goOn) := goodIn_app (goodIn_of _ (by decide +kernel)) ggX12_behindUnit_X12_goOn
set_option maxRecDepth 20000 in
theorem ggX12_behindUnit_X12_isCompared : GoodIn wsX12_behindUnit wsX12_isCompared := goodIn_r _ [32, 2, 1, 95, 96, 97, 98, 99, 100, 101, 102, 103, 104, 105, 106, 107, 108, 109, 110, 111, 112, 113, 114, 115, 116, 117, 118, 119, 120, 121, 122, 123, 124, 125, 126, 127, 128, 129, 130, 131, 132, 133, 134, 135, 136, 137, 138, 139, 140, 141, 142, 143, 144, 145, 146, 147, 148, 149, 150, 151, 152, 153, 154, 155, 156, 157, 158, 159, 160, 161, 162, 163, 164, 165] (by decide +kernel) (by decide +kernel)
set_option maxRecDepth 20000 in
theorem gX12_behindUnit_X12_isCompared : GoodIn wsX12_behindUnit (wsV RX12 362 RX12 yX12_isCompared wsX12_isCompared) := goodIn_app (goodIn_of _ (by decide +kernel)) ggX12_behindUnit_X12_isCompared
set_option maxRecDepth 20000 in
theorem ggX12_behindUnit_X12_isSignHere : GoodIn wsX12_behindUnit wsX12_isSignHere := goodIn_r _ [22, 17, 5, 23, 24, 25, 9, 26, 27, 28, 95, 96, 97, 98, 99, 100, 101, 102, 103, 104, 105, 106, 107, 108, 109, 110, 111, 112, 113, 114, 115, 116, 117, 118, 119, 120, 121, 122, 123, 124, 125, 126, 127, 128, 129, 130, 131, 132, 133, 134, 135, 136, 137, 138, 139, 140, 141, 142, 143, 144, 145, 146, 147, 148, 149, 150, 151, 152, 153, 154, 155, 156, 157, 158, 159, 160, 161, 162, 163, 164, 165] (by decide +kernel) (by decide +kernel)
set_option maxRecDepth 20000 in
theorem gX12_behindUnit_X12_isSignHere : GoodIn wsX12_behindUnit (wsV RX12 302 RX12 yX12_isSignHere wsX12_isSignHere) := goodIn_app (goodIn_of _ (by decide +kernel)) ggX12_behindUnit_X12_isSignHere
set_option maxRecDepth 20000 in
theorem ggX12_behindUnit_X12_misplaced : GoodIn wsX12_behindUnit wsX12_misplaced := goodIn_r _ [36, 17, 5, 37, 38, 39, 9, 40, 41, 42, 95, 96, 97, 98, 99, 100, 101, 102, 103, 104, 105, 106, 107, 108, 109, 110, 111, 112, 113, 114, 115, 116, 117, 118, 119, 120, 121, 122, 123, 124, 125, 126, 127, 128, 129, 130, 131, 132, 133, 134, 135, 136, 137, 138, 139, 140, 141, 142, 143, 144, 145, 146, 147, 148, 149, 150, 151, 152, 153, 154, 155, 156, 157, 158, 159, 160, 161, 162, 163, 164, 165] (by decide +kernel) (by decide +kernel)
set_option maxRecDepth 20000 in
theorem gX12_behindUnit_X12_misplaced : GoodIn wsX12_behindUnit (wsV RX12 258 RX12 yX12_misplaced wsX12_misplaced) := goodIn_app (goodIn_of _ (by decide +kernel)) ggX12_behindUnit_X12_misplaced
set_option maxRecDepth 20000 in
theorem ggX12_behindUnit_X12_must : GoodIn wsX12_behindUnit wsX12_must := goodIn_r _ [90, 91, 92, 93, 9, 94, 41, 54, 55, 56, 57, 58, 5, 27, 17, 18, 59, 23, 24, 25, 26, 28, 60, 61, 62, 63, 64, 65, 66, 67, 68, 69, 70, 71, 72, 73, 74, 75, 76, 77, 78, 79, 12, 11, 80, 81, 82, 83, 84, 85, 86, 33, 34, 35, 36, 37, 38, 39, 40, 42, 95, 96, 97, 98, 99, 100, 101, 102, 103, 104, 105, 106, 107, 108, 109, 110, 111, 112, 113, 114, 115, 116, 117, 118, 119, 120, 121, 122, 123, 124, 125, 126, 127, 128, 129, 130, 131, 132, 133, 134, 135, 136, 137, 138, 139, 140, 141, 142, 143, 144, 145, 146, 147, 148, 149, 150, 151, 152, 153, 154, 155, 156, 157, 158, 159, 160, 161, 162, 163, 164, 165] (by decide +kernel) (by decide +kernel)
set_option maxRecDepth 20000 in
theorem gX12_behindUnit_X12_must : GoodIn wsX12_behindUnit (wsV RX12 305 RX12 yX12_must wsX12_must) := goodIn_app (goodIn_of _ (by decide +kernel)) ggX12_behindUnit_X12_must
set_option maxRecDepth 20000 in
theorem ggX12_behindUnit_X12_pushE : GoodIn wsX12_behindUnit wsX12_pushE := goodIn_r _ [53, 1, 2, 4, 95, 96, 97, 98, 99, 100, 101, 102, 103, 104, 105, 106, 107, 108, 109, 110, 111, 112, 113, 114, 115, 116, 117, 118, 119, 120, 121, 122, 123, 124, 125, 126, 127, 128, 129, 130, 131, 132, 133, 134, 135, 136, 137, 138, 139, 140, 141, 142, 143, 144, 145, 146, 147, 148, 149, 150, 151, 152, 153, 154, 155, 156, 157, 158, 159, 160, 161, 162, 163, 164, 165] (by decide +kernel) (by decide +kernel)
set_option maxRecDepth 20000 in
theorem gX12_behindUnit_X12_pushE : GoodIn wsX12_behindUnit (wsV RX12 344 RX12 yX12_pushE wsX12_pushE) := goodIn_app (goodIn_of _ (by decide +kernel)) ggX12_behindUnit_X12_pushE
set_option maxRecDepth 20000 in
theorem ggX12_behindUnit_X12_rankHere : GoodIn wsX12_behindUnit wsX12_rankHere := goodIn_r _ [10, 11, 12, 13, 14, 15, 9, 16, 17, 18, 19, 20, 21, 22, 5, 23, 24, 25, 26, 27, 28, 95, 96, 97, 98, 99, 100, 101, 102, 103, 104, 105, 106, 107, 108, 109, 110, 111, 112, 113, 114, 115, 116, 117, 118, 119, 120, 121, 122, 123, 124, 125, 126, 127, 128, 129, 130, 131, 132, 133, 134, 135, 136, 137, 138, 139, 140, 141, 142, 143, 144, 145, 146, 147, 148, 149, 150, 151, 152, 153, 154, 155, 156, 157, 158, 159, 160, 161, 162, 163, 164, 165] (by decide +kernel) (by decide +kernel)
set_option maxRecDepth 20000 in
theorem gX12_behindUnit_X12_rankHere : GoodIn wsX12_behindUnit (wsV RX12 359 RX12 yX12_rankHere wsX12_rankHere) := goodIn_app (goodIn_of _ (by decide +kernel)) ggX12_behindUnit_X12_rankHere
set_option maxRecDepth 20000 in
theorem ggX12_behindUnit_X12_sign : GoodIn wsX12_behindUnit wsX12_sign := goodIn_r _ [26, 27, 28, 95, 96, 97, 98, 99, 100, 101, 102, 103, 104, 105, 106, 107, 108, 109, 110, 111, 112, 113, 114, 115, 116, 117, 118, 119, 120, 121, 122, 123, 124, 125, 126, 127, 128, 129, 130, 131, 132, 133, 134, 135, 136, 137, 138, 139, 140, 141, 142, 143, 144, 145, 146, 147, 148, 149, 150, 151, 152, 153, 154, 155, 156, 157, 158, 159, 160, 161, 162, 163, 164, 165] (by decide +kernel) (by decide +kernel)
set_option maxRecDepth 20000 in
theorem gX12_behindUnit_X12_sign : GoodIn wsX12_behindUnit (wsV RX12 219 RX12 yX12_sign wsX12_sign) := goodIn_app (goodIn_of _ (by decide +kernel)) ggX12_behindUnit_X12_sign
set_option maxRecDepth 20000 in
theorem ggX12_e_X12_behindUnit : GoodIn wsX12_e wsX12_behindUnit := goodIn_r _ [97, 8, 1, 2, 9, 34, 98, 99, 100, 6, 101, 80, 79, 25, 26, 27, 28, 23, 29, 30, 31, 32, 33, 35, 36, 37, 38, 39, 40, 102, 103, 104, 105, 50, 51, 52, 53, 54, 55, 56, 57, 14, 58, 87, 88, 89, 90, 91, 92, 93, 3, 4, 5, 7, 59, 60, 61, 62, 63, 24, 64, 65, 66, 67, 68, 69, 70, 71, 72, 73, 74, 75, 76, 45, 46, 77, 78, 47, 48, 49, 19, 81, 82, 83, 84, 85, 86, 106, 107, 108, 109, 10, 11, 12, 13, 110, 111, 112, 113, 114, 115, 116, 117, 118, 119, 120, 121, 122, 123, 124, 125, 126, 127, 128, 129, 130, 131, 132, 133, 134, 135, 136, 137, 138, 139, 140, 141, 142, 143, 144, 145, 146, 147, 148, 149, 150, 151, 152, 153, 154, 155, 156, 157, 158, 159, 160, 161, 162, 163, 164, 165, 166, 167, 168, 169, 170, 171, 172, 173, 174, 175, 176, 177, 178, 179, 180] (by decide +kernel) (by decide +kernel)
set_option maxRecDepth 20000 in
theorem gX12_e_X12_behindUnit : GoodIn wsX12_e (wsV RX12 350 RX12 yX12_behindUnit wsX12_behindUnit) := goodIn_app (goodIn_of _ (by decide +kernel)) ggX12_e_X12_behindUnit
set_option maxRecDepth 20000 in
theorem ggX12_e_X12_isGood : GoodIn wsX12_e wsX12_isGood := goodIn_r _ [13, 14, 110, 111, 112, 113, 114, 115, 116, 117, 118, 119, 120, 121, 122, 123, 124, 125, 126, 127, 128, 129, 130, 131, 132, 133, 134, 135, 136, 137, 138, 139, 140, 141, 142, 143, 144, 145, 146, 147, 148, 149, 150, 151, 152, 153, 154, 155, 156, 157, 158, 159, 160, 161, 162, 163, 164, 165, 166, 167, 168, 169, 170, 171, 172, 173, 174, 175, 176, 177, 178, 179, 180] (by decide +kernel) (by decide +kernel)
set_option maxRecDepth 20000 in
theorem gX12_e_X12_isGood : GoodIn wsX12_e (wsV RX12 251 RX12 yX12_isGood wsX12_isGood) := goodIn_app (goodIn_of _ (by decide +kernel)) ggX12_e_X12_isGood
set_option maxRecDepth 20000 in
theorem ggX12_e_X12_pushE : GoodIn wsX12_e wsX12_pushE := goodIn_r _ [7, 8, 1, 9, 110, 111, 112, 113, 114, 115, 116, 117, 118, 119, 120, 121, 122, 123, 124, 125, 126, 127, 128, 129, 130, 131, 132, 133, 134, 135, 136, 137, 138, 139, 140, 141, 142, 143, 144, 145, 146, 147, 148, 149, 150, 151, 152, 153, 154, 155, 156, 157, 158, 159, 160, 161, 162, 163, 164, 165, 166, 167, 168, 169, 170, 171, 172, 173, 174, 175, 176, 177, 178, 179, 180] (by decide +kernel) (by decide +kernel)
set_option maxRecDepth 20000 in
theorem gX12_e_X12_pushE : GoodIn wsX12_e (wsV RX12 344 RX12 yX12_pushE wsX12_pushE) := goodIn_app (goodIn_of _ (by decide +kernel)) ggX12_e_X12_pushE
set_option maxRecDepth 20000 in
theorem ggX12_e_X12_unit : GoodIn wsX12_e wsX12_unit := goodIn_r _ [18, 8, 1, 19, 20, 21, 22, 23, 2, 24, 25, 26, 27, 6, 28, 29, 30, 31, 32, 33, 34, 35, 36, 37, 38, 39, 40, 41, 42, 43, 44, 45, 46, 47, 48, 49, 50, 51, 52, 53, 54, 55, 56, 57, 14, 58, 10, 11, 12, 13, 59, 60, 61, 62, 63, 64, 65, 66, 67, 68, 69, 70, 71, 72, 73, 74, 75, 76, 77, 78, 79, 80, 81, 82, 83, 84, 85, 86, 3, 4, 5, 7, 9, 87, 88, 89, 90, 91, 92, 93, 110, 111, 112, 113, 114, 115, 116, 117, 118, 119, 120, 121, 122, 123, 124, 125, 126, 127, 128, 129, 130, 131, 132, 133, 134, 135, 136, 137, 138, 139, 140, 141, 142, 143, 144, 145, 146, 147, 148, 149, 150, 151, 152, 153, 154, 155, 156, 157, 158, 159, 160, 161, 162, 163, 164, 165, 166, 167, 168, 169, 170, 171, 172, 173, 174, 175, 176, 177, 178, 179, 180] (by decide +kernel) (by decide +kernel)
set_option maxRecDepth 20000 in
theorem gX12_e_X12_unit : GoodIn wsX12_e (wsV RX12 347 RX12 yX12_unit wsX12_unit) := goodIn_app (goodIn_of _ (by decide +kernel)) ggX12_e_X12_unit
set_option maxRecDepth 20000 in
theorem ggX12_readRule_X12_e : GoodIn wsX12_readRule wsX12_e := goodIn_r _ [10, 11, 12, 13, 14, 15, 9, 16, 17, 18, 19, 20, 21, 22, 23, 24, 25, 26, 27, 28, 29, 3, 1, 30, 31, 32, 33, 34, 35, 36, 37, 38, 39, 40, 41, 42, 43, 44, 45, 46, 47, 48, 49, 50, 51, 52, 53, 54, 55, 56, 57, 58, 59, 60, 61, 62, 63, 64, 65, 66, 67, 68, 69, 70, 71, 72, 73, 74, 75, 76, 77, 78, 79, 80, 81, 82, 83, 84, 85, 86, 87, 88, 89, 90, 91, 92, 93, 94, 95, 96, 97, 98, 4, 99, 100, 101, 102, 103, 104, 105, 106, 107, 108, 109, 110, 111, 112, 113, 114, 115, 116, 117, 118, 119, 120, 121, 122, 123, 124, 125, 126, 127, 128, 129, 130, 131, 132, 133, 134, 135, 136, 137, 138, 139, 140, 141, 142, 143, 144, 145, 146, 147, 148, 149, 150, 151, 152, 153, 154, 155, 156, 157, 158, 159, 160, 161, 162, 163, 164, 165, 166, 167, 168, 169, 170, 171, 172, 173, 174, 175, 176, 177, 178, 179, 180, 181, 182, 183, 184, 185, 186] (by decide +kernel) (by decide +kernel)
set_option maxRecDepth 20000 in
theorem gX12_readRule_X12_e : GoodIn wsX12_readRule (wsV RX12 335 RX12 yX12_e wsX12_e) := goodIn_app (goodIn_of _ (by decide +kernel)) ggX12_readRule_X12_e
set_option maxRecDepth 20000 in
theorem ggX12_readLine_X12_goOn : GoodIn wsX12_readLine wsX12_goOn := goodIn_r _ [42, 43, 28, 44, 2, 1, 45, 46, 47, 48, 15, 49, 50, 51, 52, 53, 54, 55, 56, 3, 57, 4, 5, 58, 59, 60, 61, 62, 6, 9, 63, 64, 65, 66, 67, 68, 69, 70, 71, 72, 73, 74, 184, 185, 186, 187, 188, 189, 190, 191, 192, 193, 194, 195, 196, 197, 198, 199, 200, 201, 202, 203, 204, 205, 206, 207, 208, 209, 210, 211, 212, 213, 214, 215, 216, 217, 218, 219, 220, 221, 222, 223, 224, 225, 226, 227, 228, 229, 230, 231, 232, 233, 234, 235, 236, 237, 238, 239, 240, 241, 242, 243, 244, 245, 246, 247, 248, 249, 250, 251, 252, 253, 254] (by decide +kernel) (by decide +kernel)
set_option maxRecDepth 20000 in
theorem gX12_readLine_X12_goOn : GoodIn wsX12_readLine (wsV RX12 255 RX12 yX12_goOn wsX12_goOn) := goodIn_app (goodIn_of _ (by decide +kernel)) ggX12_readLine_X12_goOn
set_option maxRecDepth 20000 in
theorem ggX12_readLine_X12_isFull : GoodIn wsX12_readLine wsX12_isFull := goodIn_r _ [16, 3, 17, 8, 4, 18, 5, 19, 6, 7, 9, 10, 20, 21, 22, 15, 23, 2, 1, 184, 185, 186, 187, 188, 189, 190, 191, 192, 193, 194, 195, 196, 197, 198, 199, 200, 201, 202, 203, 204, 205, 206, 207, 208, 209, 210, 211, 212, 213, 214, 215, 216, 217, 218, 219, 220, 221, 222, 223, 224, 225, 226, 227, 228, 229, 230, 231, 232, 233, 234, 235, 236, 237, 238, 239, 240, 241, 242, 243, 244, 245, 246, 247, 248, 249, 250, 251, 252, 253, 254] (by decide +kernel) (by decide +kernel)
set_option maxRecDepth 20000 in
theorem gX12_readLine_X12_isFull : GoodIn wsX12_readLine (wsV RX12 286 RX12 yX12_isFull wsX12_isFull) := goodIn_app (goodIn_of _ (by decide +kernel)) ggX12_readLine_X12_isFull
set_option maxRecDepth 20000 in
theorem ggX12_readLine_X12_isGood : GoodIn wsX12_readLine wsX12_isGood := goodIn_r _ [38, 33, 184, 185, 186, 187, 188, 189, 190, 191, 192, 193, 194, 195, 196, 197, 198, 199, 200, 201, 202, 203, 204, 205, 206, 207, 208, 209, 210, 211, 212, 213, 214, 215, 216, 217, 218, 219, 220, 221, 222, 223, 224, 225, 226, 227, 228, 229, 230, 231, 232, 233, 234, 235, 236, 237, 238, 239, 240, 241, 242, 243, 244, 245, 246, 247, 248, 249, 250, 251, 252, 253, 254] (by decide +kernel) (by decide +kernel)
set_option maxRecDepth 20000 in
theorem gX12_readLine_X12_isGood : GoodIn wsX12_readLine (wsV RX12 251 RX12 yX12_isGood wsX12_isGood) := goodIn_app (goodIn_of _ (by decide +kernel)) ggX12_readLine_X12_isGood
set_option maxRecDepth 20000 in
theorem ggX12_readLine_X12_isSignHere : GoodIn wsX12_readLine wsX12_isSignHere := goodIn_r _ [161, 2, 28, 46, 47, 48, 15, 49, 44, 50, 184, 185, 186, 187, 188, 189, 190, 191, 192, 193, 194, 195, 196, 197, 198, 199, 200, 201, 202, 203, 204, 205, 206, 207, 208, 209, 210, 211, 212, 213, 214, 215, 216, 217, 218, 219, 220, 221, 222, 223, 224, 225, 226, 227, 228, 229, 230, 231, 232, 233, 234, 235, 236, 237, 238, 239, 240, 241, 242, 243, 244, 245, 246, 247, 248, 249, 250, 251, 252, 253, 254] (by decide +kernel) (by decide +kernel)
set_option maxRecDepth 20000 in
theorem gX12_readLine_X12_isSignHere : GoodIn wsX12_readLine (wsV RX12 302 RX12 yX12_isSignHere wsX12_isSignHere) := goodIn_app (goodIn_of _ (by decide +kernel)) ggX12_readLine_X12_isSignHere
set_option maxRecDepth 20000 in
theorem ggX12_readLine_X12_misplaced : GoodIn wsX12_readLine wsX12_misplaced := goodIn_r _ [27, 2, 28, 29, 30, 31, 15, 32, 33, 34, 184, 185, 186, 187, 188, 189, 190, 191, 192, 193, 194, 195, 196, 197, 198, 199, 200, 201, 202, 203, 204, 205, 206, 207, 208, 209, 210, 211, 212, 213, 214, 215, 216, 217, 218, 219, 220, 221, 222, 223, 224, 225, 226, 227, 228, 229, 230, 231, 232, 233, 234, 235, 236, 237, 238, 239, 240, 241, 242, 243, 244, 245, 246, 247, 248, 249, 250, 251, 252, 253, 254] (by decide +kernel) (by decide +kernel)
set_option maxRecDepth 20000 in
theorem gX12_readLine_X12_misplaced : GoodIn wsX12_readLine (wsV RX12 258 RX12 yX12_misplaced wsX12_misplaced) := goodIn_app (goodIn_of _ (by decide +kernel)) ggX12_readLine_X12_misplaced
set_option maxRecDepth 20000 in
theorem ggX12_readLine_X12_must : GoodIn wsX12_readLine wsX12_must := goodIn_r _ [132, 35, 36, 37, 15, 38, 33, 39, 40, 41, 42, 43, 28, 44, 2, 1, 45, 46, 47, 48, 49, 50, 51, 52, 53, 54, 55, 56, 3, 57, 4, 5, 58, 59, 60, 61, 62, 6, 9, 63, 64, 65, 66, 67, 68, 69, 70, 71, 72, 73, 74, 24, 25, 26, 27, 29, 30, 31, 32, 34, 184, 185, 186, 187, 188, 189, 190, 191, 192, 193, 194, 195, 196, 197, 198, 199, 200, 201, 202, 203, 204, 205, 206, 207, 208, 209, 210, 211, 212, 213, 214, 215, 216, 217, 218, 219, 220, 221, 222, 223, 224, 225, 226, 227, 228, 229, 230, 231, 232, 233, 234, 235, 236, 237, 238, 239, 240, 241, 242, 243, 244, 245, 246, 247, 248, 249, 250, 251, 252, 253, 254] (by decide +kernel) (by decide +kernel)
set_option maxRecDepth 20000 in
theorem gX12_readLine_X12_must : GoodIn wsX12_readLine (wsV RX12 305 RX12 yX12_must wsX12_must) := goodIn_app (goodIn_of _ (by decide +kernel)) ggX12_readLine_X12_must
set_option maxRecDepth 20000 in
theorem ggX12_readLine_X12_numeral : GoodIn wsX12_readLine wsX12_numeral := goodIn_r _ [104, 2, 45, 28, 35, 36, 37, 15, 38, 33, 24, 25, 26, 27, 29, 30, 31, 32, 34, 39, 40, 41, 42, 43, 44, 1, 46, 47, 48, 49, 50, 51, 52, 53, 54, 55, 56, 3, 57, 4, 5, 58, 59, 60, 61, 62, 6, 9, 63, 64, 65, 66, 67, 68, 69, 70, 71, 72, 73, 74, 184, 185, 186, 187, 188, 189, 190, 191, 192, 193, 194, 195, 196, 197, 198, 199, 200, 201, 202, 203, 204, 205, 206, 207, 208, 209, 210, 211, 212, 213, 214, 215, 216, 217, 218, 219, 220, 221, 222, 223, 224, 225, 226, 227, 228, 229, 230, 231, 232, 233, 234, 235, 236, 237, 238, 239, 240, 241, 242, 243, 244, 245, 246, 247, 248, 249, 250, 251, 252, 253, 254] (by decide +kernel) (by decide +kernel)
set_option maxRecDepth 20000 in
theorem gX12_readLine_X12_numeral : GoodIn wsX12_readLine (wsV RX12 267 RX12 yX12_numeral wsX12_numeral) := goodIn_app (goodIn_of _ (by decide +kernel)) ggX12_readLine_X12_numeral
set_option maxRecDepth 20000 in
theorem ggX12_readLine_X12_readDoor : GoodIn wsX12_readLine wsX12_readDoor := goodIn_r _ [108, 8, 18, 109, 28, 110, 81, 82, 83, 15, 84, 79, 17, 85, 86, 87, 88, 2, 1, 111, 112, 113, 114, 35, 36, 37, 38, 33, 24, 25, 26, 27, 29, 30, 31, 32, 34, 39, 40, 41, 42, 43, 44, 45, 46, 47, 48, 49, 50, 51, 52, 53, 54, 55, 56, 3, 57, 4, 5, 58, 59, 60, 61, 62, 6, 9, 63, 64, 65, 66, 67, 68, 69, 70, 71, 72, 73, 74, 115, 116, 117, 118, 184, 185, 186, 187, 188, 189, 190, 191, 192, 193, 194, 195, 196, 197, 198, 199, 200, 201, 202, 203, 204, 205, 206, 207, 208, 209, 210, 211, 212, 213, 214, 215, 216, 217, 218, 219, 220, 221, 222, 223, 224, 225, 226, 227, 228, 229, 230, 231, 232, 233, 234, 235, 236, 237, 238, 239, 240, 241, 242, 243, 244, 245, 246, 247, 248, 249, 250, 251, 252, 253, 254] (by decide +kernel) (by decide +kernel)
set_option maxRecDepth 20000 in
theorem gX12_readLine_X12_readDoor : GoodIn wsX12_readLine (wsV RX12 292 RX12 yX12_readDoor wsX12_readDoor) := goodIn_app (goodIn_of _ (by decide +kernel)) ggX12_readLine_X12_readDoor
set_option maxRecDepth 20000 in
theorem ggX12_readLine_X12_readRoom : GoodIn wsX12_readLine wsX12_readRoom := goodIn_r _ [78, 8, 17, 79, 80, 57, 81, 82, 83, 15, 84, 85, 86, 87, 88, 2, 1, 89, 90, 91, 92, 28, 35, 36, 37, 38, 33, 24, 25, 26, 27, 29, 30, 31, 32, 34, 39, 40, 41, 42, 43, 44, 45, 46, 47, 48, 49, 50, 51, 52, 53, 54, 55, 56, 3, 4, 5, 58, 59, 60, 61, 62, 6, 9, 63, 64, 65, 66, 67, 68, 69, 70, 71, 72, 73, 74, 93, 94, 95, 96, 97, 98, 99, 100, 20, 21, 22, 23, 101, 102, 103, 104, 184, 185, 186, 187, 188, 189, 190, 191, 192, 193, 194, 195, 196, 197, 198, 199, 200, 201, 202, 203, 204, 205, 206, 207, 208, 209, 210, 211, 212, 213, 214, 215, 216, 217, 218, 219, 220, 221, 222, 223, 224, 225, 226, 227, 228, 229, 230, 231, 232, 233, 234, 235, 236, 237, 238, 239, 240, 241, 242, 243, 244, 245, 246, 247, 248, 249, 250, 251, 252, 253, 254] (by decide +kernel) (by decide +kernel)
set_option maxRecDepth 20000 in
theorem gX12_readLine_X12_readRoom : GoodIn wsX12_readLine (wsV RX12 289 RX12 yX12_readRoom wsX12_readRoom) := goodIn_app (goodIn_of _ (by decide +kernel)) ggX12_readLine_X12_readRoom
set_option maxRecDepth 20000 in
theorem ggX12_readLine_X12_readRule : GoodIn wsX12_readLine wsX12_readRule := goodIn_r _ [136, 137, 138, 8, 139, 140, 141, 142, 143, 15, 144, 145, 146, 147, 148, 149, 150, 151, 152, 35, 36, 37, 38, 33, 153, 154, 155, 156, 68, 157, 2, 45, 20, 21, 22, 23, 1, 158, 159, 160, 161, 28, 46, 47, 48, 49, 44, 50, 162, 163, 164, 165, 61, 62, 63, 64, 65, 24, 25, 26, 27, 29, 30, 31, 32, 34, 39, 40, 41, 42, 43, 51, 52, 53, 54, 55, 56, 3, 57, 4, 5, 58, 59, 60, 6, 9, 66, 67, 69, 70, 71, 72, 73, 74, 166, 167, 168, 169, 170, 171, 172, 173, 174, 175, 176, 177, 178, 179, 180, 181, 182, 183, 129, 130, 131, 132, 184, 185, 186, 187, 188, 189, 190, 191, 192, 193, 194, 195, 196, 197, 198, 199, 200, 201, 202, 203, 204, 205, 206, 207, 208, 209, 210, 211, 212, 213, 214, 215, 216, 217, 218, 219, 220, 221, 222, 223, 224, 225, 226, 227, 228, 229, 230, 231, 232, 233, 234, 235, 236, 237, 238, 239, 240, 241, 242, 243, 244, 245, 246, 247, 248, 249, 250, 251, 252, 253, 254] (by decide +kernel) (by decide +kernel)
set_option maxRecDepth 20000 in
theorem gX12_readLine_X12_readRule : GoodIn wsX12_readLine (wsV RX12 298 RX12 yX12_readRule wsX12_readRule) := goodIn_app (goodIn_of _ (by decide +kernel)) ggX12_readLine_X12_readRule
set_option maxRecDepth 20000 in
theorem ggX12_readLine_X12_readThing : GoodIn wsX12_readLine wsX12_readThing := goodIn_r _ [122, 8, 19, 123, 58, 124, 125, 59, 126, 60, 127, 61, 128, 62, 85, 86, 87, 15, 88, 2, 1, 89, 90, 91, 92, 28, 35, 36, 37, 38, 33, 24, 25, 26, 27, 29, 30, 31, 32, 34, 39, 40, 41, 42, 43, 44, 45, 46, 47, 48, 49, 50, 51, 52, 53, 54, 55, 56, 3, 57, 4, 5, 6, 9, 63, 64, 65, 66, 67, 68, 69, 70, 71, 72, 73, 74, 20, 21, 22, 23, 129, 130, 131, 132, 81, 82, 83, 84, 79, 17, 111, 112, 113, 114, 97, 98, 99, 100, 93, 94, 95, 96, 101, 102, 103, 104, 184, 185, 186, 187, 188, 189, 190, 191, 192, 193, 194, 195, 196, 197, 198, 199, 200, 201, 202, 203, 204, 205, 206, 207, 208, 209, 210, 211, 212, 213, 214, 215, 216, 217, 218, 219, 220, 221, 222, 223, 224, 225, 226, 227, 228, 229, 230, 231, 232, 233, 234, 235, 236, 237, 238, 239, 240, 241, 242, 243, 244, 245, 246, 247, 248, 249, 250, 251, 252, 253, 254] (by decide +kernel) (by decide +kernel)
set_option maxRecDepth 20000 in
theorem gX12_readLine_X12_readThing : GoodIn wsX12_readLine (wsV RX12 295 RX12 yX12_readThing wsX12_readThing) := goodIn_app (goodIn_of _ (by decide +kernel)) ggX12_readLine_X12_readThing
set_option maxRecDepth 20000 in
theorem ggX12_isRoom_X12_isIn : GoodIn wsX12_isRoom wsX12_isIn := goodIn_r _ [10] (by decide +kernel) (by decide +kernel)
set_option maxRecDepth 20000 in
theorem gX12_isRoom_X12_isIn : GoodIn wsX12_isRoom (va_wsS RX12 381 yX12_isIn wsX12_isIn) := goodIn_app (goodIn_of _ (by decide +kernel)) ggX12_isRoom_X12_isIn
set_option maxRecDepth 20000 in
theorem ggX12_isRoom_X12_places : GoodIn wsX12_isRoom wsX12_places := goodIn_r _ [5, 6, 7, 11, 12, 13, 14, 15, 16, 17, 18, 19, 20, 21, 22, 23, 24, 25, 26, 27, 28, 29, 30, 31, 32, 33, 34, 35, 36, 37, 38, 39, 40, 41, 42, 43, 44, 45, 46, 47, 48, 49, 50, 51, 52, 53, 54, 55, 56, 57, 58, 59, 60, 61, 62, 63, 64, 65, 66, 67, 68, 69, 70, 71, 72, 73, 74, 75, 76, 77, 78, 79, 80, 81] (by decide +kernel) (by decide +kernel)
set_option maxRecDepth 20000 in
theorem gX12_isRoom_X12_places : GoodIn wsX12_isRoom (wsV RX12 378 RX12 yX12_places wsX12_places) := goodIn_app (goodIn_of _ (by decide +kernel)) ggX12_isRoom_X12_places
set_option maxRecDepth 20000 in
theorem ggX12_areRooms_X12_isRoom : GoodIn wsX12_areRooms wsX12_isRoom := goodIn_r _ [5, 6, 7, 8, 4, 9, 10, 11, 12, 13, 14, 15, 16, 17, 18, 19, 20, 21, 22, 23, 24, 25, 26, 27, 28, 29, 30, 31, 32, 33, 34, 35, 36, 37, 38, 39, 40, 41, 42, 43, 44, 45, 46, 47, 48, 49, 50, 51, 52, 53, 54, 55, 56, 57, 58, 59, 60, 61, 62, 63, 64, 65, 66, 67, 68, 69, 70, 71, 72, 73, 74, 75, 76, 77, 78, 79, 80, 81, 82, 83, 84, 85] (by decide +kernel) (by decide +kernel)
set_option maxRecDepth 20000 in
theorem gX12_areRooms_X12_isRoom : GoodIn wsX12_areRooms (wsV RX12 385 RX12 yX12_isRoom wsX12_isRoom) := goodIn_app (goodIn_of _ (by decide +kernel)) ggX12_areRooms_X12_isRoom
set_option maxRecDepth 20000 in
theorem ggX12_isThing_X12_isIn : GoodIn wsX12_isThing wsX12_isIn := goodIn_r _ [10] (by decide +kernel) (by decide +kernel)
set_option maxRecDepth 20000 in
theorem gX12_isThing_X12_isIn : GoodIn wsX12_isThing (va_wsS RX12 381 yX12_isIn wsX12_isIn) := goodIn_app (goodIn_of _ (by decide +kernel)) ggX12_isThing_X12_isIn
set_option maxRecDepth 20000 in
theorem ggX12_isThing_X12_many : GoodIn wsX12_isThing wsX12_many := goodIn_r _ [5, 6, 7, 11, 12, 13, 14, 15, 16, 17, 18, 19, 20, 21, 22, 23, 24, 25, 26, 27, 28, 29, 30, 31, 32, 33, 34, 35, 36, 37, 38, 39, 40, 41, 42, 43, 44, 45, 46, 47, 48, 49, 50, 51, 52, 53, 54, 55, 56, 57, 58, 59, 60, 61, 62, 63, 64, 65, 66, 67, 68, 69, 70, 71, 72, 73, 74, 75, 76, 77, 78, 79, 80, 81] (by decide +kernel) (by decide +kernel)
set_option maxRecDepth 20000 in
theorem gX12_isThing_X12_many : GoodIn wsX12_isThing (wsV RX12 388 RX12 yX12_many wsX12_many) := goodIn_app (goodIn_of _ (by decide +kernel)) ggX12_isThing_X12_many
set_option maxRecDepth 20000 in
theorem ggX12_isSet_X12_isIn : GoodIn wsX12_isSet wsX12_isIn := goodIn_r _ [10] (by decide +kernel) (by decide +kernel)
set_option maxRecDepth 20000 in
theorem gX12_isSet_X12_isIn : GoodIn wsX12_isSet (va_wsS RX12 381 yX12_isIn wsX12_isIn) := goodIn_app (goodIn_of _ (by decide +kernel)) ggX12_isSet_X12_isIn
set_option maxRecDepth 20000 in
theorem ggX12_isSet_X12_places : GoodIn wsX12_isSet wsX12_places := goodIn_r _ [5, 6, 7, 11, 12, 13, 14, 15, 16, 17, 18, 19, 20, 21, 22, 23, 24, 25, 26, 27, 28, 29, 30, 31, 32, 33, 34, 35, 36, 37, 38, 39, 40, 41, 42, 43, 44, 45, 46, 47, 48, 49, 50, 51, 52, 53, 54, 55, 56, 57, 58, 59, 60, 61, 62, 63, 64, 65, 66, 67, 68, 69, 70, 71, 72, 73, 74, 75, 76, 77, 78, 79, 80, 81] (by decide +kernel) (by decide +kernel)
set_option maxRecDepth 20000 in
theorem gX12_isSet_X12_places : GoodIn wsX12_isSet (wsV RX12 378 RX12 yX12_places wsX12_places) := goodIn_app (goodIn_of _ (by decide +kernel)) ggX12_isSet_X12_places
theorem iw_X12_unit_X12 : ∀ w ∈ wsX120, w ∈ wsX12_unit := fun _ h => List.mem_cons_of_mem _ (List.mem_append_right _ h)
theorem iw_X12_behindUnit_X12 : ∀ w ∈ wsX120, w ∈ wsX12_behindUnit := fun _ h => List.mem_cons_of_mem _ (List.mem_append_right _ h)
theorem iw_X12_e_X12 : ∀ w ∈ wsX120, w ∈ wsX12_e := fun _ h => List.mem_cons_of_mem _ (List.mem_append_right _ h)
theorem iw_X12_readRule_X12 : ∀ w ∈ wsX120, w ∈ wsX12_readRule := fun _ h => List.mem_cons_of_mem _ (List.mem_append_right _ h)
theorem iw_X12_readLine_X12 : ∀ w ∈ wsX120, w ∈ wsX12_readLine := fun _ h => List.mem_cons_of_mem _ (List.mem_append_right _ h)
theorem iw_X12_fault_X12 : ∀ w ∈ wsX120, w ∈ wsX12_fault := fun _ h => List.mem_cons_of_mem _ (List.mem_append_right _ h)
theorem iw_X12_places_X12 : ∀ w ∈ wsX120, w ∈ wsX12_places := fun _ h => List.mem_cons_of_mem _ (List.mem_append_right _ h)
theorem iw_X12_many_X12 : ∀ w ∈ wsX120, w ∈ wsX12_many := fun _ h => List.mem_cons_of_mem _ (List.mem_append_right _ h)
