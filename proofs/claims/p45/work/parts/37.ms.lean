def wsX12_nooks_r1 : List Cond := [Cond.methodLink RX12 378 yX12_places, Cond.instanceMethod yX12_places, Cond.selects RX12 yX12_places yX12_places, Cond.initialized RX12, Cond.code yX12_places cX12_places 1 (some .int), Cond.fieldLink RX12 20 "SoldHouseModel" "rooms" "[I", Cond.fieldLink RX12 280 "SoldHouseModel" "bank" "I", Cond.methodLink RX12 400 yX12_behind, Cond.instanceMethod yX12_behind, Cond.selects RX12 yX12_behind yX12_behind, Cond.code yX12_behind cX12_behind 5 (some .int), Cond.fieldLink RX12 24 "SoldHouseModel" "doors" "[I", Cond.methodLink RX12 391 yX12_oneOf, Cond.instanceMethod yX12_oneOf, Cond.selects RX12 yX12_oneOf yX12_oneOf, Cond.code yX12_oneOf cX12_oneOf 2 (some .int), Cond.fieldLink RX12 39 "SoldHouseModel" "one" "[I", Cond.methodLink RX12 394 yX12_otherOf, Cond.instanceMethod yX12_otherOf, Cond.selects RX12 yX12_otherOf yX12_otherOf, Cond.code yX12_otherOf cX12_otherOf 2 (some .int), Cond.fieldLink RX12 42 "SoldHouseModel" "other" "[I", Cond.methodLink RX12 469 yX12_bitsOf, Cond.static yX12_bitsOf]
def wsX12_nooks_r2 : List Cond := [Cond.code yX12_bitsOf cX12_bitsOf 3 (some .int)]
def wsX12_nooks : List Cond := .code yX12_nooks cX12_nooks 3 (some .int) :: ((wsX12_nooks_r1 ++ wsX12_nooks_r2) ++ wsX120)
def wsX12_echo : List Cond := .code yX12_echo cX12_echo 5 (some .int) :: ([.methodLink RX12 385 yX12_isRoom, .instanceMethod yX12_isRoom, .selects RX12 yX12_isRoom yX12_isRoom, .initialized RX12, .code yX12_isRoom cX12_isRoom 2 (some .boolean), .methodLink RX12 378 yX12_places, .instanceMethod yX12_places, .selects RX12 yX12_places yX12_places, .code yX12_places cX12_places 1 (some .int), .fieldLink RX12 20 "SoldHouseModel" "rooms" "[I", .fieldLink RX12 280 "SoldHouseModel" "bank" "I", .methodLink RX12 381 yX12_isIn, .static yX12_isIn, .code yX12_isIn cX12_isIn 3 (some .boolean), .methodLink RX12 421 yX12_farOf, .instanceMethod yX12_farOf, .selects RX12 yX12_farOf yX12_farOf, .code yX12_farOf cX12_farOf 3 (some .int), .fieldLink RX12 98 "SoldHouseModel" "table" "[I", .methodLink RX12 430 yX12_creakOf, .instanceMethod yX12_creakOf, .selects RX12 yX12_creakOf yX12_creakOf, .code yX12_creakOf cX12_creakOf 2 (some .int), .fieldLink RX12 36 "SoldHouseModel" "creaks" "[I"] ++ wsX120)
def wsX12_mend : List Cond := .code yX12_mend cX12_mend 6 (some .int) :: ([.fieldLink RX12 95 "SoldHouseModel" "all" "[I", .methodLink RX12 381 yX12_isIn, .static yX12_isIn, .initialized RX12, .code yX12_isIn cX12_isIn 3 (some .boolean), .methodLink RX12 388 yX12_many, .instanceMethod yX12_many, .selects RX12 yX12_many yX12_many, .code yX12_many cX12_many 1 (some .int), .fieldLink RX12 27 "SoldHouseModel" "things" "[I", .fieldLink RX12 280 "SoldHouseModel" "bank" "I", .methodLink RX12 421 yX12_farOf, .instanceMethod yX12_farOf, .selects RX12 yX12_farOf yX12_farOf, .code yX12_farOf cX12_farOf 3 (some .int), .fieldLink RX12 98 "SoldHouseModel" "table" "[I"] ++ wsX120)
def wsX12_worthOf : List Cond := .code yX12_worthOf cX12_worthOf 3 (some .int) :: ([.fieldLink RX12 54 "SoldHouseModel" "toUs" "[I", .fieldLink RX12 280 "SoldHouseModel" "bank" "I", .fieldLink RX12 57 "SoldHouseModel" "toThem" "[I"] ++ wsX120)
def wsX12_regret : List Cond := .code yX12_regret cX12_regret 3 (some .int) :: ([.fieldLink RX12 95 "SoldHouseModel" "all" "[I", .methodLink RX12 388 yX12_many, .instanceMethod yX12_many, .selects RX12 yX12_many yX12_many, .initialized RX12, .code yX12_many cX12_many 1 (some .int), .fieldLink RX12 27 "SoldHouseModel" "things" "[I", .fieldLink RX12 280 "SoldHouseModel" "bank" "I", .methodLink RX12 487 yX12_worthOf, .instanceMethod yX12_worthOf, .selects RX12 yX12_worthOf yX12_worthOf, .code yX12_worthOf cX12_worthOf 3 (some .int), .fieldLink RX12 54 "SoldHouseModel" "toUs" "[I", .fieldLink RX12 57 "SoldHouseModel" "toThem" "[I"] ++ wsX120)
def wsX12_gainOf : List Cond := .code yX12_gainOf cX12_gainOf 5 (some .int) :: ([.fieldLink RX12 95 "SoldHouseModel" "all" "[I", .methodLink RX12 487 yX12_worthOf, .instanceMethod yX12_worthOf, .selects RX12 yX12_worthOf yX12_worthOf, .initialized RX12, .code yX12_worthOf cX12_worthOf 3 (some .int), .fieldLink RX12 54 "SoldHouseModel" "toUs" "[I", .fieldLink RX12 280 "SoldHouseModel" "bank" "I", .fieldLink RX12 57 "SoldHouseModel" "toThem" "[I"] ++ wsX120)
def wsX12_trade : List Cond := .code yX12_trade cX12_trade 5 (some .int) :: ([.methodLink RX12 381 yX12_isIn, .static yX12_isIn, .initialized RX12, .code yX12_isIn cX12_isIn 3 (some .boolean), .methodLink RX12 388 yX12_many, .instanceMethod yX12_many, .selects RX12 yX12_many yX12_many, .code yX12_many cX12_many 1 (some .int), .fieldLink RX12 27 "SoldHouseModel" "things" "[I", .fieldLink RX12 280 "SoldHouseModel" "bank" "I", .methodLink RX12 490 yX12_gainOf, .instanceMethod yX12_gainOf, .selects RX12 yX12_gainOf yX12_gainOf, .code yX12_gainOf cX12_gainOf 5 (some .int), .fieldLink RX12 95 "SoldHouseModel" "all" "[I", .methodLink RX12 487 yX12_worthOf, .instanceMethod yX12_worthOf, .selects RX12 yX12_worthOf yX12_worthOf, .code yX12_worthOf cX12_worthOf 3 (some .int), .fieldLink RX12 54 "SoldHouseModel" "toUs" "[I", .fieldLink RX12 57 "SoldHouseModel" "toThem" "[I"] ++ wsX120)
def wsX12_trades : List Cond := .code yX12_trades cX12_trades 5 (some .int) :: ([.fieldLink RX12 131 "SoldHouseModel" "taken" "[I", .methodLink RX12 388 yX12_many, .instanceMethod yX12_many, .selects RX12 yX12_many yX12_many, .initialized RX12, .code yX12_many cX12_many 1 (some .int), .fieldLink RX12 27 "SoldHouseModel" "things" "[I", .fieldLink RX12 280 "SoldHouseModel" "bank" "I", .methodLink RX12 397 yX12_has, .static yX12_has, .code yX12_has cX12_has 2 (some .boolean), .methodLink RX12 490 yX12_gainOf, .instanceMethod yX12_gainOf, .selects RX12 yX12_gainOf yX12_gainOf, .code yX12_gainOf cX12_gainOf 5 (some .int), .fieldLink RX12 95 "SoldHouseModel" "all" "[I", .methodLink RX12 487 yX12_worthOf, .instanceMethod yX12_worthOf, .selects RX12 yX12_worthOf yX12_worthOf, .code yX12_worthOf cX12_worthOf 3 (some .int), .fieldLink RX12 54 "SoldHouseModel" "toUs" "[I", .fieldLink RX12 57 "SoldHouseModel" "toThem" "[I"] ++ wsX120)
def wsX12_wealth : List Cond := .code yX12_wealth cX12_wealth 4 (some .int) :: ([.fieldLink RX12 95 "SoldHouseModel" "all" "[I", .methodLink RX12 381 yX12_isIn, .static yX12_isIn, .initialized RX12, .code yX12_isIn cX12_isIn 3 (some .boolean), .methodLink RX12 388 yX12_many, .instanceMethod yX12_many, .selects RX12 yX12_many yX12_many, .code yX12_many cX12_many 1 (some .int), .fieldLink RX12 27 "SoldHouseModel" "things" "[I", .fieldLink RX12 280 "SoldHouseModel" "bank" "I", .methodLink RX12 487 yX12_worthOf, .instanceMethod yX12_worthOf, .selects RX12 yX12_worthOf yX12_worthOf, .code yX12_worthOf cX12_worthOf 3 (some .int), .fieldLink RX12 54 "SoldHouseModel" "toUs" "[I", .fieldLink RX12 57 "SoldHouseModel" "toThem" "[I"] ++ wsX120)
def wsX12_off : List Cond := .code yX12_off cX12_off 3 (some .int) :: ([.methodLink RX12 388 yX12_many, .instanceMethod yX12_many, .selects RX12 yX12_many yX12_many, .initialized RX12, .code yX12_many cX12_many 1 (some .int), .fieldLink RX12 27 "SoldHouseModel" "things" "[I", .fieldLink RX12 280 "SoldHouseModel" "bank" "I", .methodLink RX12 368 yX12_offOf, .instanceMethod yX12_offOf, .selects RX12 yX12_offOf yX12_offOf, .code yX12_offOf cX12_offOf 2 (some .int), .fieldLink RX12 95 "SoldHouseModel" "all" "[I", .methodLink RX12 421 yX12_farOf, .instanceMethod yX12_farOf, .selects RX12 yX12_farOf yX12_farOf, .code yX12_farOf cX12_farOf 3 (some .int), .fieldLink RX12 98 "SoldHouseModel" "table" "[I", .methodLink RX12 424 yX12_lesser, .static yX12_lesser, .code yX12_lesser cX12_lesser 2 (some .int)] ++ wsX120)
def wsX12_right : List Cond := .code yX12_right cX12_right 1 (some .int) :: ([.methodLink RX12 493 yX12_rightOnes, .instanceMethod yX12_rightOnes, .selects RX12 yX12_rightOnes yX12_rightOnes, .initialized RX12, .code yX12_rightOnes cX12_rightOnes 3 (some .int), .fieldLink RX12 95 "SoldHouseModel" "all" "[I", .methodLink RX12 388 yX12_many, .instanceMethod yX12_many, .selects RX12 yX12_many yX12_many, .code yX12_many cX12_many 1 (some .int), .fieldLink RX12 27 "SoldHouseModel" "things" "[I", .fieldLink RX12 280 "SoldHouseModel" "bank" "I"] ++ wsX120)
def wsX12_deep : List Cond := .code yX12_deep cX12_deep 4 (some .int) :: ([.fieldLink RX12 95 "SoldHouseModel" "all" "[I", .methodLink RX12 381 yX12_isIn, .static yX12_isIn, .initialized RX12, .code yX12_isIn cX12_isIn 3 (some .boolean), .methodLink RX12 388 yX12_many, .instanceMethod yX12_many, .selects RX12 yX12_many yX12_many, .code yX12_many cX12_many 1 (some .int), .fieldLink RX12 27 "SoldHouseModel" "things" "[I", .fieldLink RX12 280 "SoldHouseModel" "bank" "I"] ++ wsX120)
def wsX12_openAt : List Cond := .code yX12_openAt cX12_openAt 7 (some .int) :: ([.fieldLink RX12 415 "SoldHouseModel" "heards" "I", .fieldLink RX12 137 "SoldHouseModel" "hMinute" "[I", .fieldLink RX12 149 "SoldHouseModel" "hTold" "[I", .fieldLink RX12 152 "SoldHouseModel" "hUntold" "[I", .fieldLink RX12 143 "SoldHouseModel" "hRoom" "[I", .fieldLink RX12 140 "SoldHouseModel" "hCreaks" "[I", .fieldLink RX12 146 "SoldHouseModel" "hIs" "[I", .methodLink RX12 378 yX12_places, .instanceMethod yX12_places, .selects RX12 yX12_places yX12_places, .initialized RX12, .code yX12_places cX12_places 1 (some .int), .fieldLink RX12 20 "SoldHouseModel" "rooms" "[I", .fieldLink RX12 280 "SoldHouseModel" "bank" "I", .methodLink RX12 430 yX12_creakOf, .instanceMethod yX12_creakOf, .selects RX12 yX12_creakOf yX12_creakOf, .code yX12_creakOf cX12_creakOf 2 (some .int), .fieldLink RX12 36 "SoldHouseModel" "creaks" "[I"] ++ wsX120)
def wsX12_stepOn_r1 : List Cond := [Cond.fieldLink RX12 119 "SoldHouseModel" "waysThen" "[I", Cond.fieldLink RX12 116 "SoldHouseModel" "waysTo" "[I", Cond.methodLink RX12 378 yX12_places, Cond.instanceMethod yX12_places, Cond.selects RX12 yX12_places yX12_places, Cond.initialized RX12, Cond.code yX12_places cX12_places 1 (some .int), Cond.fieldLink RX12 20 "SoldHouseModel" "rooms" "[I", Cond.fieldLink RX12 280 "SoldHouseModel" "bank" "I", Cond.methodLink RX12 400 yX12_behind, Cond.instanceMethod yX12_behind, Cond.selects RX12 yX12_behind yX12_behind, Cond.code yX12_behind cX12_behind 5 (some .int), Cond.fieldLink RX12 24 "SoldHouseModel" "doors" "[I", Cond.methodLink RX12 391 yX12_oneOf, Cond.instanceMethod yX12_oneOf, Cond.selects RX12 yX12_oneOf yX12_oneOf, Cond.code yX12_oneOf cX12_oneOf 2 (some .int), Cond.fieldLink RX12 39 "SoldHouseModel" "one" "[I", Cond.methodLink RX12 394 yX12_otherOf, Cond.instanceMethod yX12_otherOf, Cond.selects RX12 yX12_otherOf yX12_otherOf, Cond.code yX12_otherOf cX12_otherOf 2 (some .int), Cond.fieldLink RX12 42 "SoldHouseModel" "other" "[I"]
def wsX12_stepOn_r2 : List Cond := [Cond.methodLink RX12 397 yX12_has, Cond.static yX12_has, Cond.code yX12_has cX12_has 2 (some .boolean)]
def wsX12_stepOn : List Cond := .code yX12_stepOn cX12_stepOn 5 none :: ((wsX12_stepOn_r1 ++ wsX12_stepOn_r2) ++ wsX120)
def wsX12_layWalks_r1 : List Cond := [Cond.fieldLink RX12 116 "SoldHouseModel" "waysTo" "[I", Cond.fieldLink RX12 155 "SoldHouseModel" "waysAt" "[I", Cond.fieldLink RX12 158 "SoldHouseModel" "waysOn" "[I", Cond.methodLink RX12 378 yX12_places, Cond.instanceMethod yX12_places, Cond.selects RX12 yX12_places yX12_places, Cond.initialized RX12, Cond.code yX12_places cX12_places 1 (some .int), Cond.fieldLink RX12 20 "SoldHouseModel" "rooms" "[I", Cond.fieldLink RX12 280 "SoldHouseModel" "bank" "I", Cond.methodLink RX12 513 yX12_openAt, Cond.instanceMethod yX12_openAt, Cond.selects RX12 yX12_openAt yX12_openAt, Cond.code yX12_openAt cX12_openAt 7 (some .int), Cond.fieldLink RX12 415 "SoldHouseModel" "heards" "I", Cond.fieldLink RX12 137 "SoldHouseModel" "hMinute" "[I", Cond.fieldLink RX12 149 "SoldHouseModel" "hTold" "[I", Cond.fieldLink RX12 152 "SoldHouseModel" "hUntold" "[I", Cond.fieldLink RX12 143 "SoldHouseModel" "hRoom" "[I", Cond.fieldLink RX12 140 "SoldHouseModel" "hCreaks" "[I", Cond.fieldLink RX12 146 "SoldHouseModel" "hIs" "[I", Cond.methodLink RX12 430 yX12_creakOf, Cond.instanceMethod yX12_creakOf, Cond.selects RX12 yX12_creakOf yX12_creakOf]
def wsX12_layWalks_r2 : List Cond := [Cond.code yX12_creakOf cX12_creakOf 2 (some .int), Cond.fieldLink RX12 36 "SoldHouseModel" "creaks" "[I", Cond.methodLink RX12 516 yX12_stepOn, Cond.instanceMethod yX12_stepOn, Cond.selects RX12 yX12_stepOn yX12_stepOn, Cond.code yX12_stepOn cX12_stepOn 5 none, Cond.fieldLink RX12 119 "SoldHouseModel" "waysThen" "[I", Cond.methodLink RX12 400 yX12_behind, Cond.instanceMethod yX12_behind, Cond.selects RX12 yX12_behind yX12_behind, Cond.code yX12_behind cX12_behind 5 (some .int), Cond.fieldLink RX12 24 "SoldHouseModel" "doors" "[I", Cond.methodLink RX12 391 yX12_oneOf, Cond.instanceMethod yX12_oneOf, Cond.selects RX12 yX12_oneOf yX12_oneOf, Cond.code yX12_oneOf cX12_oneOf 2 (some .int), Cond.fieldLink RX12 39 "SoldHouseModel" "one" "[I", Cond.methodLink RX12 394 yX12_otherOf, Cond.instanceMethod yX12_otherOf, Cond.selects RX12 yX12_otherOf yX12_otherOf, Cond.code yX12_otherOf cX12_otherOf 2 (some .int), Cond.fieldLink RX12 42 "SoldHouseModel" "other" "[I", Cond.methodLink RX12 397 yX12_has, Cond.static yX12_has]
def wsX12_layWalks_r3 : List Cond := [Cond.code yX12_has cX12_has 2 (some .boolean)]
def wsX12_layWalks : List Cond := .code yX12_layWalks cX12_layWalks 4 none :: ((wsX12_layWalks_r1 ++ (wsX12_layWalks_r2 ++ wsX12_layWalks_r3)) ++ wsX120)
def wsX12_walksBy : List Cond := .code yX12_walksBy cX12_walksBy 3 (some .int) :: ([.fieldLink RX12 155 "SoldHouseModel" "waysAt" "[I", .fieldLink RX12 158 "SoldHouseModel" "waysOn" "[I"] ++ wsX120)
theorem dX12_nooks_0 : decode cX12_nooks 0 = .ok (.iconst 0, 1) := by decide +kernel
theorem dX12_nooks_1 : decode cX12_nooks 1 = .ok (.istore_n 1, 1) := by decide +kernel
theorem dX12_nooks_2 : decode cX12_nooks 2 = .ok (.iconst 0, 1) := by decide +kernel
theorem dX12_nooks_3 : decode cX12_nooks 3 = .ok (.istore_n 2, 1) := by decide +kernel
theorem dX12_nooks_4 : decode cX12_nooks 4 = .ok (.iload_n 2, 1) := by decide +kernel
theorem dX12_nooks_5 : decode cX12_nooks 5 = .ok (.aload_n 0, 1) := by decide +kernel
theorem dX12_nooks_6 : decode cX12_nooks 6 = .ok (.invokevirtual 378, 3) := by decide +kernel
theorem dX12_nooks_9 : decode cX12_nooks 9 = .ok (.if_icmp .ge 28, 3) := by decide +kernel
theorem dX12_nooks_12 : decode cX12_nooks 12 = .ok (.aload_n 0, 1) := by decide +kernel
theorem dX12_nooks_13 : decode cX12_nooks 13 = .ok (.iload_n 2, 1) := by decide +kernel
theorem dX12_nooks_14 : decode cX12_nooks 14 = .ok (.iconst (-1), 1) := by decide +kernel
theorem dX12_nooks_15 : decode cX12_nooks 15 = .ok (.invokevirtual 400, 3) := by decide +kernel
theorem dX12_nooks_18 : decode cX12_nooks 18 = .ok (.invokestatic 469, 3) := by decide +kernel
theorem dX12_nooks_21 : decode cX12_nooks 21 = .ok (.iconst 2, 1) := by decide +kernel
theorem dX12_nooks_22 : decode cX12_nooks 22 = .ok (.if_icmp .ge 9, 3) := by decide +kernel
theorem dX12_nooks_25 : decode cX12_nooks 25 = .ok (.iload_n 1, 1) := by decide +kernel
theorem dX12_nooks_26 : decode cX12_nooks 26 = .ok (.iconst 1, 1) := by decide +kernel
theorem dX12_nooks_27 : decode cX12_nooks 27 = .ok (.iload_n 2, 1) := by decide +kernel
theorem dX12_nooks_28 : decode cX12_nooks 28 = .ok (.ishl, 1) := by decide +kernel
theorem dX12_nooks_29 : decode cX12_nooks 29 = .ok (.ior, 1) := by decide +kernel
theorem dX12_nooks_30 : decode cX12_nooks 30 = .ok (.istore_n 1, 1) := by decide +kernel
theorem dX12_nooks_31 : decode cX12_nooks 31 = .ok (.iinc 2 1, 3) := by decide +kernel
theorem dX12_nooks_34 : decode cX12_nooks 34 = .ok (.goto (-30), 3) := by decide +kernel
theorem dX12_nooks_37 : decode cX12_nooks 37 = .ok (.iload_n 1, 1) := by decide +kernel
theorem dX12_nooks_38 : decode cX12_nooks 38 = .ok (.ireturn, 1) := by decide +kernel
theorem dX12_echo_0 : decode cX12_echo 0 = .ok (.aload_n 0, 1) := by decide +kernel
theorem dX12_echo_1 : decode cX12_echo 1 = .ok (.iload_n 1, 1) := by decide +kernel
theorem dX12_echo_2 : decode cX12_echo 2 = .ok (.invokevirtual 385, 3) := by decide +kernel
theorem dX12_echo_5 : decode cX12_echo 5 = .ok (.ifCond .eq 13, 3) := by decide +kernel
theorem dX12_echo_8 : decode cX12_echo 8 = .ok (.iload_n 2, 1) := by decide +kernel
theorem dX12_echo_9 : decode cX12_echo 9 = .ok (.iconst 0, 1) := by decide +kernel
theorem dX12_echo_10 : decode cX12_echo 10 = .ok (.bipush 8, 2) := by decide +kernel
theorem dX12_echo_12 : decode cX12_echo 12 = .ok (.invokestatic 381, 3) := by decide +kernel
theorem dX12_echo_15 : decode cX12_echo 15 = .ok (.ifCond .ne 5, 3) := by decide +kernel
theorem dX12_echo_18 : decode cX12_echo 18 = .ok (.iconst (-1), 1) := by decide +kernel
theorem dX12_echo_19 : decode cX12_echo 19 = .ok (.ireturn, 1) := by decide +kernel
theorem dX12_echo_20 : decode cX12_echo 20 = .ok (.iconst 0, 1) := by decide +kernel
theorem dX12_echo_21 : decode cX12_echo 21 = .ok (.istore_n 3, 1) := by decide +kernel
theorem dX12_echo_22 : decode cX12_echo 22 = .ok (.iconst 0, 1) := by decide +kernel
theorem dX12_echo_23 : decode cX12_echo 23 = .ok (.istore 4, 2) := by decide +kernel
theorem dX12_echo_25 : decode cX12_echo 25 = .ok (.iload 4, 2) := by decide +kernel
theorem dX12_echo_27 : decode cX12_echo 27 = .ok (.aload_n 0, 1) := by decide +kernel
theorem dX12_echo_28 : decode cX12_echo 28 = .ok (.invokevirtual 378, 3) := by decide +kernel
theorem dX12_echo_31 : decode cX12_echo 31 = .ok (.if_icmp .ge 33, 3) := by decide +kernel
theorem dX12_echo_34 : decode cX12_echo 34 = .ok (.iload_n 3, 1) := by decide +kernel
theorem dX12_echo_35 : decode cX12_echo 35 = .ok (.aload_n 0, 1) := by decide +kernel
theorem dX12_echo_36 : decode cX12_echo 36 = .ok (.iload_n 1, 1) := by decide +kernel
theorem dX12_echo_37 : decode cX12_echo 37 = .ok (.iload 4, 2) := by decide +kernel
theorem dX12_echo_39 : decode cX12_echo 39 = .ok (.invokevirtual 421, 3) := by decide +kernel
theorem dX12_echo_42 : decode cX12_echo 42 = .ok (.iload_n 2, 1) := by decide +kernel
theorem dX12_echo_43 : decode cX12_echo 43 = .ok (.if_icmp .gt 12, 3) := by decide +kernel
theorem dX12_echo_46 : decode cX12_echo 46 = .ok (.aload_n 0, 1) := by decide +kernel
theorem dX12_echo_47 : decode cX12_echo 47 = .ok (.iload 4, 2) := by decide +kernel
theorem dX12_echo_49 : decode cX12_echo 49 = .ok (.invokevirtual 430, 3) := by decide +kernel
theorem dX12_echo_52 : decode cX12_echo 52 = .ok (.goto 4, 3) := by decide +kernel
theorem dX12_echo_55 : decode cX12_echo 55 = .ok (.iconst 0, 1) := by decide +kernel
theorem dX12_echo_56 : decode cX12_echo 56 = .ok (.iadd, 1) := by decide +kernel
theorem dX12_echo_57 : decode cX12_echo 57 = .ok (.istore_n 3, 1) := by decide +kernel
theorem dX12_echo_58 : decode cX12_echo 58 = .ok (.iinc 4 1, 3) := by decide +kernel
theorem dX12_echo_61 : decode cX12_echo 61 = .ok (.goto (-36), 3) := by decide +kernel
theorem dX12_echo_64 : decode cX12_echo 64 = .ok (.iload_n 3, 1) := by decide +kernel
theorem dX12_echo_65 : decode cX12_echo 65 = .ok (.ireturn, 1) := by decide +kernel
theorem dX12_mend_0 : decode cX12_mend 0 = .ok (.iload_n 1, 1) := by decide +kernel
theorem dX12_mend_1 : decode cX12_mend 1 = .ok (.iconst 0, 1) := by decide +kernel
theorem dX12_mend_2 : decode cX12_mend 2 = .ok (.bipush 99, 2) := by decide +kernel
theorem dX12_mend_4 : decode cX12_mend 4 = .ok (.invokestatic 381, 3) := by decide +kernel
theorem dX12_mend_7 : decode cX12_mend 7 = .ok (.ifCond .ne 5, 3) := by decide +kernel
theorem dX12_mend_10 : decode cX12_mend 10 = .ok (.iconst (-1), 1) := by decide +kernel
theorem dX12_mend_11 : decode cX12_mend 11 = .ok (.ireturn, 1) := by decide +kernel
theorem dX12_mend_12 : decode cX12_mend 12 = .ok (.iload_n 1, 1) := by decide +kernel
theorem dX12_mend_13 : decode cX12_mend 13 = .ok (.istore_n 2, 1) := by decide +kernel
theorem dX12_mend_14 : decode cX12_mend 14 = .ok (.iconst 0, 1) := by decide +kernel
theorem dX12_mend_15 : decode cX12_mend 15 = .ok (.istore_n 3, 1) := by decide +kernel
theorem dX12_mend_16 : decode cX12_mend 16 = .ok (.iconst 0, 1) := by decide +kernel
theorem dX12_mend_17 : decode cX12_mend 17 = .ok (.istore 4, 2) := by decide +kernel
theorem dX12_mend_19 : decode cX12_mend 19 = .ok (.iload 4, 2) := by decide +kernel
theorem dX12_mend_21 : decode cX12_mend 21 = .ok (.bipush 8, 2) := by decide +kernel
theorem dX12_mend_23 : decode cX12_mend 23 = .ok (.if_icmp .ge 72, 3) := by decide +kernel
theorem dX12_mend_26 : decode cX12_mend 26 = .ok (.iconst 0, 1) := by decide +kernel
theorem dX12_mend_27 : decode cX12_mend 27 = .ok (.istore 5, 2) := by decide +kernel
theorem dX12_mend_29 : decode cX12_mend 29 = .ok (.iload 5, 2) := by decide +kernel
theorem dX12_mend_31 : decode cX12_mend 31 = .ok (.aload_n 0, 1) := by decide +kernel
theorem dX12_mend_32 : decode cX12_mend 32 = .ok (.invokevirtual 388, 3) := by decide +kernel
theorem dX12_mend_35 : decode cX12_mend 35 = .ok (.if_icmp .ge 54, 3) := by decide +kernel
theorem dX12_mend_38 : decode cX12_mend 38 = .ok (.aload_n 0, 1) := by decide +kernel
theorem dX12_mend_39 : decode cX12_mend 39 = .ok (.aload_n 0, 1) := by decide +kernel
theorem dX12_mend_40 : decode cX12_mend 40 = .ok (.getfield 95, 3) := by decide +kernel
theorem dX12_mend_43 : decode cX12_mend 43 = .ok (.iconst 0, 1) := by decide +kernel
theorem dX12_mend_44 : decode cX12_mend 44 = .ok (.iload 5, 2) := by decide +kernel
theorem dX12_mend_46 : decode cX12_mend 46 = .ok (.iadd, 1) := by decide +kernel
theorem dX12_mend_47 : decode cX12_mend 47 = .ok (.iaload, 1) := by decide +kernel
theorem dX12_mend_48 : decode cX12_mend 48 = .ok (.aload_n 0, 1) := by decide +kernel
theorem dX12_mend_49 : decode cX12_mend 49 = .ok (.getfield 95, 3) := by decide +kernel
theorem dX12_mend_52 : decode cX12_mend 52 = .ok (.bipush 6, 2) := by decide +kernel
theorem dX12_mend_54 : decode cX12_mend 54 = .ok (.iload 5, 2) := by decide +kernel
theorem dX12_mend_56 : decode cX12_mend 56 = .ok (.iadd, 1) := by decide +kernel
theorem dX12_mend_57 : decode cX12_mend 57 = .ok (.iaload, 1) := by decide +kernel
theorem dX12_mend_58 : decode cX12_mend 58 = .ok (.invokevirtual 421, 3) := by decide +kernel
theorem dX12_mend_61 : decode cX12_mend 61 = .ok (.iload 4, 2) := by decide +kernel
theorem dX12_mend_63 : decode cX12_mend 63 = .ok (.if_icmp .ne 20, 3) := by decide +kernel
theorem dX12_mend_66 : decode cX12_mend 66 = .ok (.iload 4, 2) := by decide +kernel
theorem dX12_mend_68 : decode cX12_mend 68 = .ok (.iload_n 2, 1) := by decide +kernel
theorem dX12_mend_69 : decode cX12_mend 69 = .ok (.if_icmp .le 6, 3) := by decide +kernel
theorem dX12_mend_72 : decode cX12_mend 72 = .ok (.goto 11, 3) := by decide +kernel
theorem dX12_mend_75 : decode cX12_mend 75 = .ok (.iload_n 2, 1) := by decide +kernel
theorem dX12_mend_76 : decode cX12_mend 76 = .ok (.iload 4, 2) := by decide +kernel
theorem dX12_mend_78 : decode cX12_mend 78 = .ok (.isub, 1) := by decide +kernel
theorem dX12_mend_79 : decode cX12_mend 79 = .ok (.istore_n 2, 1) := by decide +kernel
theorem dX12_mend_80 : decode cX12_mend 80 = .ok (.iinc 3 1, 3) := by decide +kernel
theorem dX12_mend_83 : decode cX12_mend 83 = .ok (.iinc 5 1, 3) := by decide +kernel
theorem dX12_mend_86 : decode cX12_mend 86 = .ok (.goto (-57), 3) := by decide +kernel
theorem dX12_mend_89 : decode cX12_mend 89 = .ok (.iinc 4 1, 3) := by decide +kernel
theorem dX12_mend_92 : decode cX12_mend 92 = .ok (.goto (-73), 3) := by decide +kernel
theorem dX12_mend_95 : decode cX12_mend 95 = .ok (.iload_n 3, 1) := by decide +kernel
theorem dX12_mend_96 : decode cX12_mend 96 = .ok (.ireturn, 1) := by decide +kernel
theorem dX12_worthOf_0 : decode cX12_worthOf 0 = .ok (.iload_n 2, 1) := by decide +kernel
theorem dX12_worthOf_1 : decode cX12_worthOf 1 = .ok (.ifCond .ne 20, 3) := by decide +kernel
theorem dX12_worthOf_4 : decode cX12_worthOf 4 = .ok (.aload_n 0, 1) := by decide +kernel
theorem dX12_worthOf_5 : decode cX12_worthOf 5 = .ok (.getfield 54, 3) := by decide +kernel
theorem dX12_worthOf_8 : decode cX12_worthOf 8 = .ok (.bipush 6, 2) := by decide +kernel
theorem dX12_worthOf_10 : decode cX12_worthOf 10 = .ok (.aload_n 0, 1) := by decide +kernel
theorem dX12_worthOf_11 : decode cX12_worthOf 11 = .ok (.getfield 280, 3) := by decide +kernel
theorem dX12_worthOf_14 : decode cX12_worthOf 14 = .ok (.imul, 1) := by decide +kernel
theorem dX12_worthOf_15 : decode cX12_worthOf 15 = .ok (.iload_n 1, 1) := by decide +kernel
theorem dX12_worthOf_16 : decode cX12_worthOf 16 = .ok (.iadd, 1) := by decide +kernel
theorem dX12_worthOf_17 : decode cX12_worthOf 17 = .ok (.iaload, 1) := by decide +kernel
theorem dX12_worthOf_18 : decode cX12_worthOf 18 = .ok (.goto 17, 3) := by decide +kernel
theorem dX12_worthOf_21 : decode cX12_worthOf 21 = .ok (.aload_n 0, 1) := by decide +kernel
theorem dX12_worthOf_22 : decode cX12_worthOf 22 = .ok (.getfield 57, 3) := by decide +kernel
theorem dX12_worthOf_25 : decode cX12_worthOf 25 = .ok (.bipush 6, 2) := by decide +kernel
theorem dX12_worthOf_27 : decode cX12_worthOf 27 = .ok (.aload_n 0, 1) := by decide +kernel
theorem dX12_worthOf_28 : decode cX12_worthOf 28 = .ok (.getfield 280, 3) := by decide +kernel
theorem dX12_worthOf_31 : decode cX12_worthOf 31 = .ok (.imul, 1) := by decide +kernel
theorem dX12_worthOf_32 : decode cX12_worthOf 32 = .ok (.iload_n 1, 1) := by decide +kernel
theorem dX12_worthOf_33 : decode cX12_worthOf 33 = .ok (.iadd, 1) := by decide +kernel
theorem dX12_worthOf_34 : decode cX12_worthOf 34 = .ok (.iaload, 1) := by decide +kernel
theorem dX12_worthOf_35 : decode cX12_worthOf 35 = .ok (.ireturn, 1) := by decide +kernel
theorem dX12_regret_0 : decode cX12_regret 0 = .ok (.iconst 0, 1) := by decide +kernel
theorem dX12_regret_1 : decode cX12_regret 1 = .ok (.istore_n 1, 1) := by decide +kernel
theorem dX12_regret_2 : decode cX12_regret 2 = .ok (.iconst 0, 1) := by decide +kernel
theorem dX12_regret_3 : decode cX12_regret 3 = .ok (.istore_n 2, 1) := by decide +kernel
theorem dX12_regret_4 : decode cX12_regret 4 = .ok (.iload_n 2, 1) := by decide +kernel
theorem dX12_regret_5 : decode cX12_regret 5 = .ok (.aload_n 0, 1) := by decide +kernel
theorem dX12_regret_6 : decode cX12_regret 6 = .ok (.invokevirtual 388, 3) := by decide +kernel
theorem dX12_regret_9 : decode cX12_regret 9 = .ok (.if_icmp .ge 48, 3) := by decide +kernel
theorem dX12_regret_12 : decode cX12_regret 12 = .ok (.aload_n 0, 1) := by decide +kernel
theorem dX12_regret_13 : decode cX12_regret 13 = .ok (.iload_n 2, 1) := by decide +kernel
theorem dX12_regret_14 : decode cX12_regret 14 = .ok (.aload_n 0, 1) := by decide +kernel
theorem dX12_regret_15 : decode cX12_regret 15 = .ok (.getfield 95, 3) := by decide +kernel
theorem dX12_regret_18 : decode cX12_regret 18 = .ok (.bipush 12, 2) := by decide +kernel
theorem dX12_regret_20 : decode cX12_regret 20 = .ok (.iload_n 2, 1) := by decide +kernel
theorem dX12_regret_21 : decode cX12_regret 21 = .ok (.iadd, 1) := by decide +kernel
theorem dX12_regret_22 : decode cX12_regret 22 = .ok (.iaload, 1) := by decide +kernel
theorem dX12_regret_23 : decode cX12_regret 23 = .ok (.invokevirtual 487, 3) := by decide +kernel
theorem dX12_regret_26 : decode cX12_regret 26 = .ok (.aload_n 0, 1) := by decide +kernel
theorem dX12_regret_27 : decode cX12_regret 27 = .ok (.iload_n 2, 1) := by decide +kernel
theorem dX12_regret_28 : decode cX12_regret 28 = .ok (.iconst 1, 1) := by decide +kernel
theorem dX12_regret_29 : decode cX12_regret 29 = .ok (.aload_n 0, 1) := by decide +kernel
theorem dX12_regret_30 : decode cX12_regret 30 = .ok (.getfield 95, 3) := by decide +kernel
theorem dX12_regret_33 : decode cX12_regret 33 = .ok (.bipush 12, 2) := by decide +kernel
theorem dX12_regret_35 : decode cX12_regret 35 = .ok (.iload_n 2, 1) := by decide +kernel
theorem dX12_regret_36 : decode cX12_regret 36 = .ok (.iadd, 1) := by decide +kernel
theorem dX12_regret_37 : decode cX12_regret 37 = .ok (.iaload, 1) := by decide +kernel
theorem dX12_regret_38 : decode cX12_regret 38 = .ok (.isub, 1) := by decide +kernel
theorem dX12_regret_39 : decode cX12_regret 39 = .ok (.invokevirtual 487, 3) := by decide +kernel
theorem dX12_regret_42 : decode cX12_regret 42 = .ok (.if_icmp .le 9, 3) := by decide +kernel
theorem dX12_regret_45 : decode cX12_regret 45 = .ok (.iload_n 1, 1) := by decide +kernel
theorem dX12_regret_46 : decode cX12_regret 46 = .ok (.iconst 1, 1) := by decide +kernel
theorem dX12_regret_47 : decode cX12_regret 47 = .ok (.iload_n 2, 1) := by decide +kernel
theorem dX12_regret_48 : decode cX12_regret 48 = .ok (.ishl, 1) := by decide +kernel
theorem dX12_regret_49 : decode cX12_regret 49 = .ok (.ior, 1) := by decide +kernel
theorem dX12_regret_50 : decode cX12_regret 50 = .ok (.istore_n 1, 1) := by decide +kernel
theorem dX12_regret_51 : decode cX12_regret 51 = .ok (.iinc 2 1, 3) := by decide +kernel
theorem dX12_regret_54 : decode cX12_regret 54 = .ok (.goto (-50), 3) := by decide +kernel
theorem dX12_regret_57 : decode cX12_regret 57 = .ok (.iload_n 1, 1) := by decide +kernel
theorem dX12_regret_58 : decode cX12_regret 58 = .ok (.ireturn, 1) := by decide +kernel
theorem dX12_gainOf_0 : decode cX12_gainOf 0 = .ok (.aload_n 0, 1) := by decide +kernel
theorem dX12_gainOf_1 : decode cX12_gainOf 1 = .ok (.getfield 95, 3) := by decide +kernel
theorem dX12_gainOf_4 : decode cX12_gainOf 4 = .ok (.bipush 12, 2) := by decide +kernel
theorem dX12_gainOf_6 : decode cX12_gainOf 6 = .ok (.iload_n 1, 1) := by decide +kernel
theorem dX12_gainOf_7 : decode cX12_gainOf 7 = .ok (.iadd, 1) := by decide +kernel
theorem dX12_gainOf_8 : decode cX12_gainOf 8 = .ok (.iaload, 1) := by decide +kernel
theorem dX12_gainOf_9 : decode cX12_gainOf 9 = .ok (.iconst 1, 1) := by decide +kernel
theorem dX12_gainOf_10 : decode cX12_gainOf 10 = .ok (.if_icmp .ne 15, 3) := by decide +kernel
theorem dX12_gainOf_13 : decode cX12_gainOf 13 = .ok (.aload_n 0, 1) := by decide +kernel
theorem dX12_gainOf_14 : decode cX12_gainOf 14 = .ok (.getfield 95, 3) := by decide +kernel
theorem dX12_gainOf_17 : decode cX12_gainOf 17 = .ok (.bipush 12, 2) := by decide +kernel
theorem dX12_gainOf_19 : decode cX12_gainOf 19 = .ok (.iload_n 2, 1) := by decide +kernel
theorem dX12_gainOf_20 : decode cX12_gainOf 20 = .ok (.iadd, 1) := by decide +kernel
theorem dX12_gainOf_21 : decode cX12_gainOf 21 = .ok (.iaload, 1) := by decide +kernel
theorem dX12_gainOf_22 : decode cX12_gainOf 22 = .ok (.ifCond .eq 5, 3) := by decide +kernel
theorem dX12_gainOf_25 : decode cX12_gainOf 25 = .ok (.iconst (-1), 1) := by decide +kernel
theorem dX12_gainOf_26 : decode cX12_gainOf 26 = .ok (.ireturn, 1) := by decide +kernel
theorem dX12_gainOf_27 : decode cX12_gainOf 27 = .ok (.aload_n 0, 1) := by decide +kernel
theorem dX12_gainOf_28 : decode cX12_gainOf 28 = .ok (.iload_n 2, 1) := by decide +kernel
theorem dX12_gainOf_29 : decode cX12_gainOf 29 = .ok (.iconst 0, 1) := by decide +kernel
theorem dX12_gainOf_30 : decode cX12_gainOf 30 = .ok (.invokevirtual 487, 3) := by decide +kernel
theorem dX12_gainOf_33 : decode cX12_gainOf 33 = .ok (.aload_n 0, 1) := by decide +kernel
theorem dX12_gainOf_34 : decode cX12_gainOf 34 = .ok (.iload_n 1, 1) := by decide +kernel
theorem dX12_gainOf_35 : decode cX12_gainOf 35 = .ok (.iconst 0, 1) := by decide +kernel
theorem dX12_gainOf_36 : decode cX12_gainOf 36 = .ok (.invokevirtual 487, 3) := by decide +kernel
theorem dX12_gainOf_39 : decode cX12_gainOf 39 = .ok (.isub, 1) := by decide +kernel
theorem dX12_gainOf_40 : decode cX12_gainOf 40 = .ok (.istore_n 3, 1) := by decide +kernel
theorem dX12_gainOf_41 : decode cX12_gainOf 41 = .ok (.aload_n 0, 1) := by decide +kernel
theorem dX12_gainOf_42 : decode cX12_gainOf 42 = .ok (.iload_n 1, 1) := by decide +kernel
theorem dX12_gainOf_43 : decode cX12_gainOf 43 = .ok (.iconst 1, 1) := by decide +kernel
theorem dX12_gainOf_44 : decode cX12_gainOf 44 = .ok (.invokevirtual 487, 3) := by decide +kernel
theorem dX12_gainOf_47 : decode cX12_gainOf 47 = .ok (.aload_n 0, 1) := by decide +kernel
theorem dX12_gainOf_48 : decode cX12_gainOf 48 = .ok (.iload_n 2, 1) := by decide +kernel
theorem dX12_gainOf_49 : decode cX12_gainOf 49 = .ok (.iconst 1, 1) := by decide +kernel
theorem dX12_gainOf_50 : decode cX12_gainOf 50 = .ok (.invokevirtual 487, 3) := by decide +kernel
theorem dX12_gainOf_53 : decode cX12_gainOf 53 = .ok (.isub, 1) := by decide +kernel
theorem dX12_gainOf_54 : decode cX12_gainOf 54 = .ok (.istore 4, 2) := by decide +kernel
theorem dX12_gainOf_56 : decode cX12_gainOf 56 = .ok (.iload_n 3, 1) := by decide +kernel
theorem dX12_gainOf_57 : decode cX12_gainOf 57 = .ok (.ifCond .lt 8, 3) := by decide +kernel
theorem dX12_gainOf_60 : decode cX12_gainOf 60 = .ok (.iload 4, 2) := by decide +kernel
theorem dX12_gainOf_62 : decode cX12_gainOf 62 = .ok (.ifCond .ge 7, 3) := by decide +kernel
theorem dX12_gainOf_65 : decode cX12_gainOf 65 = .ok (.iconst (-1), 1) := by decide +kernel
theorem dX12_gainOf_66 : decode cX12_gainOf 66 = .ok (.goto 7, 3) := by decide +kernel
theorem dX12_gainOf_69 : decode cX12_gainOf 69 = .ok (.iload_n 3, 1) := by decide +kernel
theorem dX12_gainOf_70 : decode cX12_gainOf 70 = .ok (.iload 4, 2) := by decide +kernel
theorem dX12_gainOf_72 : decode cX12_gainOf 72 = .ok (.iadd, 1) := by decide +kernel
theorem dX12_gainOf_73 : decode cX12_gainOf 73 = .ok (.ireturn, 1) := by decide +kernel
theorem dX12_trade_0 : decode cX12_trade 0 = .ok (.iload_n 1, 1) := by decide +kernel
theorem dX12_trade_1 : decode cX12_trade 1 = .ok (.iconst 0, 1) := by decide +kernel
theorem dX12_trade_2 : decode cX12_trade 2 = .ok (.iconst 2, 1) := by decide +kernel
theorem dX12_trade_3 : decode cX12_trade 3 = .ok (.invokestatic 381, 3) := by decide +kernel
theorem dX12_trade_6 : decode cX12_trade 6 = .ok (.ifCond .ne 5, 3) := by decide +kernel
theorem dX12_trade_9 : decode cX12_trade 9 = .ok (.iconst (-1), 1) := by decide +kernel
theorem dX12_trade_10 : decode cX12_trade 10 = .ok (.ireturn, 1) := by decide +kernel
theorem dX12_trade_11 : decode cX12_trade 11 = .ok (.iconst (-1), 1) := by decide +kernel
theorem dX12_trade_12 : decode cX12_trade 12 = .ok (.istore_n 2, 1) := by decide +kernel
theorem dX12_trade_13 : decode cX12_trade 13 = .ok (.iconst (-1), 1) := by decide +kernel
theorem dX12_trade_14 : decode cX12_trade 14 = .ok (.istore_n 3, 1) := by decide +kernel
theorem dX12_trade_15 : decode cX12_trade 15 = .ok (.iconst 0, 1) := by decide +kernel
theorem dX12_trade_16 : decode cX12_trade 16 = .ok (.istore 4, 2) := by decide +kernel
theorem dX12_trade_18 : decode cX12_trade 18 = .ok (.iload 4, 2) := by decide +kernel
theorem dX12_trade_20 : decode cX12_trade 20 = .ok (.bipush 36, 2) := by decide +kernel
theorem dX12_trade_22 : decode cX12_trade 22 = .ok (.if_icmp .ge 72, 3) := by decide +kernel
theorem dX12_trade_25 : decode cX12_trade 25 = .ok (.iload 4, 2) := by decide +kernel
theorem dX12_trade_27 : decode cX12_trade 27 = .ok (.bipush 6, 2) := by decide +kernel
theorem dX12_trade_29 : decode cX12_trade 29 = .ok (.idiv, 1) := by decide +kernel
theorem dX12_trade_30 : decode cX12_trade 30 = .ok (.aload_n 0, 1) := by decide +kernel
theorem dX12_trade_31 : decode cX12_trade 31 = .ok (.invokevirtual 388, 3) := by decide +kernel
theorem dX12_trade_34 : decode cX12_trade 34 = .ok (.if_icmp .ge 54, 3) := by decide +kernel
theorem dX12_trade_37 : decode cX12_trade 37 = .ok (.iload 4, 2) := by decide +kernel
theorem dX12_trade_39 : decode cX12_trade 39 = .ok (.bipush 6, 2) := by decide +kernel
theorem dX12_trade_41 : decode cX12_trade 41 = .ok (.irem, 1) := by decide +kernel
theorem dX12_trade_42 : decode cX12_trade 42 = .ok (.aload_n 0, 1) := by decide +kernel
theorem dX12_trade_43 : decode cX12_trade 43 = .ok (.invokevirtual 388, 3) := by decide +kernel
theorem dX12_trade_46 : decode cX12_trade 46 = .ok (.if_icmp .ge 42, 3) := by decide +kernel
theorem dX12_trade_49 : decode cX12_trade 49 = .ok (.aload_n 0, 1) := by decide +kernel
theorem dX12_trade_50 : decode cX12_trade 50 = .ok (.iload 4, 2) := by decide +kernel
theorem dX12_trade_52 : decode cX12_trade 52 = .ok (.bipush 6, 2) := by decide +kernel
theorem dX12_trade_54 : decode cX12_trade 54 = .ok (.idiv, 1) := by decide +kernel
theorem dX12_trade_55 : decode cX12_trade 55 = .ok (.iload 4, 2) := by decide +kernel
theorem dX12_trade_57 : decode cX12_trade 57 = .ok (.bipush 6, 2) := by decide +kernel
theorem dX12_trade_59 : decode cX12_trade 59 = .ok (.irem, 1) := by decide +kernel
theorem dX12_trade_60 : decode cX12_trade 60 = .ok (.invokevirtual 490, 3) := by decide +kernel
theorem dX12_trade_63 : decode cX12_trade 63 = .ok (.iload_n 3, 1) := by decide +kernel
theorem dX12_trade_64 : decode cX12_trade 64 = .ok (.if_icmp .gt 6, 3) := by decide +kernel
theorem dX12_trade_67 : decode cX12_trade 67 = .ok (.goto 21, 3) := by decide +kernel
theorem dX12_trade_70 : decode cX12_trade 70 = .ok (.iload 4, 2) := by decide +kernel
theorem dX12_trade_72 : decode cX12_trade 72 = .ok (.istore_n 2, 1) := by decide +kernel
theorem dX12_trade_73 : decode cX12_trade 73 = .ok (.aload_n 0, 1) := by decide +kernel
theorem dX12_trade_74 : decode cX12_trade 74 = .ok (.iload 4, 2) := by decide +kernel
theorem dX12_trade_76 : decode cX12_trade 76 = .ok (.bipush 6, 2) := by decide +kernel
theorem dX12_trade_78 : decode cX12_trade 78 = .ok (.idiv, 1) := by decide +kernel
theorem dX12_trade_79 : decode cX12_trade 79 = .ok (.iload 4, 2) := by decide +kernel
theorem dX12_trade_81 : decode cX12_trade 81 = .ok (.bipush 6, 2) := by decide +kernel
theorem dX12_trade_83 : decode cX12_trade 83 = .ok (.irem, 1) := by decide +kernel
theorem dX12_trade_84 : decode cX12_trade 84 = .ok (.invokevirtual 490, 3) := by decide +kernel
theorem dX12_trade_87 : decode cX12_trade 87 = .ok (.istore_n 3, 1) := by decide +kernel
theorem dX12_trade_88 : decode cX12_trade 88 = .ok (.iinc 4 1, 3) := by decide +kernel
theorem dX12_trade_91 : decode cX12_trade 91 = .ok (.goto (-73), 3) := by decide +kernel
theorem dX12_trade_94 : decode cX12_trade 94 = .ok (.iload_n 2, 1) := by decide +kernel
theorem dX12_trade_95 : decode cX12_trade 95 = .ok (.ifCond .ge 7, 3) := by decide +kernel
theorem dX12_trade_98 : decode cX12_trade 98 = .ok (.iconst (-1), 1) := by decide +kernel
theorem dX12_trade_99 : decode cX12_trade 99 = .ok (.goto 27, 3) := by decide +kernel
theorem dX12_trade_102 : decode cX12_trade 102 = .ok (.iload_n 1, 1) := by decide +kernel
theorem dX12_trade_103 : decode cX12_trade 103 = .ok (.ifCond .ne 7, 3) := by decide +kernel
theorem dX12_trade_106 : decode cX12_trade 106 = .ok (.iload_n 3, 1) := by decide +kernel
theorem dX12_trade_107 : decode cX12_trade 107 = .ok (.goto 19, 3) := by decide +kernel
theorem dX12_trade_110 : decode cX12_trade 110 = .ok (.iload_n 1, 1) := by decide +kernel
theorem dX12_trade_111 : decode cX12_trade 111 = .ok (.iconst 1, 1) := by decide +kernel
theorem dX12_trade_112 : decode cX12_trade 112 = .ok (.if_icmp .ne 10, 3) := by decide +kernel
theorem dX12_trade_115 : decode cX12_trade 115 = .ok (.iload_n 2, 1) := by decide +kernel
theorem dX12_trade_116 : decode cX12_trade 116 = .ok (.bipush 6, 2) := by decide +kernel
theorem dX12_trade_118 : decode cX12_trade 118 = .ok (.idiv, 1) := by decide +kernel
theorem dX12_trade_119 : decode cX12_trade 119 = .ok (.goto 7, 3) := by decide +kernel
theorem dX12_trade_122 : decode cX12_trade 122 = .ok (.iload_n 2, 1) := by decide +kernel
theorem dX12_trade_123 : decode cX12_trade 123 = .ok (.bipush 6, 2) := by decide +kernel
theorem dX12_trade_125 : decode cX12_trade 125 = .ok (.irem, 1) := by decide +kernel
theorem dX12_trade_126 : decode cX12_trade 126 = .ok (.ireturn, 1) := by decide +kernel
theorem dX12_trades_0 : decode cX12_trades 0 = .ok (.iconst 0, 1) := by decide +kernel
theorem dX12_trades_1 : decode cX12_trades 1 = .ok (.istore_n 1, 1) := by decide +kernel
theorem dX12_trades_2 : decode cX12_trades 2 = .ok (.iload_n 1, 1) := by decide +kernel
theorem dX12_trades_3 : decode cX12_trades 3 = .ok (.bipush 64, 2) := by decide +kernel
theorem dX12_trades_5 : decode cX12_trades 5 = .ok (.if_icmp .ge 24, 3) := by decide +kernel
theorem dX12_trades_8 : decode cX12_trades 8 = .ok (.aload_n 0, 1) := by decide +kernel
theorem dX12_trades_9 : decode cX12_trades 9 = .ok (.getfield 131, 3) := by decide +kernel
theorem dX12_trades_12 : decode cX12_trades 12 = .ok (.iload_n 1, 1) := by decide +kernel
theorem dX12_trades_13 : decode cX12_trades 13 = .ok (.iload_n 1, 1) := by decide +kernel
theorem dX12_trades_14 : decode cX12_trades 14 = .ok (.ifCond .ne 7, 3) := by decide +kernel
theorem dX12_trades_17 : decode cX12_trades 17 = .ok (.iconst 0, 1) := by decide +kernel
theorem dX12_trades_18 : decode cX12_trades 18 = .ok (.goto 4, 3) := by decide +kernel
theorem dX12_trades_21 : decode cX12_trades 21 = .ok (.iconst (-1), 1) := by decide +kernel
theorem dX12_trades_22 : decode cX12_trades 22 = .ok (.iastore, 1) := by decide +kernel
theorem dX12_trades_23 : decode cX12_trades 23 = .ok (.iinc 1 1, 3) := by decide +kernel
theorem dX12_trades_26 : decode cX12_trades 26 = .ok (.goto (-24), 3) := by decide +kernel
theorem dX12_trades_29 : decode cX12_trades 29 = .ok (.iconst 0, 1) := by decide +kernel
theorem dX12_trades_30 : decode cX12_trades 30 = .ok (.istore_n 1, 1) := by decide +kernel
theorem dX12_trades_31 : decode cX12_trades 31 = .ok (.iload_n 1, 1) := by decide +kernel
theorem dX12_trades_32 : decode cX12_trades 32 = .ok (.aload_n 0, 1) := by decide +kernel
theorem dX12_trades_33 : decode cX12_trades 33 = .ok (.invokevirtual 388, 3) := by decide +kernel
theorem dX12_trades_36 : decode cX12_trades 36 = .ok (.if_icmp .ge 101, 3) := by decide +kernel
theorem dX12_trades_39 : decode cX12_trades 39 = .ok (.bipush 63, 2) := by decide +kernel
theorem dX12_trades_41 : decode cX12_trades 41 = .ok (.istore_n 2, 1) := by decide +kernel
theorem dX12_trades_42 : decode cX12_trades 42 = .ok (.iload_n 2, 1) := by decide +kernel
theorem dX12_trades_43 : decode cX12_trades 43 = .ok (.ifCond .lt 88, 3) := by decide +kernel
theorem dX12_trades_46 : decode cX12_trades 46 = .ok (.iconst 0, 1) := by decide +kernel
theorem dX12_trades_47 : decode cX12_trades 47 = .ok (.istore_n 3, 1) := by decide +kernel
theorem dX12_trades_48 : decode cX12_trades 48 = .ok (.iload_n 3, 1) := by decide +kernel
theorem dX12_trades_49 : decode cX12_trades 49 = .ok (.aload_n 0, 1) := by decide +kernel
theorem dX12_trades_50 : decode cX12_trades 50 = .ok (.invokevirtual 388, 3) := by decide +kernel
theorem dX12_trades_53 : decode cX12_trades 53 = .ok (.if_icmp .ge 72, 3) := by decide +kernel
theorem dX12_trades_56 : decode cX12_trades 56 = .ok (.iload_n 2, 1) := by decide +kernel
theorem dX12_trades_57 : decode cX12_trades 57 = .ok (.iload_n 3, 1) := by decide +kernel
theorem dX12_trades_58 : decode cX12_trades 58 = .ok (.invokestatic 397, 3) := by decide +kernel
theorem dX12_trades_61 : decode cX12_trades 61 = .ok (.ifCond .eq 27, 3) := by decide +kernel
theorem dX12_trades_64 : decode cX12_trades 64 = .ok (.aload_n 0, 1) := by decide +kernel
theorem dX12_trades_65 : decode cX12_trades 65 = .ok (.iload_n 1, 1) := by decide +kernel
theorem dX12_trades_66 : decode cX12_trades 66 = .ok (.iload_n 3, 1) := by decide +kernel
theorem dX12_trades_67 : decode cX12_trades 67 = .ok (.invokevirtual 490, 3) := by decide +kernel
theorem dX12_trades_70 : decode cX12_trades 70 = .ok (.ifCond .lt 18, 3) := by decide +kernel
theorem dX12_trades_73 : decode cX12_trades 73 = .ok (.aload_n 0, 1) := by decide +kernel
theorem dX12_trades_74 : decode cX12_trades 74 = .ok (.getfield 131, 3) := by decide +kernel
theorem dX12_trades_77 : decode cX12_trades 77 = .ok (.iload_n 2, 1) := by decide +kernel
theorem dX12_trades_78 : decode cX12_trades 78 = .ok (.iconst 1, 1) := by decide +kernel
theorem dX12_trades_79 : decode cX12_trades 79 = .ok (.iload_n 3, 1) := by decide +kernel
theorem dX12_trades_80 : decode cX12_trades 80 = .ok (.ishl, 1) := by decide +kernel
theorem dX12_trades_81 : decode cX12_trades 81 = .ok (.iconst (-1), 1) := by decide +kernel
theorem dX12_trades_82 : decode cX12_trades 82 = .ok (.ixor, 1) := by decide +kernel
theorem dX12_trades_83 : decode cX12_trades 83 = .ok (.iand, 1) := by decide +kernel
theorem dX12_trades_84 : decode cX12_trades 84 = .ok (.iaload, 1) := by decide +kernel
theorem dX12_trades_85 : decode cX12_trades 85 = .ok (.goto 4, 3) := by decide +kernel
theorem dX12_trades_88 : decode cX12_trades 88 = .ok (.iconst (-1), 1) := by decide +kernel
theorem dX12_trades_89 : decode cX12_trades 89 = .ok (.istore 4, 2) := by decide +kernel
theorem dX12_trades_91 : decode cX12_trades 91 = .ok (.iload 4, 2) := by decide +kernel
theorem dX12_trades_93 : decode cX12_trades 93 = .ok (.ifCond .lt 26, 3) := by decide +kernel
theorem dX12_trades_96 : decode cX12_trades 96 = .ok (.iload 4, 2) := by decide +kernel
theorem dX12_trades_98 : decode cX12_trades 98 = .ok (.iconst 1, 1) := by decide +kernel
theorem dX12_trades_99 : decode cX12_trades 99 = .ok (.iadd, 1) := by decide +kernel
theorem dX12_trades_100 : decode cX12_trades 100 = .ok (.aload_n 0, 1) := by decide +kernel
theorem dX12_trades_101 : decode cX12_trades 101 = .ok (.getfield 131, 3) := by decide +kernel
theorem dX12_trades_104 : decode cX12_trades 104 = .ok (.iload_n 2, 1) := by decide +kernel
theorem dX12_trades_105 : decode cX12_trades 105 = .ok (.iaload, 1) := by decide +kernel
theorem dX12_trades_106 : decode cX12_trades 106 = .ok (.if_icmp .le 13, 3) := by decide +kernel
theorem dX12_trades_109 : decode cX12_trades 109 = .ok (.aload_n 0, 1) := by decide +kernel
theorem dX12_trades_110 : decode cX12_trades 110 = .ok (.getfield 131, 3) := by decide +kernel
theorem dX12_trades_113 : decode cX12_trades 113 = .ok (.iload_n 2, 1) := by decide +kernel
theorem dX12_trades_114 : decode cX12_trades 114 = .ok (.iload 4, 2) := by decide +kernel
theorem dX12_trades_116 : decode cX12_trades 116 = .ok (.iconst 1, 1) := by decide +kernel
theorem dX12_trades_117 : decode cX12_trades 117 = .ok (.iadd, 1) := by decide +kernel
theorem dX12_trades_118 : decode cX12_trades 118 = .ok (.iastore, 1) := by decide +kernel
theorem dX12_trades_119 : decode cX12_trades 119 = .ok (.iinc 3 1, 3) := by decide +kernel
theorem dX12_trades_122 : decode cX12_trades 122 = .ok (.goto (-74), 3) := by decide +kernel
theorem dX12_trades_125 : decode cX12_trades 125 = .ok (.iinc 2 (-1), 3) := by decide +kernel
theorem dX12_trades_128 : decode cX12_trades 128 = .ok (.goto (-86), 3) := by decide +kernel
theorem dX12_trades_131 : decode cX12_trades 131 = .ok (.iinc 1 1, 3) := by decide +kernel
theorem dX12_trades_134 : decode cX12_trades 134 = .ok (.goto (-103), 3) := by decide +kernel
theorem dX12_trades_137 : decode cX12_trades 137 = .ok (.iconst 0, 1) := by decide +kernel
theorem dX12_trades_138 : decode cX12_trades 138 = .ok (.istore_n 1, 1) := by decide +kernel
theorem dX12_trades_139 : decode cX12_trades 139 = .ok (.iconst 0, 1) := by decide +kernel
theorem dX12_trades_140 : decode cX12_trades 140 = .ok (.istore_n 2, 1) := by decide +kernel
theorem dX12_trades_141 : decode cX12_trades 141 = .ok (.iload_n 2, 1) := by decide +kernel
theorem dX12_trades_142 : decode cX12_trades 142 = .ok (.bipush 64, 2) := by decide +kernel
theorem dX12_trades_144 : decode cX12_trades 144 = .ok (.if_icmp .ge 26, 3) := by decide +kernel
theorem dX12_trades_147 : decode cX12_trades 147 = .ok (.aload_n 0, 1) := by decide +kernel
theorem dX12_trades_148 : decode cX12_trades 148 = .ok (.getfield 131, 3) := by decide +kernel
theorem dX12_trades_151 : decode cX12_trades 151 = .ok (.iload_n 2, 1) := by decide +kernel
theorem dX12_trades_152 : decode cX12_trades 152 = .ok (.iaload, 1) := by decide +kernel
theorem dX12_trades_153 : decode cX12_trades 153 = .ok (.iload_n 1, 1) := by decide +kernel
theorem dX12_trades_154 : decode cX12_trades 154 = .ok (.if_icmp .le 10, 3) := by decide +kernel
theorem dX12_trades_157 : decode cX12_trades 157 = .ok (.aload_n 0, 1) := by decide +kernel
theorem dX12_trades_158 : decode cX12_trades 158 = .ok (.getfield 131, 3) := by decide +kernel
theorem dX12_trades_161 : decode cX12_trades 161 = .ok (.iload_n 2, 1) := by decide +kernel
theorem dX12_trades_162 : decode cX12_trades 162 = .ok (.iaload, 1) := by decide +kernel
theorem dX12_trades_163 : decode cX12_trades 163 = .ok (.istore_n 1, 1) := by decide +kernel
theorem dX12_trades_164 : decode cX12_trades 164 = .ok (.iinc 2 1, 3) := by decide +kernel
theorem dX12_trades_167 : decode cX12_trades 167 = .ok (.goto (-26), 3) := by decide +kernel
theorem dX12_trades_170 : decode cX12_trades 170 = .ok (.iload_n 1, 1) := by decide +kernel
theorem dX12_trades_171 : decode cX12_trades 171 = .ok (.ireturn, 1) := by decide +kernel
theorem dX12_wealth_0 : decode cX12_wealth 0 = .ok (.iload_n 1, 1) := by decide +kernel
theorem dX12_wealth_1 : decode cX12_wealth 1 = .ok (.iconst 0, 1) := by decide +kernel
theorem dX12_wealth_2 : decode cX12_wealth 2 = .ok (.iconst 1, 1) := by decide +kernel
theorem dX12_wealth_3 : decode cX12_wealth 3 = .ok (.invokestatic 381, 3) := by decide +kernel
theorem dX12_wealth_6 : decode cX12_wealth 6 = .ok (.ifCond .ne 5, 3) := by decide +kernel
theorem dX12_wealth_9 : decode cX12_wealth 9 = .ok (.iconst (-1), 1) := by decide +kernel
theorem dX12_wealth_10 : decode cX12_wealth 10 = .ok (.ireturn, 1) := by decide +kernel
theorem dX12_wealth_11 : decode cX12_wealth 11 = .ok (.iconst 0, 1) := by decide +kernel
theorem dX12_wealth_12 : decode cX12_wealth 12 = .ok (.istore_n 2, 1) := by decide +kernel
theorem dX12_wealth_13 : decode cX12_wealth 13 = .ok (.iconst 0, 1) := by decide +kernel
theorem dX12_wealth_14 : decode cX12_wealth 14 = .ok (.istore_n 3, 1) := by decide +kernel
theorem dX12_wealth_15 : decode cX12_wealth 15 = .ok (.iload_n 3, 1) := by decide +kernel
theorem dX12_wealth_16 : decode cX12_wealth 16 = .ok (.aload_n 0, 1) := by decide +kernel
theorem dX12_wealth_17 : decode cX12_wealth 17 = .ok (.invokevirtual 388, 3) := by decide +kernel
theorem dX12_wealth_20 : decode cX12_wealth 20 = .ok (.if_icmp .ge 37, 3) := by decide +kernel
theorem dX12_wealth_23 : decode cX12_wealth 23 = .ok (.iload_n 2, 1) := by decide +kernel
theorem dX12_wealth_24 : decode cX12_wealth 24 = .ok (.aload_n 0, 1) := by decide +kernel
theorem dX12_wealth_25 : decode cX12_wealth 25 = .ok (.getfield 95, 3) := by decide +kernel
theorem dX12_wealth_28 : decode cX12_wealth 28 = .ok (.bipush 12, 2) := by decide +kernel
theorem dX12_wealth_30 : decode cX12_wealth 30 = .ok (.iload_n 3, 1) := by decide +kernel
theorem dX12_wealth_31 : decode cX12_wealth 31 = .ok (.iadd, 1) := by decide +kernel
theorem dX12_wealth_32 : decode cX12_wealth 32 = .ok (.iaload, 1) := by decide +kernel
theorem dX12_wealth_33 : decode cX12_wealth 33 = .ok (.iconst 1, 1) := by decide +kernel
theorem dX12_wealth_34 : decode cX12_wealth 34 = .ok (.iload_n 1, 1) := by decide +kernel
theorem dX12_wealth_35 : decode cX12_wealth 35 = .ok (.isub, 1) := by decide +kernel
theorem dX12_wealth_36 : decode cX12_wealth 36 = .ok (.if_icmp .ne 12, 3) := by decide +kernel
theorem dX12_wealth_39 : decode cX12_wealth 39 = .ok (.aload_n 0, 1) := by decide +kernel
theorem dX12_wealth_40 : decode cX12_wealth 40 = .ok (.iload_n 3, 1) := by decide +kernel
theorem dX12_wealth_41 : decode cX12_wealth 41 = .ok (.iload_n 1, 1) := by decide +kernel
theorem dX12_wealth_42 : decode cX12_wealth 42 = .ok (.invokevirtual 487, 3) := by decide +kernel
theorem dX12_wealth_45 : decode cX12_wealth 45 = .ok (.goto 4, 3) := by decide +kernel
theorem dX12_wealth_48 : decode cX12_wealth 48 = .ok (.iconst 0, 1) := by decide +kernel
theorem dX12_wealth_49 : decode cX12_wealth 49 = .ok (.iadd, 1) := by decide +kernel
theorem dX12_wealth_50 : decode cX12_wealth 50 = .ok (.istore_n 2, 1) := by decide +kernel
theorem dX12_wealth_51 : decode cX12_wealth 51 = .ok (.iinc 3 1, 3) := by decide +kernel
theorem dX12_wealth_54 : decode cX12_wealth 54 = .ok (.goto (-39), 3) := by decide +kernel
theorem dX12_wealth_57 : decode cX12_wealth 57 = .ok (.iload_n 2, 1) := by decide +kernel
theorem dX12_wealth_58 : decode cX12_wealth 58 = .ok (.ireturn, 1) := by decide +kernel
theorem dX12_off_0 : decode cX12_off 0 = .ok (.iconst 0, 1) := by decide +kernel
theorem dX12_off_1 : decode cX12_off 1 = .ok (.istore_n 1, 1) := by decide +kernel
theorem dX12_off_2 : decode cX12_off 2 = .ok (.iconst 0, 1) := by decide +kernel
theorem dX12_off_3 : decode cX12_off 3 = .ok (.istore_n 2, 1) := by decide +kernel
theorem dX12_off_4 : decode cX12_off 4 = .ok (.iload_n 2, 1) := by decide +kernel
theorem dX12_off_5 : decode cX12_off 5 = .ok (.aload_n 0, 1) := by decide +kernel
theorem dX12_off_6 : decode cX12_off 6 = .ok (.invokevirtual 388, 3) := by decide +kernel
theorem dX12_off_9 : decode cX12_off 9 = .ok (.if_icmp .ge 17, 3) := by decide +kernel
theorem dX12_off_12 : decode cX12_off 12 = .ok (.iload_n 1, 1) := by decide +kernel
theorem dX12_off_13 : decode cX12_off 13 = .ok (.aload_n 0, 1) := by decide +kernel
theorem dX12_off_14 : decode cX12_off 14 = .ok (.iload_n 2, 1) := by decide +kernel
theorem dX12_off_15 : decode cX12_off 15 = .ok (.invokevirtual 368, 3) := by decide +kernel
theorem dX12_off_18 : decode cX12_off 18 = .ok (.iadd, 1) := by decide +kernel
theorem dX12_off_19 : decode cX12_off 19 = .ok (.istore_n 1, 1) := by decide +kernel
theorem dX12_off_20 : decode cX12_off 20 = .ok (.iinc 2 1, 3) := by decide +kernel
theorem dX12_off_23 : decode cX12_off 23 = .ok (.goto (-19), 3) := by decide +kernel
theorem dX12_off_26 : decode cX12_off 26 = .ok (.iload_n 1, 1) := by decide +kernel
theorem dX12_off_27 : decode cX12_off 27 = .ok (.ireturn, 1) := by decide +kernel
theorem dX12_right_0 : decode cX12_right 0 = .ok (.aload_n 0, 1) := by decide +kernel
theorem dX12_right_1 : decode cX12_right 1 = .ok (.invokevirtual 493, 3) := by decide +kernel
theorem dX12_right_4 : decode cX12_right 4 = .ok (.ireturn, 1) := by decide +kernel
theorem dX12_deep_0 : decode cX12_deep 0 = .ok (.iload_n 1, 1) := by decide +kernel
theorem dX12_deep_1 : decode cX12_deep 1 = .ok (.iconst 0, 1) := by decide +kernel
theorem dX12_deep_2 : decode cX12_deep 2 = .ok (.bipush 99, 2) := by decide +kernel
theorem dX12_deep_4 : decode cX12_deep 4 = .ok (.invokestatic 381, 3) := by decide +kernel
theorem dX12_deep_7 : decode cX12_deep 7 = .ok (.ifCond .ne 5, 3) := by decide +kernel
theorem dX12_deep_10 : decode cX12_deep 10 = .ok (.iconst (-1), 1) := by decide +kernel
theorem dX12_deep_11 : decode cX12_deep 11 = .ok (.ireturn, 1) := by decide +kernel
theorem dX12_deep_12 : decode cX12_deep 12 = .ok (.iconst 0, 1) := by decide +kernel
theorem dX12_deep_13 : decode cX12_deep 13 = .ok (.istore_n 2, 1) := by decide +kernel
theorem dX12_deep_14 : decode cX12_deep 14 = .ok (.iconst 0, 1) := by decide +kernel
theorem dX12_deep_15 : decode cX12_deep 15 = .ok (.istore_n 3, 1) := by decide +kernel
theorem dX12_deep_16 : decode cX12_deep 16 = .ok (.iload_n 3, 1) := by decide +kernel
theorem dX12_deep_17 : decode cX12_deep 17 = .ok (.aload_n 0, 1) := by decide +kernel
theorem dX12_deep_18 : decode cX12_deep 18 = .ok (.invokevirtual 388, 3) := by decide +kernel
theorem dX12_deep_21 : decode cX12_deep 21 = .ok (.if_icmp .ge 28, 3) := by decide +kernel
theorem dX12_deep_24 : decode cX12_deep 24 = .ok (.aload_n 0, 1) := by decide +kernel
theorem dX12_deep_25 : decode cX12_deep 25 = .ok (.getfield 95, 3) := by decide +kernel
theorem dX12_deep_28 : decode cX12_deep 28 = .ok (.bipush 18, 2) := by decide +kernel
theorem dX12_deep_30 : decode cX12_deep 30 = .ok (.iload_n 3, 1) := by decide +kernel
theorem dX12_deep_31 : decode cX12_deep 31 = .ok (.iadd, 1) := by decide +kernel
theorem dX12_deep_32 : decode cX12_deep 32 = .ok (.iaload, 1) := by decide +kernel
theorem dX12_deep_33 : decode cX12_deep 33 = .ok (.iload_n 1, 1) := by decide +kernel
theorem dX12_deep_34 : decode cX12_deep 34 = .ok (.if_icmp .lt 9, 3) := by decide +kernel
theorem dX12_deep_37 : decode cX12_deep 37 = .ok (.iload_n 2, 1) := by decide +kernel
theorem dX12_deep_38 : decode cX12_deep 38 = .ok (.iconst 1, 1) := by decide +kernel
theorem dX12_deep_39 : decode cX12_deep 39 = .ok (.iload_n 3, 1) := by decide +kernel
theorem dX12_deep_40 : decode cX12_deep 40 = .ok (.ishl, 1) := by decide +kernel
theorem dX12_deep_41 : decode cX12_deep 41 = .ok (.ior, 1) := by decide +kernel
theorem dX12_deep_42 : decode cX12_deep 42 = .ok (.istore_n 2, 1) := by decide +kernel
theorem dX12_deep_43 : decode cX12_deep 43 = .ok (.iinc 3 1, 3) := by decide +kernel
theorem dX12_deep_46 : decode cX12_deep 46 = .ok (.goto (-30), 3) := by decide +kernel
theorem dX12_deep_49 : decode cX12_deep 49 = .ok (.iload_n 2, 1) := by decide +kernel
theorem dX12_deep_50 : decode cX12_deep 50 = .ok (.ireturn, 1) := by decide +kernel
theorem dX12_openAt_0 : decode cX12_openAt 0 = .ok (.iconst 1, 1) := by decide +kernel
theorem dX12_openAt_1 : decode cX12_openAt 1 = .ok (.aload_n 0, 1) := by decide +kernel
theorem dX12_openAt_2 : decode cX12_openAt 2 = .ok (.invokevirtual 378, 3) := by decide +kernel
theorem dX12_openAt_5 : decode cX12_openAt 5 = .ok (.ishl, 1) := by decide +kernel
theorem dX12_openAt_6 : decode cX12_openAt 6 = .ok (.iconst 1, 1) := by decide +kernel
theorem dX12_openAt_7 : decode cX12_openAt 7 = .ok (.isub, 1) := by decide +kernel
theorem dX12_openAt_8 : decode cX12_openAt 8 = .ok (.istore_n 3, 1) := by decide +kernel
theorem dX12_openAt_9 : decode cX12_openAt 9 = .ok (.iconst 0, 1) := by decide +kernel
theorem dX12_openAt_10 : decode cX12_openAt 10 = .ok (.istore 4, 2) := by decide +kernel
theorem dX12_openAt_12 : decode cX12_openAt 12 = .ok (.iload 4, 2) := by decide +kernel
theorem dX12_openAt_14 : decode cX12_openAt 14 = .ok (.aload_n 0, 1) := by decide +kernel
theorem dX12_openAt_15 : decode cX12_openAt 15 = .ok (.getfield 415, 3) := by decide +kernel
theorem dX12_openAt_18 : decode cX12_openAt 18 = .ok (.if_icmp .ge 156, 3) := by decide +kernel
theorem dX12_openAt_21 : decode cX12_openAt 21 = .ok (.aload_n 0, 1) := by decide +kernel
theorem dX12_openAt_22 : decode cX12_openAt 22 = .ok (.getfield 137, 3) := by decide +kernel
theorem dX12_openAt_25 : decode cX12_openAt 25 = .ok (.iload 4, 2) := by decide +kernel
theorem dX12_openAt_27 : decode cX12_openAt 27 = .ok (.iaload, 1) := by decide +kernel
theorem dX12_openAt_28 : decode cX12_openAt 28 = .ok (.iload_n 1, 1) := by decide +kernel
theorem dX12_openAt_29 : decode cX12_openAt 29 = .ok (.if_icmp .ne 139, 3) := by decide +kernel
theorem dX12_openAt_32 : decode cX12_openAt 32 = .ok (.aload_n 0, 1) := by decide +kernel
theorem dX12_openAt_33 : decode cX12_openAt 33 = .ok (.getfield 149, 3) := by decide +kernel
theorem dX12_openAt_36 : decode cX12_openAt 36 = .ok (.iload 4, 2) := by decide +kernel
theorem dX12_openAt_38 : decode cX12_openAt 38 = .ok (.iaload, 1) := by decide +kernel
theorem dX12_openAt_39 : decode cX12_openAt 39 = .ok (.iload_n 2, 1) := by decide +kernel
theorem dX12_openAt_40 : decode cX12_openAt 40 = .ok (.if_icmp .gt 128, 3) := by decide +kernel
theorem dX12_openAt_43 : decode cX12_openAt 43 = .ok (.aload_n 0, 1) := by decide +kernel
theorem dX12_openAt_44 : decode cX12_openAt 44 = .ok (.getfield 152, 3) := by decide +kernel
theorem dX12_openAt_47 : decode cX12_openAt 47 = .ok (.iload 4, 2) := by decide +kernel
theorem dX12_openAt_49 : decode cX12_openAt 49 = .ok (.iaload, 1) := by decide +kernel
theorem dX12_openAt_50 : decode cX12_openAt 50 = .ok (.ifCond .lt 17, 3) := by decide +kernel
theorem dX12_openAt_53 : decode cX12_openAt 53 = .ok (.aload_n 0, 1) := by decide +kernel
theorem dX12_openAt_54 : decode cX12_openAt 54 = .ok (.getfield 152, 3) := by decide +kernel
theorem dX12_openAt_57 : decode cX12_openAt 57 = .ok (.iload 4, 2) := by decide +kernel
theorem dX12_openAt_59 : decode cX12_openAt 59 = .ok (.iaload, 1) := by decide +kernel
theorem dX12_openAt_60 : decode cX12_openAt 60 = .ok (.iload_n 2, 1) := by decide +kernel
theorem dX12_openAt_61 : decode cX12_openAt 61 = .ok (.if_icmp .gt 6, 3) := by decide +kernel
theorem dX12_openAt_64 : decode cX12_openAt 64 = .ok (.goto 104, 3) := by decide +kernel
theorem dX12_openAt_67 : decode cX12_openAt 67 = .ok (.iconst 0, 1) := by decide +kernel
theorem dX12_openAt_68 : decode cX12_openAt 68 = .ok (.istore 5, 2) := by decide +kernel
theorem dX12_openAt_70 : decode cX12_openAt 70 = .ok (.iload 5, 2) := by decide +kernel
theorem dX12_openAt_72 : decode cX12_openAt 72 = .ok (.aload_n 0, 1) := by decide +kernel
theorem dX12_openAt_73 : decode cX12_openAt 73 = .ok (.invokevirtual 378, 3) := by decide +kernel
theorem dX12_openAt_76 : decode cX12_openAt 76 = .ok (.if_icmp .ge 92, 3) := by decide +kernel
theorem dX12_openAt_79 : decode cX12_openAt 79 = .ok (.aload_n 0, 1) := by decide +kernel
theorem dX12_openAt_80 : decode cX12_openAt 80 = .ok (.getfield 143, 3) := by decide +kernel
theorem dX12_openAt_83 : decode cX12_openAt 83 = .ok (.iload 4, 2) := by decide +kernel
theorem dX12_openAt_85 : decode cX12_openAt 85 = .ok (.iaload, 1) := by decide +kernel
theorem dX12_openAt_86 : decode cX12_openAt 86 = .ok (.ifCond .lt 23, 3) := by decide +kernel
theorem dX12_openAt_89 : decode cX12_openAt 89 = .ok (.iload 5, 2) := by decide +kernel
theorem dX12_openAt_91 : decode cX12_openAt 91 = .ok (.aload_n 0, 1) := by decide +kernel
theorem dX12_openAt_92 : decode cX12_openAt 92 = .ok (.getfield 143, 3) := by decide +kernel
theorem dX12_openAt_95 : decode cX12_openAt 95 = .ok (.iload 4, 2) := by decide +kernel
theorem dX12_openAt_97 : decode cX12_openAt 97 = .ok (.iaload, 1) := by decide +kernel
theorem dX12_openAt_98 : decode cX12_openAt 98 = .ok (.if_icmp .ne 7, 3) := by decide +kernel
theorem dX12_openAt_101 : decode cX12_openAt 101 = .ok (.iconst 1, 1) := by decide +kernel
theorem dX12_openAt_102 : decode cX12_openAt 102 = .ok (.goto 28, 3) := by decide +kernel
theorem dX12_openAt_105 : decode cX12_openAt 105 = .ok (.iconst 0, 1) := by decide +kernel
theorem dX12_openAt_106 : decode cX12_openAt 106 = .ok (.goto 24, 3) := by decide +kernel
theorem dX12_openAt_109 : decode cX12_openAt 109 = .ok (.aload_n 0, 1) := by decide +kernel
theorem dX12_openAt_110 : decode cX12_openAt 110 = .ok (.iload 5, 2) := by decide +kernel
theorem dX12_openAt_112 : decode cX12_openAt 112 = .ok (.invokevirtual 430, 3) := by decide +kernel
theorem dX12_openAt_115 : decode cX12_openAt 115 = .ok (.aload_n 0, 1) := by decide +kernel
theorem dX12_openAt_116 : decode cX12_openAt 116 = .ok (.getfield 140, 3) := by decide +kernel
theorem dX12_openAt_119 : decode cX12_openAt 119 = .ok (.iload 4, 2) := by decide +kernel
theorem dX12_openAt_121 : decode cX12_openAt 121 = .ok (.iaload, 1) := by decide +kernel
theorem dX12_openAt_122 : decode cX12_openAt 122 = .ok (.if_icmp .lt 7, 3) := by decide +kernel
theorem dX12_openAt_125 : decode cX12_openAt 125 = .ok (.iconst 1, 1) := by decide +kernel
theorem dX12_openAt_126 : decode cX12_openAt 126 = .ok (.goto 4, 3) := by decide +kernel
theorem dX12_openAt_129 : decode cX12_openAt 129 = .ok (.iconst 0, 1) := by decide +kernel
theorem dX12_openAt_130 : decode cX12_openAt 130 = .ok (.istore 6, 2) := by decide +kernel
theorem dX12_openAt_132 : decode cX12_openAt 132 = .ok (.iload 6, 2) := by decide +kernel
theorem dX12_openAt_134 : decode cX12_openAt 134 = .ok (.aload_n 0, 1) := by decide +kernel
theorem dX12_openAt_135 : decode cX12_openAt 135 = .ok (.getfield 146, 3) := by decide +kernel
theorem dX12_openAt_138 : decode cX12_openAt 138 = .ok (.iload 4, 2) := by decide +kernel
theorem dX12_openAt_140 : decode cX12_openAt 140 = .ok (.iaload, 1) := by decide +kernel
theorem dX12_openAt_141 : decode cX12_openAt 141 = .ok (.iconst 1, 1) := by decide +kernel
theorem dX12_openAt_142 : decode cX12_openAt 142 = .ok (.if_icmp .ne 7, 3) := by decide +kernel
theorem dX12_openAt_145 : decode cX12_openAt 145 = .ok (.iconst 1, 1) := by decide +kernel
theorem dX12_openAt_146 : decode cX12_openAt 146 = .ok (.goto 4, 3) := by decide +kernel
theorem dX12_openAt_149 : decode cX12_openAt 149 = .ok (.iconst 0, 1) := by decide +kernel
theorem dX12_openAt_150 : decode cX12_openAt 150 = .ok (.if_icmp .eq 12, 3) := by decide +kernel
theorem dX12_openAt_153 : decode cX12_openAt 153 = .ok (.iload_n 3, 1) := by decide +kernel
theorem dX12_openAt_154 : decode cX12_openAt 154 = .ok (.iconst 1, 1) := by decide +kernel
theorem dX12_openAt_155 : decode cX12_openAt 155 = .ok (.iload 5, 2) := by decide +kernel
theorem dX12_openAt_157 : decode cX12_openAt 157 = .ok (.ishl, 1) := by decide +kernel
theorem dX12_openAt_158 : decode cX12_openAt 158 = .ok (.iconst (-1), 1) := by decide +kernel
theorem dX12_openAt_159 : decode cX12_openAt 159 = .ok (.ixor, 1) := by decide +kernel
theorem dX12_openAt_160 : decode cX12_openAt 160 = .ok (.iand, 1) := by decide +kernel
theorem dX12_openAt_161 : decode cX12_openAt 161 = .ok (.istore_n 3, 1) := by decide +kernel
theorem dX12_openAt_162 : decode cX12_openAt 162 = .ok (.iinc 5 1, 3) := by decide +kernel
theorem dX12_openAt_165 : decode cX12_openAt 165 = .ok (.goto (-95), 3) := by decide +kernel
theorem dX12_openAt_168 : decode cX12_openAt 168 = .ok (.iinc 4 1, 3) := by decide +kernel
theorem dX12_openAt_171 : decode cX12_openAt 171 = .ok (.goto (-159), 3) := by decide +kernel
theorem dX12_openAt_174 : decode cX12_openAt 174 = .ok (.iload_n 3, 1) := by decide +kernel
theorem dX12_openAt_175 : decode cX12_openAt 175 = .ok (.ireturn, 1) := by decide +kernel
theorem dX12_stepOn_0 : decode cX12_stepOn 0 = .ok (.iconst 0, 1) := by decide +kernel
theorem dX12_stepOn_1 : decode cX12_stepOn 1 = .ok (.istore_n 2, 1) := by decide +kernel
theorem dX12_stepOn_2 : decode cX12_stepOn 2 = .ok (.iload_n 2, 1) := by decide +kernel
theorem dX12_stepOn_3 : decode cX12_stepOn 3 = .ok (.aload_n 0, 1) := by decide +kernel
theorem dX12_stepOn_4 : decode cX12_stepOn 4 = .ok (.invokevirtual 378, 3) := by decide +kernel
theorem dX12_stepOn_7 : decode cX12_stepOn 7 = .ok (.if_icmp .ge 78, 3) := by decide +kernel
theorem dX12_stepOn_10 : decode cX12_stepOn 10 = .ok (.aload_n 0, 1) := by decide +kernel
theorem dX12_stepOn_11 : decode cX12_stepOn 11 = .ok (.iload_n 2, 1) := by decide +kernel
theorem dX12_stepOn_12 : decode cX12_stepOn 12 = .ok (.iconst (-1), 1) := by decide +kernel
theorem dX12_stepOn_13 : decode cX12_stepOn 13 = .ok (.invokevirtual 400, 3) := by decide +kernel
theorem dX12_stepOn_16 : decode cX12_stepOn 16 = .ok (.iconst 1, 1) := by decide +kernel
theorem dX12_stepOn_17 : decode cX12_stepOn 17 = .ok (.iload_n 2, 1) := by decide +kernel
theorem dX12_stepOn_18 : decode cX12_stepOn 18 = .ok (.ishl, 1) := by decide +kernel
theorem dX12_stepOn_19 : decode cX12_stepOn 19 = .ok (.ior, 1) := by decide +kernel
theorem dX12_stepOn_20 : decode cX12_stepOn 20 = .ok (.istore_n 3, 1) := by decide +kernel
theorem dX12_stepOn_21 : decode cX12_stepOn 21 = .ok (.aload_n 0, 1) := by decide +kernel
theorem dX12_stepOn_22 : decode cX12_stepOn 22 = .ok (.getfield 119, 3) := by decide +kernel
theorem dX12_stepOn_25 : decode cX12_stepOn 25 = .ok (.iload_n 2, 1) := by decide +kernel
theorem dX12_stepOn_26 : decode cX12_stepOn 26 = .ok (.iconst 0, 1) := by decide +kernel
theorem dX12_stepOn_27 : decode cX12_stepOn 27 = .ok (.iastore, 1) := by decide +kernel
theorem dX12_stepOn_28 : decode cX12_stepOn 28 = .ok (.iconst 0, 1) := by decide +kernel
theorem dX12_stepOn_29 : decode cX12_stepOn 29 = .ok (.istore 4, 2) := by decide +kernel
theorem dX12_stepOn_31 : decode cX12_stepOn 31 = .ok (.iload 4, 2) := by decide +kernel
theorem dX12_stepOn_33 : decode cX12_stepOn 33 = .ok (.aload_n 0, 1) := by decide +kernel
theorem dX12_stepOn_34 : decode cX12_stepOn 34 = .ok (.invokevirtual 378, 3) := by decide +kernel
theorem dX12_stepOn_37 : decode cX12_stepOn 37 = .ok (.if_icmp .ge 42, 3) := by decide +kernel
theorem dX12_stepOn_40 : decode cX12_stepOn 40 = .ok (.iload_n 3, 1) := by decide +kernel
theorem dX12_stepOn_41 : decode cX12_stepOn 41 = .ok (.iload 4, 2) := by decide +kernel
theorem dX12_stepOn_43 : decode cX12_stepOn 43 = .ok (.invokestatic 397, 3) := by decide +kernel
theorem dX12_stepOn_46 : decode cX12_stepOn 46 = .ok (.ifCond .eq 27, 3) := by decide +kernel
theorem dX12_stepOn_49 : decode cX12_stepOn 49 = .ok (.iload_n 1, 1) := by decide +kernel
theorem dX12_stepOn_50 : decode cX12_stepOn 50 = .ok (.iload_n 2, 1) := by decide +kernel
theorem dX12_stepOn_51 : decode cX12_stepOn 51 = .ok (.invokestatic 397, 3) := by decide +kernel
theorem dX12_stepOn_54 : decode cX12_stepOn 54 = .ok (.ifCond .eq 19, 3) := by decide +kernel
theorem dX12_stepOn_57 : decode cX12_stepOn 57 = .ok (.aload_n 0, 1) := by decide +kernel
theorem dX12_stepOn_58 : decode cX12_stepOn 58 = .ok (.getfield 119, 3) := by decide +kernel
theorem dX12_stepOn_61 : decode cX12_stepOn 61 = .ok (.iload_n 2, 1) := by decide +kernel
theorem dX12_stepOn_62 : decode cX12_stepOn 62 = .ok (.dup2, 1) := by decide +kernel
theorem dX12_stepOn_63 : decode cX12_stepOn 63 = .ok (.iaload, 1) := by decide +kernel
theorem dX12_stepOn_64 : decode cX12_stepOn 64 = .ok (.aload_n 0, 1) := by decide +kernel
theorem dX12_stepOn_65 : decode cX12_stepOn 65 = .ok (.getfield 116, 3) := by decide +kernel
theorem dX12_stepOn_68 : decode cX12_stepOn 68 = .ok (.iload 4, 2) := by decide +kernel
theorem dX12_stepOn_70 : decode cX12_stepOn 70 = .ok (.iaload, 1) := by decide +kernel
theorem dX12_stepOn_71 : decode cX12_stepOn 71 = .ok (.iadd, 1) := by decide +kernel
theorem dX12_stepOn_72 : decode cX12_stepOn 72 = .ok (.iastore, 1) := by decide +kernel
theorem dX12_stepOn_73 : decode cX12_stepOn 73 = .ok (.iinc 4 1, 3) := by decide +kernel
theorem dX12_stepOn_76 : decode cX12_stepOn 76 = .ok (.goto (-45), 3) := by decide +kernel
theorem dX12_stepOn_79 : decode cX12_stepOn 79 = .ok (.iinc 2 1, 3) := by decide +kernel
theorem dX12_stepOn_82 : decode cX12_stepOn 82 = .ok (.goto (-80), 3) := by decide +kernel
theorem dX12_stepOn_85 : decode cX12_stepOn 85 = .ok (.iconst 0, 1) := by decide +kernel
theorem dX12_stepOn_86 : decode cX12_stepOn 86 = .ok (.istore_n 2, 1) := by decide +kernel
theorem dX12_stepOn_87 : decode cX12_stepOn 87 = .ok (.iload_n 2, 1) := by decide +kernel
theorem dX12_stepOn_88 : decode cX12_stepOn 88 = .ok (.aload_n 0, 1) := by decide +kernel
theorem dX12_stepOn_89 : decode cX12_stepOn 89 = .ok (.invokevirtual 378, 3) := by decide +kernel
theorem dX12_stepOn_92 : decode cX12_stepOn 92 = .ok (.if_icmp .ge 21, 3) := by decide +kernel
theorem dX12_stepOn_95 : decode cX12_stepOn 95 = .ok (.aload_n 0, 1) := by decide +kernel
theorem dX12_stepOn_96 : decode cX12_stepOn 96 = .ok (.getfield 116, 3) := by decide +kernel
theorem dX12_stepOn_99 : decode cX12_stepOn 99 = .ok (.iload_n 2, 1) := by decide +kernel
theorem dX12_stepOn_100 : decode cX12_stepOn 100 = .ok (.aload_n 0, 1) := by decide +kernel
theorem dX12_stepOn_101 : decode cX12_stepOn 101 = .ok (.getfield 119, 3) := by decide +kernel
theorem dX12_stepOn_104 : decode cX12_stepOn 104 = .ok (.iload_n 2, 1) := by decide +kernel
theorem dX12_stepOn_105 : decode cX12_stepOn 105 = .ok (.iaload, 1) := by decide +kernel
theorem dX12_stepOn_106 : decode cX12_stepOn 106 = .ok (.iastore, 1) := by decide +kernel
theorem dX12_stepOn_107 : decode cX12_stepOn 107 = .ok (.iinc 2 1, 3) := by decide +kernel
theorem dX12_stepOn_110 : decode cX12_stepOn 110 = .ok (.goto (-23), 3) := by decide +kernel
theorem dX12_stepOn_113 : decode cX12_stepOn 113 = .ok (.return_, 1) := by decide +kernel
theorem dX12_layWalks_0 : decode cX12_layWalks 0 = .ok (.iconst 0, 1) := by decide +kernel
theorem dX12_layWalks_1 : decode cX12_layWalks 1 = .ok (.istore_n 2, 1) := by decide +kernel
theorem dX12_layWalks_2 : decode cX12_layWalks 2 = .ok (.iload_n 2, 1) := by decide +kernel
theorem dX12_layWalks_3 : decode cX12_layWalks 3 = .ok (.aload_n 0, 1) := by decide +kernel
theorem dX12_layWalks_4 : decode cX12_layWalks 4 = .ok (.invokevirtual 378, 3) := by decide +kernel
theorem dX12_layWalks_7 : decode cX12_layWalks 7 = .ok (.if_icmp .ge 25, 3) := by decide +kernel
theorem dX12_layWalks_10 : decode cX12_layWalks 10 = .ok (.aload_n 0, 1) := by decide +kernel
theorem dX12_layWalks_11 : decode cX12_layWalks 11 = .ok (.getfield 116, 3) := by decide +kernel
theorem dX12_layWalks_14 : decode cX12_layWalks 14 = .ok (.iload_n 2, 1) := by decide +kernel
theorem dX12_layWalks_15 : decode cX12_layWalks 15 = .ok (.aload_n 0, 1) := by decide +kernel
theorem dX12_layWalks_16 : decode cX12_layWalks 16 = .ok (.iconst 0, 1) := by decide +kernel
theorem dX12_layWalks_17 : decode cX12_layWalks 17 = .ok (.iload_n 1, 1) := by decide +kernel
theorem dX12_layWalks_18 : decode cX12_layWalks 18 = .ok (.invokevirtual 513, 3) := by decide +kernel
theorem dX12_layWalks_21 : decode cX12_layWalks 21 = .ok (.iload_n 2, 1) := by decide +kernel
theorem dX12_layWalks_22 : decode cX12_layWalks 22 = .ok (.ishr, 1) := by decide +kernel
theorem dX12_layWalks_23 : decode cX12_layWalks 23 = .ok (.iconst 1, 1) := by decide +kernel
theorem dX12_layWalks_24 : decode cX12_layWalks 24 = .ok (.iand, 1) := by decide +kernel
theorem dX12_layWalks_25 : decode cX12_layWalks 25 = .ok (.iastore, 1) := by decide +kernel
theorem dX12_layWalks_26 : decode cX12_layWalks 26 = .ok (.iinc 2 1, 3) := by decide +kernel
theorem dX12_layWalks_29 : decode cX12_layWalks 29 = .ok (.goto (-27), 3) := by decide +kernel
theorem dX12_layWalks_32 : decode cX12_layWalks 32 = .ok (.iconst 0, 1) := by decide +kernel
theorem dX12_layWalks_33 : decode cX12_layWalks 33 = .ok (.istore_n 2, 1) := by decide +kernel
theorem dX12_layWalks_34 : decode cX12_layWalks 34 = .ok (.iload_n 2, 1) := by decide +kernel
theorem dX12_layWalks_35 : decode cX12_layWalks 35 = .ok (.bipush 8, 2) := by decide +kernel
theorem dX12_layWalks_37 : decode cX12_layWalks 37 = .ok (.if_icmp .ge 56, 3) := by decide +kernel
theorem dX12_layWalks_40 : decode cX12_layWalks 40 = .ok (.iload_n 2, 1) := by decide +kernel
theorem dX12_layWalks_41 : decode cX12_layWalks 41 = .ok (.ifCond .le 13, 3) := by decide +kernel
theorem dX12_layWalks_44 : decode cX12_layWalks 44 = .ok (.aload_n 0, 1) := by decide +kernel
theorem dX12_layWalks_45 : decode cX12_layWalks 45 = .ok (.aload_n 0, 1) := by decide +kernel
theorem dX12_layWalks_46 : decode cX12_layWalks 46 = .ok (.iload_n 2, 1) := by decide +kernel
theorem dX12_layWalks_47 : decode cX12_layWalks 47 = .ok (.iload_n 1, 1) := by decide +kernel
theorem dX12_layWalks_48 : decode cX12_layWalks 48 = .ok (.invokevirtual 513, 3) := by decide +kernel
theorem dX12_layWalks_51 : decode cX12_layWalks 51 = .ok (.invokevirtual 516, 3) := by decide +kernel
theorem dX12_layWalks_54 : decode cX12_layWalks 54 = .ok (.iconst 0, 1) := by decide +kernel
theorem dX12_layWalks_55 : decode cX12_layWalks 55 = .ok (.istore_n 3, 1) := by decide +kernel
theorem dX12_layWalks_56 : decode cX12_layWalks 56 = .ok (.iload_n 3, 1) := by decide +kernel
theorem dX12_layWalks_57 : decode cX12_layWalks 57 = .ok (.aload_n 0, 1) := by decide +kernel
theorem dX12_layWalks_58 : decode cX12_layWalks 58 = .ok (.invokevirtual 378, 3) := by decide +kernel
theorem dX12_layWalks_61 : decode cX12_layWalks 61 = .ok (.if_icmp .ge 26, 3) := by decide +kernel
theorem dX12_layWalks_64 : decode cX12_layWalks 64 = .ok (.aload_n 0, 1) := by decide +kernel
theorem dX12_layWalks_65 : decode cX12_layWalks 65 = .ok (.getfield 155, 3) := by decide +kernel
theorem dX12_layWalks_68 : decode cX12_layWalks 68 = .ok (.bipush 8, 2) := by decide +kernel
theorem dX12_layWalks_70 : decode cX12_layWalks 70 = .ok (.iload_n 2, 1) := by decide +kernel
theorem dX12_layWalks_71 : decode cX12_layWalks 71 = .ok (.imul, 1) := by decide +kernel
theorem dX12_layWalks_72 : decode cX12_layWalks 72 = .ok (.iload_n 3, 1) := by decide +kernel
theorem dX12_layWalks_73 : decode cX12_layWalks 73 = .ok (.iadd, 1) := by decide +kernel
theorem dX12_layWalks_74 : decode cX12_layWalks 74 = .ok (.aload_n 0, 1) := by decide +kernel
theorem dX12_layWalks_75 : decode cX12_layWalks 75 = .ok (.getfield 116, 3) := by decide +kernel
theorem dX12_layWalks_78 : decode cX12_layWalks 78 = .ok (.iload_n 3, 1) := by decide +kernel
theorem dX12_layWalks_79 : decode cX12_layWalks 79 = .ok (.iaload, 1) := by decide +kernel
theorem dX12_layWalks_80 : decode cX12_layWalks 80 = .ok (.iastore, 1) := by decide +kernel
theorem dX12_layWalks_81 : decode cX12_layWalks 81 = .ok (.iinc 3 1, 3) := by decide +kernel
theorem dX12_layWalks_84 : decode cX12_layWalks 84 = .ok (.goto (-28), 3) := by decide +kernel
theorem dX12_layWalks_87 : decode cX12_layWalks 87 = .ok (.iinc 2 1, 3) := by decide +kernel
theorem dX12_layWalks_90 : decode cX12_layWalks 90 = .ok (.goto (-56), 3) := by decide +kernel
theorem dX12_layWalks_93 : decode cX12_layWalks 93 = .ok (.iconst 0, 1) := by decide +kernel
theorem dX12_layWalks_94 : decode cX12_layWalks 94 = .ok (.istore_n 2, 1) := by decide +kernel
theorem dX12_layWalks_95 : decode cX12_layWalks 95 = .ok (.iload_n 2, 1) := by decide +kernel
theorem dX12_layWalks_96 : decode cX12_layWalks 96 = .ok (.aload_n 0, 1) := by decide +kernel
theorem dX12_layWalks_97 : decode cX12_layWalks 97 = .ok (.invokevirtual 378, 3) := by decide +kernel
theorem dX12_layWalks_100 : decode cX12_layWalks 100 = .ok (.if_icmp .ge 16, 3) := by decide +kernel
theorem dX12_layWalks_103 : decode cX12_layWalks 103 = .ok (.aload_n 0, 1) := by decide +kernel
theorem dX12_layWalks_104 : decode cX12_layWalks 104 = .ok (.getfield 116, 3) := by decide +kernel
theorem dX12_layWalks_107 : decode cX12_layWalks 107 = .ok (.iload_n 2, 1) := by decide +kernel
theorem dX12_layWalks_108 : decode cX12_layWalks 108 = .ok (.iconst 1, 1) := by decide +kernel
theorem dX12_layWalks_109 : decode cX12_layWalks 109 = .ok (.iastore, 1) := by decide +kernel
theorem dX12_layWalks_110 : decode cX12_layWalks 110 = .ok (.iinc 2 1, 3) := by decide +kernel
theorem dX12_layWalks_113 : decode cX12_layWalks 113 = .ok (.goto (-18), 3) := by decide +kernel
theorem dX12_layWalks_116 : decode cX12_layWalks 116 = .ok (.bipush 7, 2) := by decide +kernel
theorem dX12_layWalks_118 : decode cX12_layWalks 118 = .ok (.istore_n 2, 1) := by decide +kernel
theorem dX12_layWalks_119 : decode cX12_layWalks 119 = .ok (.iload_n 2, 1) := by decide +kernel
theorem dX12_layWalks_120 : decode cX12_layWalks 120 = .ok (.ifCond .lt 76, 3) := by decide +kernel
theorem dX12_layWalks_123 : decode cX12_layWalks 123 = .ok (.iconst 0, 1) := by decide +kernel
theorem dX12_layWalks_124 : decode cX12_layWalks 124 = .ok (.istore_n 3, 1) := by decide +kernel
theorem dX12_layWalks_125 : decode cX12_layWalks 125 = .ok (.iload_n 3, 1) := by decide +kernel
theorem dX12_layWalks_126 : decode cX12_layWalks 126 = .ok (.aload_n 0, 1) := by decide +kernel
theorem dX12_layWalks_127 : decode cX12_layWalks 127 = .ok (.invokevirtual 378, 3) := by decide +kernel
theorem dX12_layWalks_130 : decode cX12_layWalks 130 = .ok (.if_icmp .ge 55, 3) := by decide +kernel
theorem dX12_layWalks_133 : decode cX12_layWalks 133 = .ok (.aload_n 0, 1) := by decide +kernel
theorem dX12_layWalks_134 : decode cX12_layWalks 134 = .ok (.getfield 158, 3) := by decide +kernel
theorem dX12_layWalks_137 : decode cX12_layWalks 137 = .ok (.bipush 8, 2) := by decide +kernel
theorem dX12_layWalks_139 : decode cX12_layWalks 139 = .ok (.iload_n 2, 1) := by decide +kernel
theorem dX12_layWalks_140 : decode cX12_layWalks 140 = .ok (.imul, 1) := by decide +kernel
theorem dX12_layWalks_141 : decode cX12_layWalks 141 = .ok (.iload_n 3, 1) := by decide +kernel
theorem dX12_layWalks_142 : decode cX12_layWalks 142 = .ok (.iadd, 1) := by decide +kernel
theorem dX12_layWalks_143 : decode cX12_layWalks 143 = .ok (.aload_n 0, 1) := by decide +kernel
theorem dX12_layWalks_144 : decode cX12_layWalks 144 = .ok (.getfield 116, 3) := by decide +kernel
theorem dX12_layWalks_147 : decode cX12_layWalks 147 = .ok (.iload_n 3, 1) := by decide +kernel
theorem dX12_layWalks_148 : decode cX12_layWalks 148 = .ok (.iaload, 1) := by decide +kernel
theorem dX12_layWalks_149 : decode cX12_layWalks 149 = .ok (.iastore, 1) := by decide +kernel
theorem dX12_layWalks_150 : decode cX12_layWalks 150 = .ok (.aload_n 0, 1) := by decide +kernel
theorem dX12_layWalks_151 : decode cX12_layWalks 151 = .ok (.getfield 116, 3) := by decide +kernel
theorem dX12_layWalks_154 : decode cX12_layWalks 154 = .ok (.iload_n 3, 1) := by decide +kernel
theorem dX12_layWalks_155 : decode cX12_layWalks 155 = .ok (.aload_n 0, 1) := by decide +kernel
theorem dX12_layWalks_156 : decode cX12_layWalks 156 = .ok (.iload_n 2, 1) := by decide +kernel
theorem dX12_layWalks_157 : decode cX12_layWalks 157 = .ok (.iload_n 1, 1) := by decide +kernel
theorem dX12_layWalks_158 : decode cX12_layWalks 158 = .ok (.invokevirtual 513, 3) := by decide +kernel
theorem dX12_layWalks_161 : decode cX12_layWalks 161 = .ok (.iload_n 3, 1) := by decide +kernel
theorem dX12_layWalks_162 : decode cX12_layWalks 162 = .ok (.invokestatic 397, 3) := by decide +kernel
theorem dX12_layWalks_165 : decode cX12_layWalks 165 = .ok (.ifCond .eq 12, 3) := by decide +kernel
theorem dX12_layWalks_168 : decode cX12_layWalks 168 = .ok (.aload_n 0, 1) := by decide +kernel
theorem dX12_layWalks_169 : decode cX12_layWalks 169 = .ok (.getfield 116, 3) := by decide +kernel
theorem dX12_layWalks_172 : decode cX12_layWalks 172 = .ok (.iload_n 3, 1) := by decide +kernel
theorem dX12_layWalks_173 : decode cX12_layWalks 173 = .ok (.iaload, 1) := by decide +kernel
theorem dX12_layWalks_174 : decode cX12_layWalks 174 = .ok (.goto 4, 3) := by decide +kernel
theorem dX12_layWalks_177 : decode cX12_layWalks 177 = .ok (.iconst 0, 1) := by decide +kernel
theorem dX12_layWalks_178 : decode cX12_layWalks 178 = .ok (.iastore, 1) := by decide +kernel
theorem dX12_layWalks_179 : decode cX12_layWalks 179 = .ok (.iinc 3 1, 3) := by decide +kernel
theorem dX12_layWalks_182 : decode cX12_layWalks 182 = .ok (.goto (-57), 3) := by decide +kernel
theorem dX12_layWalks_185 : decode cX12_layWalks 185 = .ok (.aload_n 0, 1) := by decide +kernel
theorem dX12_layWalks_186 : decode cX12_layWalks 186 = .ok (.iconst (-1), 1) := by decide +kernel
theorem dX12_layWalks_187 : decode cX12_layWalks 187 = .ok (.invokevirtual 516, 3) := by decide +kernel
theorem dX12_layWalks_190 : decode cX12_layWalks 190 = .ok (.iinc 2 (-1), 3) := by decide +kernel
theorem dX12_layWalks_193 : decode cX12_layWalks 193 = .ok (.goto (-74), 3) := by decide +kernel
theorem dX12_layWalks_196 : decode cX12_layWalks 196 = .ok (.return_, 1) := by decide +kernel
theorem dX12_walksBy_0 : decode cX12_walksBy 0 = .ok (.aload_n 0, 1) := by decide +kernel
theorem dX12_walksBy_1 : decode cX12_walksBy 1 = .ok (.getfield 155, 3) := by decide +kernel
theorem dX12_walksBy_4 : decode cX12_walksBy 4 = .ok (.bipush 8, 2) := by decide +kernel
theorem dX12_walksBy_6 : decode cX12_walksBy 6 = .ok (.iload_n 1, 1) := by decide +kernel
theorem dX12_walksBy_7 : decode cX12_walksBy 7 = .ok (.imul, 1) := by decide +kernel
theorem dX12_walksBy_8 : decode cX12_walksBy 8 = .ok (.iload_n 2, 1) := by decide +kernel
theorem dX12_walksBy_9 : decode cX12_walksBy 9 = .ok (.iadd, 1) := by decide +kernel
theorem dX12_walksBy_10 : decode cX12_walksBy 10 = .ok (.iaload, 1) := by decide +kernel
theorem dX12_walksBy_11 : decode cX12_walksBy 11 = .ok (.aload_n 0, 1) := by decide +kernel
theorem dX12_walksBy_12 : decode cX12_walksBy 12 = .ok (.getfield 158, 3) := by decide +kernel
theorem dX12_walksBy_15 : decode cX12_walksBy 15 = .ok (.bipush 8, 2) := by decide +kernel
theorem dX12_walksBy_17 : decode cX12_walksBy 17 = .ok (.iload_n 1, 1) := by decide +kernel
theorem dX12_walksBy_18 : decode cX12_walksBy 18 = .ok (.imul, 1) := by decide +kernel
theorem dX12_walksBy_19 : decode cX12_walksBy 19 = .ok (.iload_n 2, 1) := by decide +kernel
theorem dX12_walksBy_20 : decode cX12_walksBy 20 = .ok (.iadd, 1) := by decide +kernel
theorem dX12_walksBy_21 : decode cX12_walksBy 21 = .ok (.iaload, 1) := by decide +kernel
theorem dX12_walksBy_22 : decode cX12_walksBy 22 = .ok (.imul, 1) := by decide +kernel
theorem dX12_walksBy_23 : decode cX12_walksBy 23 = .ok (.ireturn, 1) := by decide +kernel
set_option maxRecDepth 20000 in
theorem ggX12_nooks_X12_behind : GoodIn wsX12_nooks wsX12_behind := goodIn_r _ [11, 12, 7, 13, 14, 15, 4, 16, 17, 18, 19, 20, 21, 22, 26, 27, 28, 29, 30, 31, 32, 33, 34, 35, 36, 37, 38, 39, 40, 41, 42, 43, 44, 45, 46, 47, 48, 49, 50, 51, 52, 53, 54, 55, 56, 57, 58, 59, 60, 61, 62, 63, 64, 65, 66, 67, 68, 69, 70, 71, 72, 73, 74, 75, 76, 77, 78, 79, 80, 81, 82, 83, 84, 85, 86, 87, 88, 89, 90, 91, 92, 93, 94, 95, 96] (by decide +kernel) (by decide +kernel)
set_option maxRecDepth 20000 in
theorem gX12_nooks_X12_behind : GoodIn wsX12_nooks (wsV RX12 400 RX12 yX12_behind wsX12_behind) := goodIn_app (goodIn_of _ (by decide +kernel)) ggX12_nooks_X12_behind
set_option maxRecDepth 20000 in
theorem ggX12_nooks_X12_bitsOf : GoodIn wsX12_nooks wsX12_bitsOf := goodIn_r _ [25] (by decide +kernel) (by decide +kernel)
set_option maxRecDepth 20000 in
theorem gX12_nooks_X12_bitsOf : GoodIn wsX12_nooks (va_wsS RX12 469 yX12_bitsOf wsX12_bitsOf) := goodIn_app (goodIn_of _ (by decide +kernel)) ggX12_nooks_X12_bitsOf
set_option maxRecDepth 20000 in
theorem ggX12_nooks_X12_places : GoodIn wsX12_nooks wsX12_places := goodIn_r _ [5, 6, 7, 26, 27, 28, 29, 30, 31, 32, 33, 34, 35, 36, 37, 38, 39, 40, 41, 42, 43, 44, 45, 46, 47, 48, 49, 50, 51, 52, 53, 54, 55, 56, 57, 58, 59, 60, 61, 62, 63, 64, 65, 66, 67, 68, 69, 70, 71, 72, 73, 74, 75, 76, 77, 78, 79, 80, 81, 82, 83, 84, 85, 86, 87, 88, 89, 90, 91, 92, 93, 94, 95, 96] (by decide +kernel) (by decide +kernel)
set_option maxRecDepth 20000 in
theorem gX12_nooks_X12_places : GoodIn wsX12_nooks (wsV RX12 378 RX12 yX12_places wsX12_places) := goodIn_app (goodIn_of _ (by decide +kernel)) ggX12_nooks_X12_places
set_option maxRecDepth 20000 in
theorem ggX12_echo_X12_creakOf : GoodIn wsX12_echo wsX12_creakOf := goodIn_r _ [23, 24, 11, 25, 26, 27, 28, 29, 30, 31, 32, 33, 34, 35, 36, 37, 38, 39, 40, 41, 42, 43, 44, 45, 46, 47, 48, 49, 50, 51, 52, 53, 54, 55, 56, 57, 58, 59, 60, 61, 62, 63, 64, 65, 66, 67, 68, 69, 70, 71, 72, 73, 74, 75, 76, 77, 78, 79, 80, 81, 82, 83, 84, 85, 86, 87, 88, 89, 90, 91, 92, 93, 94, 95] (by decide +kernel) (by decide +kernel)
set_option maxRecDepth 20000 in
theorem gX12_echo_X12_creakOf : GoodIn wsX12_echo (wsV RX12 430 RX12 yX12_creakOf wsX12_creakOf) := goodIn_app (goodIn_of _ (by decide +kernel)) ggX12_echo_X12_creakOf
set_option maxRecDepth 20000 in
theorem ggX12_echo_X12_farOf : GoodIn wsX12_echo wsX12_farOf := goodIn_r _ [18, 19, 25, 26, 27, 28, 29, 30, 31, 32, 33, 34, 35, 36, 37, 38, 39, 40, 41, 42, 43, 44, 45, 46, 47, 48, 49, 50, 51, 52, 53, 54, 55, 56, 57, 58, 59, 60, 61, 62, 63, 64, 65, 66, 67, 68, 69, 70, 71, 72, 73, 74, 75, 76, 77, 78, 79, 80, 81, 82, 83, 84, 85, 86, 87, 88, 89, 90, 91, 92, 93, 94, 95] (by decide +kernel) (by decide +kernel)
set_option maxRecDepth 20000 in
theorem gX12_echo_X12_farOf : GoodIn wsX12_echo (wsV RX12 421 RX12 yX12_farOf wsX12_farOf) := goodIn_app (goodIn_of _ (by decide +kernel)) ggX12_echo_X12_farOf
set_option maxRecDepth 20000 in
theorem ggX12_echo_X12_isIn : GoodIn wsX12_echo wsX12_isIn := goodIn_r _ [14] (by decide +kernel) (by decide +kernel)
set_option maxRecDepth 20000 in
theorem gX12_echo_X12_isIn : GoodIn wsX12_echo (va_wsS RX12 381 yX12_isIn wsX12_isIn) := goodIn_app (goodIn_of _ (by decide +kernel)) ggX12_echo_X12_isIn
set_option maxRecDepth 20000 in
theorem ggX12_echo_X12_isRoom : GoodIn wsX12_echo wsX12_isRoom := goodIn_r _ [5, 6, 7, 8, 4, 9, 10, 11, 12, 13, 14, 25, 26, 27, 28, 29, 30, 31, 32, 33, 34, 35, 36, 37, 38, 39, 40, 41, 42, 43, 44, 45, 46, 47, 48, 49, 50, 51, 52, 53, 54, 55, 56, 57, 58, 59, 60, 61, 62, 63, 64, 65, 66, 67, 68, 69, 70, 71, 72, 73, 74, 75, 76, 77, 78, 79, 80, 81, 82, 83, 84, 85, 86, 87, 88, 89, 90, 91, 92, 93, 94, 95] (by decide +kernel) (by decide +kernel)
set_option maxRecDepth 20000 in
theorem gX12_echo_X12_isRoom : GoodIn wsX12_echo (wsV RX12 385 RX12 yX12_isRoom wsX12_isRoom) := goodIn_app (goodIn_of _ (by decide +kernel)) ggX12_echo_X12_isRoom
set_option maxRecDepth 20000 in
theorem ggX12_echo_X12_places : GoodIn wsX12_echo wsX12_places := goodIn_r _ [9, 10, 11, 25, 26, 27, 28, 29, 30, 31, 32, 33, 34, 35, 36, 37, 38, 39, 40, 41, 42, 43, 44, 45, 46, 47, 48, 49, 50, 51, 52, 53, 54, 55, 56, 57, 58, 59, 60, 61, 62, 63, 64, 65, 66, 67, 68, 69, 70, 71, 72, 73, 74, 75, 76, 77, 78, 79, 80, 81, 82, 83, 84, 85, 86, 87, 88, 89, 90, 91, 92, 93, 94, 95] (by decide +kernel) (by decide +kernel)
set_option maxRecDepth 20000 in
theorem gX12_echo_X12_places : GoodIn wsX12_echo (wsV RX12 378 RX12 yX12_places wsX12_places) := goodIn_app (goodIn_of _ (by decide +kernel)) ggX12_echo_X12_places
set_option maxRecDepth 20000 in
theorem ggX12_mend_X12_farOf : GoodIn wsX12_mend wsX12_farOf := goodIn_r _ [15, 16, 17, 18, 19, 20, 21, 22, 23, 24, 25, 26, 27, 28, 29, 30, 31, 32, 33, 34, 35, 36, 37, 38, 39, 40, 41, 42, 43, 44, 45, 46, 47, 48, 49, 50, 51, 52, 53, 54, 55, 56, 57, 58, 59, 60, 61, 62, 63, 64, 65, 66, 67, 68, 69, 70, 71, 72, 73, 74, 75, 76, 77, 78, 79, 80, 81, 82, 83, 84, 85, 86, 87] (by decide +kernel) (by decide +kernel)
set_option maxRecDepth 20000 in
theorem gX12_mend_X12_farOf : GoodIn wsX12_mend (wsV RX12 421 RX12 yX12_farOf wsX12_farOf) := goodIn_app (goodIn_of _ (by decide +kernel)) ggX12_mend_X12_farOf
set_option maxRecDepth 20000 in
theorem ggX12_mend_X12_isIn : GoodIn wsX12_mend wsX12_isIn := goodIn_r _ [5] (by decide +kernel) (by decide +kernel)
set_option maxRecDepth 20000 in
theorem gX12_mend_X12_isIn : GoodIn wsX12_mend (va_wsS RX12 381 yX12_isIn wsX12_isIn) := goodIn_app (goodIn_of _ (by decide +kernel)) ggX12_mend_X12_isIn
set_option maxRecDepth 20000 in
theorem ggX12_mend_X12_many : GoodIn wsX12_mend wsX12_many := goodIn_r _ [9, 10, 11, 17, 18, 19, 20, 21, 22, 23, 24, 25, 26, 27, 28, 29, 30, 31, 32, 33, 34, 35, 36, 37, 38, 39, 40, 41, 42, 43, 44, 45, 46, 47, 48, 49, 50, 51, 52, 53, 54, 55, 56, 57, 58, 59, 60, 61, 62, 63, 64, 65, 66, 67, 68, 69, 70, 71, 72, 73, 74, 75, 76, 77, 78, 79, 80, 81, 82, 83, 84, 85, 86, 87] (by decide +kernel) (by decide +kernel)
set_option maxRecDepth 20000 in
theorem gX12_mend_X12_many : GoodIn wsX12_mend (wsV RX12 388 RX12 yX12_many wsX12_many) := goodIn_app (goodIn_of _ (by decide +kernel)) ggX12_mend_X12_many
set_option maxRecDepth 20000 in
theorem ggX12_regret_X12_many : GoodIn wsX12_regret wsX12_many := goodIn_r _ [6, 7, 8, 15, 16, 17, 18, 19, 20, 21, 22, 23, 24, 25, 26, 27, 28, 29, 30, 31, 32, 33, 34, 35, 36, 37, 38, 39, 40, 41, 42, 43, 44, 45, 46, 47, 48, 49, 50, 51, 52, 53, 54, 55, 56, 57, 58, 59, 60, 61, 62, 63, 64, 65, 66, 67, 68, 69, 70, 71, 72, 73, 74, 75, 76, 77, 78, 79, 80, 81, 82, 83, 84, 85] (by decide +kernel) (by decide +kernel)
set_option maxRecDepth 20000 in
theorem gX12_regret_X12_many : GoodIn wsX12_regret (wsV RX12 388 RX12 yX12_many wsX12_many) := goodIn_app (goodIn_of _ (by decide +kernel)) ggX12_regret_X12_many
set_option maxRecDepth 20000 in
theorem ggX12_regret_X12_worthOf : GoodIn wsX12_regret wsX12_worthOf := goodIn_r _ [12, 13, 8, 14, 15, 16, 17, 18, 19, 20, 21, 22, 23, 24, 25, 26, 27, 28, 29, 30, 31, 32, 33, 34, 35, 36, 37, 38, 39, 40, 41, 42, 43, 44, 45, 46, 47, 48, 49, 50, 51, 52, 53, 54, 55, 56, 57, 58, 59, 60, 61, 62, 63, 64, 65, 66, 67, 68, 69, 70, 71, 72, 73, 74, 75, 76, 77, 78, 79, 80, 81, 82, 83, 84, 85] (by decide +kernel) (by decide +kernel)
set_option maxRecDepth 20000 in
theorem gX12_regret_X12_worthOf : GoodIn wsX12_regret (wsV RX12 487 RX12 yX12_worthOf wsX12_worthOf) := goodIn_app (goodIn_of _ (by decide +kernel)) ggX12_regret_X12_worthOf
set_option maxRecDepth 20000 in
theorem ggX12_gainOf_X12_worthOf : GoodIn wsX12_gainOf wsX12_worthOf := goodIn_r _ [6, 7, 8, 9, 10, 11, 12, 13, 14, 15, 16, 17, 18, 19, 20, 21, 22, 23, 24, 25, 26, 27, 28, 29, 30, 31, 32, 33, 34, 35, 36, 37, 38, 39, 40, 41, 42, 43, 44, 45, 46, 47, 48, 49, 50, 51, 52, 53, 54, 55, 56, 57, 58, 59, 60, 61, 62, 63, 64, 65, 66, 67, 68, 69, 70, 71, 72, 73, 74, 75, 76, 77, 78, 79, 80] (by decide +kernel) (by decide +kernel)
set_option maxRecDepth 20000 in
theorem gX12_gainOf_X12_worthOf : GoodIn wsX12_gainOf (wsV RX12 487 RX12 yX12_worthOf wsX12_worthOf) := goodIn_app (goodIn_of _ (by decide +kernel)) ggX12_gainOf_X12_worthOf
set_option maxRecDepth 20000 in
theorem ggX12_trade_X12_gainOf : GoodIn wsX12_trade wsX12_gainOf := goodIn_r _ [14, 15, 16, 17, 18, 3, 19, 20, 10, 21, 22, 23, 24, 25, 26, 27, 28, 29, 30, 31, 32, 33, 34, 35, 36, 37, 38, 39, 40, 41, 42, 43, 44, 45, 46, 47, 48, 49, 50, 51, 52, 53, 54, 55, 56, 57, 58, 59, 60, 61, 62, 63, 64, 65, 66, 67, 68, 69, 70, 71, 72, 73, 74, 75, 76, 77, 78, 79, 80, 81, 82, 83, 84, 85, 86, 87, 88, 89, 90, 91, 92] (by decide +kernel) (by decide +kernel)
set_option maxRecDepth 20000 in
theorem gX12_trade_X12_gainOf : GoodIn wsX12_trade (wsV RX12 490 RX12 yX12_gainOf wsX12_gainOf) := goodIn_app (goodIn_of _ (by decide +kernel)) ggX12_trade_X12_gainOf
set_option maxRecDepth 20000 in
theorem ggX12_trade_X12_isIn : GoodIn wsX12_trade wsX12_isIn := goodIn_r _ [4] (by decide +kernel) (by decide +kernel)
set_option maxRecDepth 20000 in
theorem gX12_trade_X12_isIn : GoodIn wsX12_trade (va_wsS RX12 381 yX12_isIn wsX12_isIn) := goodIn_app (goodIn_of _ (by decide +kernel)) ggX12_trade_X12_isIn
set_option maxRecDepth 20000 in
theorem ggX12_trade_X12_many : GoodIn wsX12_trade wsX12_many := goodIn_r _ [8, 9, 10, 22, 23, 24, 25, 26, 27, 28, 29, 30, 31, 32, 33, 34, 35, 36, 37, 38, 39, 40, 41, 42, 43, 44, 45, 46, 47, 48, 49, 50, 51, 52, 53, 54, 55, 56, 57, 58, 59, 60, 61, 62, 63, 64, 65, 66, 67, 68, 69, 70, 71, 72, 73, 74, 75, 76, 77, 78, 79, 80, 81, 82, 83, 84, 85, 86, 87, 88, 89, 90, 91, 92] (by decide +kernel) (by decide +kernel)
set_option maxRecDepth 20000 in
theorem gX12_trade_X12_many : GoodIn wsX12_trade (wsV RX12 388 RX12 yX12_many wsX12_many) := goodIn_app (goodIn_of _ (by decide +kernel)) ggX12_trade_X12_many
set_option maxRecDepth 20000 in
theorem ggX12_trades_X12_gainOf : GoodIn wsX12_trades wsX12_gainOf := goodIn_r _ [15, 16, 17, 18, 19, 5, 20, 21, 8, 22, 23, 24, 25, 26, 27, 28, 29, 30, 31, 32, 33, 34, 35, 36, 37, 38, 39, 40, 41, 42, 43, 44, 45, 46, 47, 48, 49, 50, 51, 52, 53, 54, 55, 56, 57, 58, 59, 60, 61, 62, 63, 64, 65, 66, 67, 68, 69, 70, 71, 72, 73, 74, 75, 76, 77, 78, 79, 80, 81, 82, 83, 84, 85, 86, 87, 88, 89, 90, 91, 92, 93] (by decide +kernel) (by decide +kernel)
set_option maxRecDepth 20000 in
theorem gX12_trades_X12_gainOf : GoodIn wsX12_trades (wsV RX12 490 RX12 yX12_gainOf wsX12_gainOf) := goodIn_app (goodIn_of _ (by decide +kernel)) ggX12_trades_X12_gainOf
set_option maxRecDepth 20000 in
theorem ggX12_trades_X12_has : GoodIn wsX12_trades wsX12_has := goodIn_r _ [11] (by decide +kernel) (by decide +kernel)
set_option maxRecDepth 20000 in
theorem gX12_trades_X12_has : GoodIn wsX12_trades (va_wsS RX12 397 yX12_has wsX12_has) := goodIn_app (goodIn_of _ (by decide +kernel)) ggX12_trades_X12_has
set_option maxRecDepth 20000 in
theorem ggX12_trades_X12_many : GoodIn wsX12_trades wsX12_many := goodIn_r _ [6, 7, 8, 23, 24, 25, 26, 27, 28, 29, 30, 31, 32, 33, 34, 35, 36, 37, 38, 39, 40, 41, 42, 43, 44, 45, 46, 47, 48, 49, 50, 51, 52, 53, 54, 55, 56, 57, 58, 59, 60, 61, 62, 63, 64, 65, 66, 67, 68, 69, 70, 71, 72, 73, 74, 75, 76, 77, 78, 79, 80, 81, 82, 83, 84, 85, 86, 87, 88, 89, 90, 91, 92, 93] (by decide +kernel) (by decide +kernel)
set_option maxRecDepth 20000 in
theorem gX12_trades_X12_many : GoodIn wsX12_trades (wsV RX12 388 RX12 yX12_many wsX12_many) := goodIn_app (goodIn_of _ (by decide +kernel)) ggX12_trades_X12_many
set_option maxRecDepth 20000 in
theorem ggX12_wealth_X12_isIn : GoodIn wsX12_wealth wsX12_isIn := goodIn_r _ [5] (by decide +kernel) (by decide +kernel)
set_option maxRecDepth 20000 in
theorem gX12_wealth_X12_isIn : GoodIn wsX12_wealth (va_wsS RX12 381 yX12_isIn wsX12_isIn) := goodIn_app (goodIn_of _ (by decide +kernel)) ggX12_wealth_X12_isIn
set_option maxRecDepth 20000 in
theorem ggX12_wealth_X12_many : GoodIn wsX12_wealth wsX12_many := goodIn_r _ [9, 10, 11, 18, 19, 20, 21, 22, 23, 24, 25, 26, 27, 28, 29, 30, 31, 32, 33, 34, 35, 36, 37, 38, 39, 40, 41, 42, 43, 44, 45, 46, 47, 48, 49, 50, 51, 52, 53, 54, 55, 56, 57, 58, 59, 60, 61, 62, 63, 64, 65, 66, 67, 68, 69, 70, 71, 72, 73, 74, 75, 76, 77, 78, 79, 80, 81, 82, 83, 84, 85, 86, 87, 88] (by decide +kernel) (by decide +kernel)
set_option maxRecDepth 20000 in
theorem gX12_wealth_X12_many : GoodIn wsX12_wealth (wsV RX12 388 RX12 yX12_many wsX12_many) := goodIn_app (goodIn_of _ (by decide +kernel)) ggX12_wealth_X12_many
set_option maxRecDepth 20000 in
theorem ggX12_wealth_X12_worthOf : GoodIn wsX12_wealth wsX12_worthOf := goodIn_r _ [15, 16, 11, 17, 18, 19, 20, 21, 22, 23, 24, 25, 26, 27, 28, 29, 30, 31, 32, 33, 34, 35, 36, 37, 38, 39, 40, 41, 42, 43, 44, 45, 46, 47, 48, 49, 50, 51, 52, 53, 54, 55, 56, 57, 58, 59, 60, 61, 62, 63, 64, 65, 66, 67, 68, 69, 70, 71, 72, 73, 74, 75, 76, 77, 78, 79, 80, 81, 82, 83, 84, 85, 86, 87, 88] (by decide +kernel) (by decide +kernel)
set_option maxRecDepth 20000 in
theorem gX12_wealth_X12_worthOf : GoodIn wsX12_wealth (wsV RX12 487 RX12 yX12_worthOf wsX12_worthOf) := goodIn_app (goodIn_of _ (by decide +kernel)) ggX12_wealth_X12_worthOf
set_option maxRecDepth 20000 in
theorem ggX12_off_X12_many : GoodIn wsX12_off wsX12_many := goodIn_r _ [5, 6, 7, 21, 22, 23, 24, 25, 26, 27, 28, 29, 30, 31, 32, 33, 34, 35, 36, 37, 38, 39, 40, 41, 42, 43, 44, 45, 46, 47, 48, 49, 50, 51, 52, 53, 54, 55, 56, 57, 58, 59, 60, 61, 62, 63, 64, 65, 66, 67, 68, 69, 70, 71, 72, 73, 74, 75, 76, 77, 78, 79, 80, 81, 82, 83, 84, 85, 86, 87, 88, 89, 90, 91] (by decide +kernel) (by decide +kernel)
set_option maxRecDepth 20000 in
theorem gX12_off_X12_many : GoodIn wsX12_off (wsV RX12 388 RX12 yX12_many wsX12_many) := goodIn_app (goodIn_of _ (by decide +kernel)) ggX12_off_X12_many
set_option maxRecDepth 20000 in
theorem ggX12_off_X12_offOf : GoodIn wsX12_off wsX12_offOf := goodIn_r _ [11, 12, 13, 14, 15, 4, 16, 17, 18, 19, 20, 21, 22, 23, 24, 25, 26, 27, 28, 29, 30, 31, 32, 33, 34, 35, 36, 37, 38, 39, 40, 41, 42, 43, 44, 45, 46, 47, 48, 49, 50, 51, 52, 53, 54, 55, 56, 57, 58, 59, 60, 61, 62, 63, 64, 65, 66, 67, 68, 69, 70, 71, 72, 73, 74, 75, 76, 77, 78, 79, 80, 81, 82, 83, 84, 85, 86, 87, 88, 89, 90, 91] (by decide +kernel) (by decide +kernel)
set_option maxRecDepth 20000 in
theorem gX12_off_X12_offOf : GoodIn wsX12_off (wsV RX12 368 RX12 yX12_offOf wsX12_offOf) := goodIn_app (goodIn_of _ (by decide +kernel)) ggX12_off_X12_offOf
set_option maxRecDepth 20000 in
theorem ggX12_right_X12_rightOnes : GoodIn wsX12_right wsX12_rightOnes := goodIn_r _ [5, 6, 7, 8, 9, 4, 10, 11, 12, 13, 14, 15, 16, 17, 18, 19, 20, 21, 22, 23, 24, 25, 26, 27, 28, 29, 30, 31, 32, 33, 34, 35, 36, 37, 38, 39, 40, 41, 42, 43, 44, 45, 46, 47, 48, 49, 50, 51, 52, 53, 54, 55, 56, 57, 58, 59, 60, 61, 62, 63, 64, 65, 66, 67, 68, 69, 70, 71, 72, 73, 74, 75, 76, 77, 78, 79, 80, 81, 82, 83] (by decide +kernel) (by decide +kernel)
set_option maxRecDepth 20000 in
theorem gX12_right_X12_rightOnes : GoodIn wsX12_right (wsV RX12 493 RX12 yX12_rightOnes wsX12_rightOnes) := goodIn_app (goodIn_of _ (by decide +kernel)) ggX12_right_X12_rightOnes
set_option maxRecDepth 20000 in
theorem ggX12_deep_X12_isIn : GoodIn wsX12_deep wsX12_isIn := goodIn_r _ [5] (by decide +kernel) (by decide +kernel)
set_option maxRecDepth 20000 in
theorem gX12_deep_X12_isIn : GoodIn wsX12_deep (va_wsS RX12 381 yX12_isIn wsX12_isIn) := goodIn_app (goodIn_of _ (by decide +kernel)) ggX12_deep_X12_isIn
set_option maxRecDepth 20000 in
theorem ggX12_deep_X12_many : GoodIn wsX12_deep wsX12_many := goodIn_r _ [9, 10, 11, 12, 13, 14, 15, 16, 17, 18, 19, 20, 21, 22, 23, 24, 25, 26, 27, 28, 29, 30, 31, 32, 33, 34, 35, 36, 37, 38, 39, 40, 41, 42, 43, 44, 45, 46, 47, 48, 49, 50, 51, 52, 53, 54, 55, 56, 57, 58, 59, 60, 61, 62, 63, 64, 65, 66, 67, 68, 69, 70, 71, 72, 73, 74, 75, 76, 77, 78, 79, 80, 81, 82] (by decide +kernel) (by decide +kernel)
set_option maxRecDepth 20000 in
theorem gX12_deep_X12_many : GoodIn wsX12_deep (wsV RX12 388 RX12 yX12_many wsX12_many) := goodIn_app (goodIn_of _ (by decide +kernel)) ggX12_deep_X12_many
set_option maxRecDepth 20000 in
theorem ggX12_openAt_X12_creakOf : GoodIn wsX12_openAt wsX12_creakOf := goodIn_r _ [18, 19, 14, 20, 21, 22, 23, 24, 25, 26, 27, 28, 29, 30, 31, 32, 33, 34, 35, 36, 37, 38, 39, 40, 41, 42, 43, 44, 45, 46, 47, 48, 49, 50, 51, 52, 53, 54, 55, 56, 57, 58, 59, 60, 61, 62, 63, 64, 65, 66, 67, 68, 69, 70, 71, 72, 73, 74, 75, 76, 77, 78, 79, 80, 81, 82, 83, 84, 85, 86, 87, 88, 89, 90] (by decide +kernel) (by decide +kernel)
set_option maxRecDepth 20000 in
theorem gX12_openAt_X12_creakOf : GoodIn wsX12_openAt (wsV RX12 430 RX12 yX12_creakOf wsX12_creakOf) := goodIn_app (goodIn_of _ (by decide +kernel)) ggX12_openAt_X12_creakOf
set_option maxRecDepth 20000 in
theorem ggX12_openAt_X12_places : GoodIn wsX12_openAt wsX12_places := goodIn_r _ [12, 13, 14, 20, 21, 22, 23, 24, 25, 26, 27, 28, 29, 30, 31, 32, 33, 34, 35, 36, 37, 38, 39, 40, 41, 42, 43, 44, 45, 46, 47, 48, 49, 50, 51, 52, 53, 54, 55, 56, 57, 58, 59, 60, 61, 62, 63, 64, 65, 66, 67, 68, 69, 70, 71, 72, 73, 74, 75, 76, 77, 78, 79, 80, 81, 82, 83, 84, 85, 86, 87, 88, 89, 90] (by decide +kernel) (by decide +kernel)
set_option maxRecDepth 20000 in
theorem gX12_openAt_X12_places : GoodIn wsX12_openAt (wsV RX12 378 RX12 yX12_places wsX12_places) := goodIn_app (goodIn_of _ (by decide +kernel)) ggX12_openAt_X12_places
set_option maxRecDepth 20000 in
theorem ggX12_stepOn_X12_behind : GoodIn wsX12_stepOn wsX12_behind := goodIn_r _ [13, 14, 9, 15, 16, 17, 6, 18, 19, 20, 21, 22, 23, 24, 28, 29, 30, 31, 32, 33, 34, 35, 36, 37, 38, 39, 40, 41, 42, 43, 44, 45, 46, 47, 48, 49, 50, 51, 52, 53, 54, 55, 56, 57, 58, 59, 60, 61, 62, 63, 64, 65, 66, 67, 68, 69, 70, 71, 72, 73, 74, 75, 76, 77, 78, 79, 80, 81, 82, 83, 84, 85, 86, 87, 88, 89, 90, 91, 92, 93, 94, 95, 96, 97, 98] (by decide +kernel) (by decide +kernel)
set_option maxRecDepth 20000 in
theorem gX12_stepOn_X12_behind : GoodIn wsX12_stepOn (wsV RX12 400 RX12 yX12_behind wsX12_behind) := goodIn_app (goodIn_of _ (by decide +kernel)) ggX12_stepOn_X12_behind
set_option maxRecDepth 20000 in
theorem ggX12_stepOn_X12_has : GoodIn wsX12_stepOn wsX12_has := goodIn_r _ [27] (by decide +kernel) (by decide +kernel)
set_option maxRecDepth 20000 in
theorem gX12_stepOn_X12_has : GoodIn wsX12_stepOn (va_wsS RX12 397 yX12_has wsX12_has) := goodIn_app (goodIn_of _ (by decide +kernel)) ggX12_stepOn_X12_has
set_option maxRecDepth 20000 in
theorem ggX12_stepOn_X12_places : GoodIn wsX12_stepOn wsX12_places := goodIn_r _ [7, 8, 9, 28, 29, 30, 31, 32, 33, 34, 35, 36, 37, 38, 39, 40, 41, 42, 43, 44, 45, 46, 47, 48, 49, 50, 51, 52, 53, 54, 55, 56, 57, 58, 59, 60, 61, 62, 63, 64, 65, 66, 67, 68, 69, 70, 71, 72, 73, 74, 75, 76, 77, 78, 79, 80, 81, 82, 83, 84, 85, 86, 87, 88, 89, 90, 91, 92, 93, 94, 95, 96, 97, 98] (by decide +kernel) (by decide +kernel)
set_option maxRecDepth 20000 in
theorem gX12_stepOn_X12_places : GoodIn wsX12_stepOn (wsV RX12 378 RX12 yX12_places wsX12_places) := goodIn_app (goodIn_of _ (by decide +kernel)) ggX12_stepOn_X12_places
set_option maxRecDepth 20000 in
theorem ggX12_layWalks_X12_has : GoodIn wsX12_layWalks wsX12_has := goodIn_r _ [49] (by decide +kernel) (by decide +kernel)
set_option maxRecDepth 20000 in
theorem gX12_layWalks_X12_has : GoodIn wsX12_layWalks (va_wsS RX12 397 yX12_has wsX12_has) := goodIn_app (goodIn_of _ (by decide +kernel)) ggX12_layWalks_X12_has
set_option maxRecDepth 20000 in
theorem ggX12_layWalks_X12_openAt : GoodIn wsX12_layWalks wsX12_openAt := goodIn_r _ [14, 15, 16, 17, 18, 19, 20, 21, 4, 5, 6, 7, 8, 9, 10, 22, 23, 24, 25, 26, 50, 51, 52, 53, 54, 55, 56, 57, 58, 59, 60, 61, 62, 63, 64, 65, 66, 67, 68, 69, 70, 71, 72, 73, 74, 75, 76, 77, 78, 79, 80, 81, 82, 83, 84, 85, 86, 87, 88, 89, 90, 91, 92, 93, 94, 95, 96, 97, 98, 99, 100, 101, 102, 103, 104, 105, 106, 107, 108, 109, 110, 111, 112, 113, 114, 115, 116, 117, 118, 119, 120] (by decide +kernel) (by decide +kernel)
set_option maxRecDepth 20000 in
theorem gX12_layWalks_X12_openAt : GoodIn wsX12_layWalks (wsV RX12 513 RX12 yX12_openAt wsX12_openAt) := goodIn_app (goodIn_of _ (by decide +kernel)) ggX12_layWalks_X12_openAt
set_option maxRecDepth 20000 in
theorem ggX12_layWalks_X12_places : GoodIn wsX12_layWalks wsX12_places := goodIn_r _ [8, 9, 10, 50, 51, 52, 53, 54, 55, 56, 57, 58, 59, 60, 61, 62, 63, 64, 65, 66, 67, 68, 69, 70, 71, 72, 73, 74, 75, 76, 77, 78, 79, 80, 81, 82, 83, 84, 85, 86, 87, 88, 89, 90, 91, 92, 93, 94, 95, 96, 97, 98, 99, 100, 101, 102, 103, 104, 105, 106, 107, 108, 109, 110, 111, 112, 113, 114, 115, 116, 117, 118, 119, 120] (by decide +kernel) (by decide +kernel)
set_option maxRecDepth 20000 in
theorem gX12_layWalks_X12_places : GoodIn wsX12_layWalks (wsV RX12 378 RX12 yX12_places wsX12_places) := goodIn_app (goodIn_of _ (by decide +kernel)) ggX12_layWalks_X12_places
set_option maxRecDepth 20000 in
theorem ggX12_layWalks_X12_stepOn : GoodIn wsX12_layWalks wsX12_stepOn := goodIn_r _ [30, 31, 1, 4, 5, 6, 7, 8, 9, 10, 32, 33, 34, 35, 36, 37, 38, 39, 40, 41, 42, 43, 44, 45, 46, 47, 48, 49, 50, 51, 52, 53, 54, 55, 56, 57, 58, 59, 60, 61, 62, 63, 64, 65, 66, 67, 68, 69, 70, 71, 72, 73, 74, 75, 76, 77, 78, 79, 80, 81, 82, 83, 84, 85, 86, 87, 88, 89, 90, 91, 92, 93, 94, 95, 96, 97, 98, 99, 100, 101, 102, 103, 104, 105, 106, 107, 108, 109, 110, 111, 112, 113, 114, 115, 116, 117, 118, 119, 120] (by decide +kernel) (by decide +kernel)
set_option maxRecDepth 20000 in
theorem gX12_layWalks_X12_stepOn : GoodIn wsX12_layWalks (wsV RX12 516 RX12 yX12_stepOn wsX12_stepOn) := goodIn_app (goodIn_of _ (by decide +kernel)) ggX12_layWalks_X12_stepOn
theorem iw_X12_mend_X12 : ∀ w ∈ wsX120, w ∈ wsX12_mend := fun _ h => List.mem_cons_of_mem _ (List.mem_append_right _ h)
theorem iw_X12_worthOf_X12 : ∀ w ∈ wsX120, w ∈ wsX12_worthOf := fun _ h => List.mem_cons_of_mem _ (List.mem_append_right _ h)
theorem iw_X12_regret_X12 : ∀ w ∈ wsX120, w ∈ wsX12_regret := fun _ h => List.mem_cons_of_mem _ (List.mem_append_right _ h)
theorem iw_X12_gainOf_X12 : ∀ w ∈ wsX120, w ∈ wsX12_gainOf := fun _ h => List.mem_cons_of_mem _ (List.mem_append_right _ h)
theorem iw_X12_trades_X12 : ∀ w ∈ wsX120, w ∈ wsX12_trades := fun _ h => List.mem_cons_of_mem _ (List.mem_append_right _ h)
theorem iw_X12_wealth_X12 : ∀ w ∈ wsX120, w ∈ wsX12_wealth := fun _ h => List.mem_cons_of_mem _ (List.mem_append_right _ h)
theorem iw_X12_deep_X12 : ∀ w ∈ wsX120, w ∈ wsX12_deep := fun _ h => List.mem_cons_of_mem _ (List.mem_append_right _ h)
theorem iw_X12_openAt_X12 : ∀ w ∈ wsX120, w ∈ wsX12_openAt := fun _ h => List.mem_cons_of_mem _ (List.mem_append_right _ h)
theorem iw_X12_stepOn_X12 : ∀ w ∈ wsX120, w ∈ wsX12_stepOn := fun _ h => List.mem_cons_of_mem _ (List.mem_append_right _ h)
theorem iw_X12_layWalks_X12 : ∀ w ∈ wsX120, w ∈ wsX12_layWalks := fun _ h => List.mem_cons_of_mem _ (List.mem_append_right _ h)
theorem iw_X12_walksBy_X12 : ∀ w ∈ wsX120, w ∈ wsX12_walksBy := fun _ h => List.mem_cons_of_mem _ (List.mem_append_right _ h)
