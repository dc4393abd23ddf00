def wsJ7_fill_53178 : List Cond := .code yJ7_fill_53178 cJ7_fill_53178 4 none :: ([])
def wsX8_put : List Cond := .code yX8_put cX8_put 3 none :: ([.fieldLink RX8 15 "SoldHouse$Tape" "size" "I", .fieldLink RX8 9 "SoldHouse$Tape" "bytes" "[B"] ++ wsX80)
def wsX0_creakingRooms : List Cond := .code yX0_creakingRooms cX0_creakingRooms 4 (some .int) :: ([.fieldLink RX0 21 "SoldHouse$Floor" "plan" "LSoldHouse$Plan;", .fieldLink RX0 43 "SoldHouse$Plan" "rooms" "I", .fieldLink RX0 88 "SoldHouse$Plan" "creaks" "[I"] ++ wsX00 ++ wsX50)
def wsX0_behindDoors : List Cond := .code yX0_behindDoors cX0_behindDoors 4 (some .int) :: ([.fieldLink RX0 21 "SoldHouse$Floor" "plan" "LSoldHouse$Plan;", .fieldLink RX0 43 "SoldHouse$Plan" "rooms" "I", .fieldLink RX0 9 "SoldHouse$Floor" "next" "[I"] ++ wsX00 ++ wsX50)
def wsX0_reach : List Cond := .code yX0_reach cX0_reach 5 (some .int) :: ([.methodLink RX0 57 yX0_behindDoors, .instanceMethod yX0_behindDoors, .selects RX0 yX0_behindDoors yX0_behindDoors, .initialized RX0, .code yX0_behindDoors cX0_behindDoors 4 (some .int), .fieldLink RX0 21 "SoldHouse$Floor" "plan" "LSoldHouse$Plan;", .fieldLink RX0 43 "SoldHouse$Plan" "rooms" "I", .fieldLink RX0 9 "SoldHouse$Floor" "next" "[I"] ++ wsX00 ++ wsX50)
def wsX1_clear : List Cond := .code yX1_clear cX1_clear 1 none :: ([.fieldLink RX1 19 "SoldHouse$Formula" "size" "I", .fieldLink RX1 23 "SoldHouse$Formula" "units" "I", .fieldLink RX1 26 "SoldHouse$Formula" "told" "Z"] ++ wsX10)
def wsX5_clear : List Cond := .code yX5_clear cX5_clear 1 none :: ([.fieldLink RX5 50 "SoldHouse$Plan" "rooms" "I", .fieldLink RX5 54 "SoldHouse$Plan" "doors" "I", .fieldLink RX5 57 "SoldHouse$Plan" "things" "I", .fieldLink RX5 46 "SoldHouse$Plan" "sure" "LSoldHouse$Formula;", .fieldLink RX5 63 "SoldHouse$Plan" "draw" "I", .fieldLink RX5 66 "SoldHouse$Plan" "drawTold" "Z", .methodLink RX5 60 yX1_clear, .instanceMethod yX1_clear, .selects RX1 yX1_clear yX1_clear, .initialized RX1, .code yX1_clear cX1_clear 1 none, .fieldLink RX1 19 "SoldHouse$Formula" "size" "I", .fieldLink RX1 23 "SoldHouse$Formula" "units" "I", .fieldLink RX1 26 "SoldHouse$Formula" "told" "Z"] ++ wsX50 ++ wsX10)
theorem dJ7_fill_53178_0 : decode cJ7_fill_53178 0 = .ok (.iconst 0, 1) := by decide +kernel
theorem dJ7_fill_53178_1 : decode cJ7_fill_53178 1 = .ok (.istore_n 2, 1) := by decide +kernel
theorem dJ7_fill_53178_2 : decode cJ7_fill_53178 2 = .ok (.aload_n 0, 1) := by decide +kernel
theorem dJ7_fill_53178_3 : decode cJ7_fill_53178 3 = .ok (.arraylength, 1) := by decide +kernel
theorem dJ7_fill_53178_4 : decode cJ7_fill_53178 4 = .ok (.istore_n 3, 1) := by decide +kernel
theorem dJ7_fill_53178_5 : decode cJ7_fill_53178 5 = .ok (.iload_n 2, 1) := by decide +kernel
theorem dJ7_fill_53178_6 : decode cJ7_fill_53178 6 = .ok (.iload_n 3, 1) := by decide +kernel
theorem dJ7_fill_53178_7 : decode cJ7_fill_53178 7 = .ok (.if_icmp .ge 13, 3) := by decide +kernel
theorem dJ7_fill_53178_10 : decode cJ7_fill_53178 10 = .ok (.aload_n 0, 1) := by decide +kernel
theorem dJ7_fill_53178_11 : decode cJ7_fill_53178 11 = .ok (.iload_n 2, 1) := by decide +kernel
theorem dJ7_fill_53178_12 : decode cJ7_fill_53178 12 = .ok (.iload_n 1, 1) := by decide +kernel
theorem dJ7_fill_53178_13 : decode cJ7_fill_53178 13 = .ok (.iastore, 1) := by decide +kernel
theorem dJ7_fill_53178_14 : decode cJ7_fill_53178 14 = .ok (.iinc 2 1, 3) := by decide +kernel
theorem dJ7_fill_53178_17 : decode cJ7_fill_53178 17 = .ok (.goto (-12), 3) := by decide +kernel
theorem dJ7_fill_53178_20 : decode cJ7_fill_53178 20 = .ok (.return_, 1) := by decide +kernel
theorem dX8_put_0 : decode cX8_put 0 = .ok (.bipush 24, 2) := by decide +kernel
theorem dX8_put_2 : decode cX8_put 2 = .ok (.istore_n 2, 1) := by decide +kernel
theorem dX8_put_3 : decode cX8_put 3 = .ok (.iload_n 2, 1) := by decide +kernel
theorem dX8_put_4 : decode cX8_put 4 = .ok (.ifCond .lt 42, 3) := by decide +kernel
theorem dX8_put_7 : decode cX8_put 7 = .ok (.aload_n 0, 1) := by decide +kernel
theorem dX8_put_8 : decode cX8_put 8 = .ok (.getfield 15, 3) := by decide +kernel
theorem dX8_put_11 : decode cX8_put 11 = .ok (.sipush 1600, 3) := by decide +kernel
theorem dX8_put_14 : decode cX8_put 14 = .ok (.if_icmp .ge 26, 3) := by decide +kernel
theorem dX8_put_17 : decode cX8_put 17 = .ok (.aload_n 0, 1) := by decide +kernel
theorem dX8_put_18 : decode cX8_put 18 = .ok (.getfield 9, 3) := by decide +kernel
theorem dX8_put_21 : decode cX8_put 21 = .ok (.aload_n 0, 1) := by decide +kernel
theorem dX8_put_22 : decode cX8_put 22 = .ok (.getfield 15, 3) := by decide +kernel
theorem dX8_put_25 : decode cX8_put 25 = .ok (.iload_n 1, 1) := by decide +kernel
theorem dX8_put_26 : decode cX8_put 26 = .ok (.iload_n 2, 1) := by decide +kernel
theorem dX8_put_27 : decode cX8_put 27 = .ok (.ishr, 1) := by decide +kernel
theorem dX8_put_28 : decode cX8_put 28 = .ok (.i2b, 1) := by decide +kernel
theorem dX8_put_29 : decode cX8_put 29 = .ok (.bastore, 1) := by decide +kernel
theorem dX8_put_30 : decode cX8_put 30 = .ok (.aload_n 0, 1) := by decide +kernel
theorem dX8_put_31 : decode cX8_put 31 = .ok (.dup, 1) := by decide +kernel
theorem dX8_put_32 : decode cX8_put 32 = .ok (.getfield 15, 3) := by decide +kernel
theorem dX8_put_35 : decode cX8_put 35 = .ok (.iconst 1, 1) := by decide +kernel
theorem dX8_put_36 : decode cX8_put 36 = .ok (.iadd, 1) := by decide +kernel
theorem dX8_put_37 : decode cX8_put 37 = .ok (.putfield 15, 3) := by decide +kernel
theorem dX8_put_40 : decode cX8_put 40 = .ok (.iinc 2 (-8), 3) := by decide +kernel
theorem dX8_put_43 : decode cX8_put 43 = .ok (.goto (-40), 3) := by decide +kernel
theorem dX8_put_46 : decode cX8_put 46 = .ok (.return_, 1) := by decide +kernel
theorem dX0_creakingRooms_0 : decode cX0_creakingRooms 0 = .ok (.iconst 0, 1) := by decide +kernel
theorem dX0_creakingRooms_1 : decode cX0_creakingRooms 1 = .ok (.istore_n 2, 1) := by decide +kernel
theorem dX0_creakingRooms_2 : decode cX0_creakingRooms 2 = .ok (.iconst 0, 1) := by decide +kernel
theorem dX0_creakingRooms_3 : decode cX0_creakingRooms 3 = .ok (.istore_n 3, 1) := by decide +kernel
theorem dX0_creakingRooms_4 : decode cX0_creakingRooms 4 = .ok (.iload_n 3, 1) := by decide +kernel
theorem dX0_creakingRooms_5 : decode cX0_creakingRooms 5 = .ok (.aload_n 0, 1) := by decide +kernel
theorem dX0_creakingRooms_6 : decode cX0_creakingRooms 6 = .ok (.getfield 21, 3) := by decide +kernel
theorem dX0_creakingRooms_9 : decode cX0_creakingRooms 9 = .ok (.getfield 43, 3) := by decide +kernel
theorem dX0_creakingRooms_12 : decode cX0_creakingRooms 12 = .ok (.if_icmp .ge 28, 3) := by decide +kernel
theorem dX0_creakingRooms_15 : decode cX0_creakingRooms 15 = .ok (.aload_n 0, 1) := by decide +kernel
theorem dX0_creakingRooms_16 : decode cX0_creakingRooms 16 = .ok (.getfield 21, 3) := by decide +kernel
theorem dX0_creakingRooms_19 : decode cX0_creakingRooms 19 = .ok (.getfield 88, 3) := by decide +kernel
theorem dX0_creakingRooms_22 : decode cX0_creakingRooms 22 = .ok (.iload_n 3, 1) := by decide +kernel
theorem dX0_creakingRooms_23 : decode cX0_creakingRooms 23 = .ok (.iaload, 1) := by decide +kernel
theorem dX0_creakingRooms_24 : decode cX0_creakingRooms 24 = .ok (.iload_n 1, 1) := by decide +kernel
theorem dX0_creakingRooms_25 : decode cX0_creakingRooms 25 = .ok (.if_icmp .lt 9, 3) := by decide +kernel
theorem dX0_creakingRooms_28 : decode cX0_creakingRooms 28 = .ok (.iload_n 2, 1) := by decide +kernel
theorem dX0_creakingRooms_29 : decode cX0_creakingRooms 29 = .ok (.iconst 1, 1) := by decide +kernel
theorem dX0_creakingRooms_30 : decode cX0_creakingRooms 30 = .ok (.iload_n 3, 1) := by decide +kernel
theorem dX0_creakingRooms_31 : decode cX0_creakingRooms 31 = .ok (.ishl, 1) := by decide +kernel
theorem dX0_creakingRooms_32 : decode cX0_creakingRooms 32 = .ok (.ior, 1) := by decide +kernel
theorem dX0_creakingRooms_33 : decode cX0_creakingRooms 33 = .ok (.istore_n 2, 1) := by decide +kernel
theorem dX0_creakingRooms_34 : decode cX0_creakingRooms 34 = .ok (.iinc 3 1, 3) := by decide +kernel
theorem dX0_creakingRooms_37 : decode cX0_creakingRooms 37 = .ok (.goto (-33), 3) := by decide +kernel
theorem dX0_creakingRooms_40 : decode cX0_creakingRooms 40 = .ok (.iload_n 2, 1) := by decide +kernel
theorem dX0_creakingRooms_41 : decode cX0_creakingRooms 41 = .ok (.ireturn, 1) := by decide +kernel
theorem dX0_behindDoors_0 : decode cX0_behindDoors 0 = .ok (.iconst 0, 1) := by decide +kernel
theorem dX0_behindDoors_1 : decode cX0_behindDoors 1 = .ok (.istore_n 2, 1) := by decide +kernel
theorem dX0_behindDoors_2 : decode cX0_behindDoors 2 = .ok (.iconst 0, 1) := by decide +kernel
theorem dX0_behindDoors_3 : decode cX0_behindDoors 3 = .ok (.istore_n 3, 1) := by decide +kernel
theorem dX0_behindDoors_4 : decode cX0_behindDoors 4 = .ok (.iload_n 3, 1) := by decide +kernel
theorem dX0_behindDoors_5 : decode cX0_behindDoors 5 = .ok (.aload_n 0, 1) := by decide +kernel
theorem dX0_behindDoors_6 : decode cX0_behindDoors 6 = .ok (.getfield 21, 3) := by decide +kernel
theorem dX0_behindDoors_9 : decode cX0_behindDoors 9 = .ok (.getfield 43, 3) := by decide +kernel
theorem dX0_behindDoors_12 : decode cX0_behindDoors 12 = .ok (.if_icmp .ge 27, 3) := by decide +kernel
theorem dX0_behindDoors_15 : decode cX0_behindDoors 15 = .ok (.iload_n 1, 1) := by decide +kernel
theorem dX0_behindDoors_16 : decode cX0_behindDoors 16 = .ok (.iload_n 3, 1) := by decide +kernel
theorem dX0_behindDoors_17 : decode cX0_behindDoors 17 = .ok (.ishr, 1) := by decide +kernel
theorem dX0_behindDoors_18 : decode cX0_behindDoors 18 = .ok (.iconst 1, 1) := by decide +kernel
theorem dX0_behindDoors_19 : decode cX0_behindDoors 19 = .ok (.iand, 1) := by decide +kernel
theorem dX0_behindDoors_20 : decode cX0_behindDoors 20 = .ok (.iconst 1, 1) := by decide +kernel
theorem dX0_behindDoors_21 : decode cX0_behindDoors 21 = .ok (.if_icmp .ne 12, 3) := by decide +kernel
theorem dX0_behindDoors_24 : decode cX0_behindDoors 24 = .ok (.iload_n 2, 1) := by decide +kernel
theorem dX0_behindDoors_25 : decode cX0_behindDoors 25 = .ok (.aload_n 0, 1) := by decide +kernel
theorem dX0_behindDoors_26 : decode cX0_behindDoors 26 = .ok (.getfield 9, 3) := by decide +kernel
theorem dX0_behindDoors_29 : decode cX0_behindDoors 29 = .ok (.iload_n 3, 1) := by decide +kernel
theorem dX0_behindDoors_30 : decode cX0_behindDoors 30 = .ok (.iaload, 1) := by decide +kernel
theorem dX0_behindDoors_31 : decode cX0_behindDoors 31 = .ok (.ior, 1) := by decide +kernel
theorem dX0_behindDoors_32 : decode cX0_behindDoors 32 = .ok (.istore_n 2, 1) := by decide +kernel
theorem dX0_behindDoors_33 : decode cX0_behindDoors 33 = .ok (.iinc 3 1, 3) := by decide +kernel
theorem dX0_behindDoors_36 : decode cX0_behindDoors 36 = .ok (.goto (-32), 3) := by decide +kernel
theorem dX0_behindDoors_39 : decode cX0_behindDoors 39 = .ok (.iload_n 2, 1) := by decide +kernel
theorem dX0_behindDoors_40 : decode cX0_behindDoors 40 = .ok (.ireturn, 1) := by decide +kernel
theorem dX0_reach_0 : decode cX0_reach 0 = .ok (.iconst 1, 1) := by decide +kernel
theorem dX0_reach_1 : decode cX0_reach 1 = .ok (.iload_n 1, 1) := by decide +kernel
theorem dX0_reach_2 : decode cX0_reach 2 = .ok (.ishl, 1) := by decide +kernel
theorem dX0_reach_3 : decode cX0_reach 3 = .ok (.istore_n 3, 1) := by decide +kernel
theorem dX0_reach_4 : decode cX0_reach 4 = .ok (.iconst 0, 1) := by decide +kernel
theorem dX0_reach_5 : decode cX0_reach 5 = .ok (.istore 4, 2) := by decide +kernel
theorem dX0_reach_7 : decode cX0_reach 7 = .ok (.iload 4, 2) := by decide +kernel
theorem dX0_reach_9 : decode cX0_reach 9 = .ok (.bipush 8, 2) := by decide +kernel
theorem dX0_reach_11 : decode cX0_reach 11 = .ok (.if_icmp .ge 19, 3) := by decide +kernel
theorem dX0_reach_14 : decode cX0_reach 14 = .ok (.iload_n 3, 1) := by decide +kernel
theorem dX0_reach_15 : decode cX0_reach 15 = .ok (.aload_n 0, 1) := by decide +kernel
theorem dX0_reach_16 : decode cX0_reach 16 = .ok (.iload_n 3, 1) := by decide +kernel
theorem dX0_reach_17 : decode cX0_reach 17 = .ok (.invokevirtual 57, 3) := by decide +kernel
theorem dX0_reach_20 : decode cX0_reach 20 = .ok (.iload_n 2, 1) := by decide +kernel
theorem dX0_reach_21 : decode cX0_reach 21 = .ok (.iand, 1) := by decide +kernel
theorem dX0_reach_22 : decode cX0_reach 22 = .ok (.ior, 1) := by decide +kernel
theorem dX0_reach_23 : decode cX0_reach 23 = .ok (.istore_n 3, 1) := by decide +kernel
theorem dX0_reach_24 : decode cX0_reach 24 = .ok (.iinc 4 1, 3) := by decide +kernel
theorem dX0_reach_27 : decode cX0_reach 27 = .ok (.goto (-20), 3) := by decide +kernel
theorem dX0_reach_30 : decode cX0_reach 30 = .ok (.iload_n 3, 1) := by decide +kernel
theorem dX0_reach_31 : decode cX0_reach 31 = .ok (.ireturn, 1) := by decide +kernel
theorem dX1_clear_0 : decode cX1_clear 0 = .ok (.aload_n 0, 1) := by decide +kernel
theorem dX1_clear_1 : decode cX1_clear 1 = .ok (.iconst 0, 1) := by decide +kernel
theorem dX1_clear_2 : decode cX1_clear 2 = .ok (.putfield 19, 3) := by decide +kernel
theorem dX1_clear_5 : decode cX1_clear 5 = .ok (.aload_n 0, 1) := by decide +kernel
theorem dX1_clear_6 : decode cX1_clear 6 = .ok (.iconst 0, 1) := by decide +kernel
theorem dX1_clear_7 : decode cX1_clear 7 = .ok (.putfield 23, 3) := by decide +kernel
theorem dX1_clear_10 : decode cX1_clear 10 = .ok (.aload_n 0, 1) := by decide +kernel
theorem dX1_clear_11 : decode cX1_clear 11 = .ok (.iconst 0, 1) := by decide +kernel
theorem dX1_clear_12 : decode cX1_clear 12 = .ok (.putfield 26, 3) := by decide +kernel
theorem dX1_clear_15 : decode cX1_clear 15 = .ok (.return_, 1) := by decide +kernel
theorem dX5_clear_0 : decode cX5_clear 0 = .ok (.aload_n 0, 1) := by decide +kernel
theorem dX5_clear_1 : decode cX5_clear 1 = .ok (.iconst 0, 1) := by decide +kernel
theorem dX5_clear_2 : decode cX5_clear 2 = .ok (.putfield 50, 3) := by decide +kernel
theorem dX5_clear_5 : decode cX5_clear 5 = .ok (.aload_n 0, 1) := by decide +kernel
theorem dX5_clear_6 : decode cX5_clear 6 = .ok (.iconst 0, 1) := by decide +kernel
theorem dX5_clear_7 : decode cX5_clear 7 = .ok (.putfield 54, 3) := by decide +kernel
theorem dX5_clear_10 : decode cX5_clear 10 = .ok (.aload_n 0, 1) := by decide +kernel
theorem dX5_clear_11 : decode cX5_clear 11 = .ok (.iconst 0, 1) := by decide +kernel
theorem dX5_clear_12 : decode cX5_clear 12 = .ok (.putfield 57, 3) := by decide +kernel
theorem dX5_clear_15 : decode cX5_clear 15 = .ok (.aload_n 0, 1) := by decide +kernel
theorem dX5_clear_16 : decode cX5_clear 16 = .ok (.getfield 46, 3) := by decide +kernel
theorem dX5_clear_19 : decode cX5_clear 19 = .ok (.invokevirtual 60, 3) := by decide +kernel
theorem dX5_clear_22 : decode cX5_clear 22 = .ok (.aload_n 0, 1) := by decide +kernel
theorem dX5_clear_23 : decode cX5_clear 23 = .ok (.iconst 0, 1) := by decide +kernel
theorem dX5_clear_24 : decode cX5_clear 24 = .ok (.putfield 63, 3) := by decide +kernel
theorem dX5_clear_27 : decode cX5_clear 27 = .ok (.aload_n 0, 1) := by decide +kernel
theorem dX5_clear_28 : decode cX5_clear 28 = .ok (.iconst 0, 1) := by decide +kernel
theorem dX5_clear_29 : decode cX5_clear 29 = .ok (.putfield 66, 3) := by decide +kernel
theorem dX5_clear_32 : decode cX5_clear 32 = .ok (.return_, 1) := by decide +kernel
set_option maxRecDepth 20000 in
theorem ggX0_reach_X0_behindDoors : GoodIn wsX0_reach wsX0_behindDoors := goodIn_r _ [5, 6, 7, 8, 9, 10, 11, 12, 13, 14, 15, 16, 17, 18, 19, 20, 21, 22, 23, 24, 25, 26, 27, 28, 29] (by decide +kernel) (by decide +kernel)
set_option maxRecDepth 20000 in
theorem gX0_reach_X0_behindDoors : GoodIn wsX0_reach (wsV RX0 57 RX0 yX0_behindDoors wsX0_behindDoors) := goodIn_app (goodIn_of _ (by decide +kernel)) ggX0_reach_X0_behindDoors
set_option maxRecDepth 20000 in
theorem ggX5_clear_X1_clear : GoodIn wsX5_clear wsX1_clear := goodIn_r _ [11, 12, 13, 14, 31, 32, 33, 34, 35, 36] (by decide +kernel) (by decide +kernel)
set_option maxRecDepth 20000 in
theorem gX5_clear_X1_clear : GoodIn wsX5_clear (wsV RX5 60 RX1 yX1_clear wsX1_clear) := goodIn_app (goodIn_of _ (by decide +kernel)) ggX5_clear_X1_clear
theorem iw_X8_put_X8 : ∀ w ∈ wsX80, w ∈ wsX8_put := fun _ h => List.mem_cons_of_mem _ (List.mem_append_right _ h)
theorem iw_X0_creakingRooms_X0 : ∀ w ∈ wsX00, w ∈ wsX0_creakingRooms := fun _ h => List.mem_cons_of_mem _ (List.mem_append_left _ (List.mem_append_right _ h))
theorem iw_X0_creakingRooms_X5 : ∀ w ∈ wsX50, w ∈ wsX0_creakingRooms := fun _ h => List.mem_cons_of_mem _ (List.mem_append_right _ h)
theorem iw_X0_behindDoors_X0 : ∀ w ∈ wsX00, w ∈ wsX0_behindDoors := fun _ h => List.mem_cons_of_mem _ (List.mem_append_left _ (List.mem_append_right _ h))
theorem iw_X0_behindDoors_X5 : ∀ w ∈ wsX50, w ∈ wsX0_behindDoors := fun _ h => List.mem_cons_of_mem _ (List.mem_append_right _ h)
theorem iw_X1_clear_X1 : ∀ w ∈ wsX10, w ∈ wsX1_clear := fun _ h => List.mem_cons_of_mem _ (List.mem_append_right _ h)
theorem iw_X5_clear_X5 : ∀ w ∈ wsX50, w ∈ wsX5_clear := fun _ h => List.mem_cons_of_mem _ (List.mem_append_left _ (List.mem_append_right _ h))
