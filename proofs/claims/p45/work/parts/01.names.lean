-- ===== PART A: goes FIRST, ahead of the names: the tables' words, and 'selects' of the private methods out of them =====
/-- a private method of a class that the tables say can be made, by its rows of tables_1 -/
def lw_okq (q : MethodName × Nat) : Prop := (q.1.cls ≠ "java/lang/invoke/MethodHandle" ∧ q.1.cls ≠ "java/lang/invoke/VarHandle") ∧ Cond.instantiable q.1.cls q.2 ∈ tables_1 ∧ Cond.privateMethod q.1 ∈ tables_1 ∧ Cond.instanceMethod q.1 ∈ tables_1
theorem lw_p0 : lw_okq (⟨"SoldHouse", "takeUp", "()V"⟩, 10) := ⟨⟨by decide +kernel, by decide +kernel⟩, List.mem_of_getElem? (i := 24) (by decide +kernel), List.mem_of_getElem? (i := 449) (by decide +kernel), List.mem_of_getElem? (i := 450) (by decide +kernel)⟩
theorem lw_p1 : lw_okq (⟨"SoldHouse$Floor", "measureFrom", "(I)V"⟩, 5) := ⟨⟨by decide +kernel, by decide +kernel⟩, List.mem_of_getElem? (i := 287) (by decide +kernel), List.mem_of_getElem? (i := 460) (by decide +kernel), List.mem_of_getElem? (i := 461) (by decide +kernel)⟩
theorem lw_p2 : lw_okq (⟨"SoldHouse$Floor", "behindDoors", "(I)I"⟩, 5) := ⟨⟨by decide +kernel, by decide +kernel⟩, List.mem_of_getElem? (i := 287) (by decide +kernel), List.mem_of_getElem? (i := 464) (by decide +kernel), List.mem_of_getElem? (i := 465) (by decide +kernel)⟩
theorem lw_p3 : lw_okq (⟨"SoldHouse$Floor", "nearSide", "(I)I"⟩, 5) := ⟨⟨by decide +kernel, by decide +kernel⟩, List.mem_of_getElem? (i := 287) (by decide +kernel), List.mem_of_getElem? (i := 468) (by decide +kernel), List.mem_of_getElem? (i := 469) (by decide +kernel)⟩
theorem lw_p4 : lw_okq (⟨"SoldHouse$Memory", "forgetActs", "()V"⟩, 9) := ⟨⟨by decide +kernel, by decide +kernel⟩, List.mem_of_getElem? (i := 358) (by decide +kernel), List.mem_of_getElem? (i := 484) (by decide +kernel), List.mem_of_getElem? (i := 485) (by decide +kernel)⟩
theorem lw_p5 : lw_okq (⟨"SoldHouse$Tokens", "readWord", "()V"⟩, 7) := ⟨⟨by decide +kernel, by decide +kernel⟩, List.mem_of_getElem? (i := 187) (by decide +kernel), List.mem_of_getElem? (i := 564) (by decide +kernel), List.mem_of_getElem? (i := 565) (by decide +kernel)⟩
theorem lw_p6 : lw_okq (⟨"SoldHouse$Tokens", "numberOfOwn", "()I"⟩, 7) := ⟨⟨by decide +kernel, by decide +kernel⟩, List.mem_of_getElem? (i := 187) (by decide +kernel), List.mem_of_getElem? (i := 568) (by decide +kernel), List.mem_of_getElem? (i := 569) (by decide +kernel)⟩
theorem lw_p7 : lw_okq (⟨"SoldHouse$Tokens", "readNumber", "()V"⟩, 7) := ⟨⟨by decide +kernel, by decide +kernel⟩, List.mem_of_getElem? (i := 187) (by decide +kernel), List.mem_of_getElem? (i := 575) (by decide +kernel), List.mem_of_getElem? (i := 576) (by decide +kernel)⟩
theorem lw_p8 : lw_okq (⟨"SoldHouse$Tokens", "readSign", "()V"⟩, 7) := ⟨⟨by decide +kernel, by decide +kernel⟩, List.mem_of_getElem? (i := 187) (by decide +kernel), List.mem_of_getElem? (i := 579) (by decide +kernel), List.mem_of_getElem? (i := 580) (by decide +kernel)⟩
theorem lw_p9 : lw_okq (⟨"SoldHouse$Reader", "readRoom", "()Z"⟩, 4) := ⟨⟨by decide +kernel, by decide +kernel⟩, List.mem_of_getElem? (i := 181) (by decide +kernel), List.mem_of_getElem? (i := 643) (by decide +kernel), List.mem_of_getElem? (i := 644) (by decide +kernel)⟩
theorem lw_p10 : lw_okq (⟨"SoldHouse$Reader", "refuse", "(I)Z"⟩, 4) := ⟨⟨by decide +kernel, by decide +kernel⟩, List.mem_of_getElem? (i := 181) (by decide +kernel), List.mem_of_getElem? (i := 647) (by decide +kernel), List.mem_of_getElem? (i := 648) (by decide +kernel)⟩
theorem lw_p11 : lw_okq (⟨"SoldHouse$Reader", "readNumberBehind", "(II)I"⟩, 4) := ⟨⟨by decide +kernel, by decide +kernel⟩, List.mem_of_getElem? (i := 181) (by decide +kernel), List.mem_of_getElem? (i := 660) (by decide +kernel), List.mem_of_getElem? (i := 661) (by decide +kernel)⟩
theorem lw_p12 : lw_okq (⟨"SoldHouse$Reader", "readDoor", "()Z"⟩, 4) := ⟨⟨by decide +kernel, by decide +kernel⟩, List.mem_of_getElem? (i := 181) (by decide +kernel), List.mem_of_getElem? (i := 668) (by decide +kernel), List.mem_of_getElem? (i := 669) (by decide +kernel)⟩
theorem lw_p13 : lw_okq (⟨"SoldHouse$Reader", "knownRoom", "()I"⟩, 4) := ⟨⟨by decide +kernel, by decide +kernel⟩, List.mem_of_getElem? (i := 181) (by decide +kernel), List.mem_of_getElem? (i := 672) (by decide +kernel), List.mem_of_getElem? (i := 673) (by decide +kernel)⟩
theorem lw_p14 : lw_okq (⟨"SoldHouse$Reader", "readThing", "()Z"⟩, 4) := ⟨⟨by decide +kernel, by decide +kernel⟩, List.mem_of_getElem? (i := 181) (by decide +kernel), List.mem_of_getElem? (i := 684) (by decide +kernel), List.mem_of_getElem? (i := 685) (by decide +kernel)⟩
theorem lw_p15 : lw_okq (⟨"SoldHouse$Reader", "readPlaces", "(I)Z"⟩, 4) := ⟨⟨by decide +kernel, by decide +kernel⟩, List.mem_of_getElem? (i := 181) (by decide +kernel), List.mem_of_getElem? (i := 692) (by decide +kernel), List.mem_of_getElem? (i := 693) (by decide +kernel)⟩
def lw_privs_1 : List (MethodName × Nat) := [(⟨"SoldHouse", "takeUp", "()V"⟩, 10), (⟨"SoldHouse$Floor", "measureFrom", "(I)V"⟩, 5), (⟨"SoldHouse$Floor", "behindDoors", "(I)I"⟩, 5), (⟨"SoldHouse$Floor", "nearSide", "(I)I"⟩, 5), (⟨"SoldHouse$Memory", "forgetActs", "()V"⟩, 9), (⟨"SoldHouse$Tokens", "readWord", "()V"⟩, 7), (⟨"SoldHouse$Tokens", "numberOfOwn", "()I"⟩, 7), (⟨"SoldHouse$Tokens", "readNumber", "()V"⟩, 7), (⟨"SoldHouse$Tokens", "readSign", "()V"⟩, 7), (⟨"SoldHouse$Reader", "readRoom", "()Z"⟩, 4), (⟨"SoldHouse$Reader", "refuse", "(I)Z"⟩, 4), (⟨"SoldHouse$Reader", "readNumberBehind", "(II)I"⟩, 4), (⟨"SoldHouse$Reader", "readDoor", "()Z"⟩, 4), (⟨"SoldHouse$Reader", "knownRoom", "()I"⟩, 4), (⟨"SoldHouse$Reader", "readThing", "()Z"⟩, 4), (⟨"SoldHouse$Reader", "readPlaces", "(I)Z"⟩, 4)]
theorem lw_r1 : ∀ q ∈ lw_privs_1, lw_okq q := List.forall_mem_cons.mpr ⟨lw_p0, List.forall_mem_cons.mpr ⟨lw_p1, List.forall_mem_cons.mpr ⟨lw_p2, List.forall_mem_cons.mpr ⟨lw_p3, List.forall_mem_cons.mpr ⟨lw_p4, List.forall_mem_cons.mpr ⟨lw_p5, List.forall_mem_cons.mpr ⟨lw_p6, List.forall_mem_cons.mpr ⟨lw_p7, List.forall_mem_cons.mpr ⟨lw_p8, List.forall_mem_cons.mpr ⟨lw_p9, List.forall_mem_cons.mpr ⟨lw_p10, List.forall_mem_cons.mpr ⟨lw_p11, List.forall_mem_cons.mpr ⟨lw_p12, List.forall_mem_cons.mpr ⟨lw_p13, List.forall_mem_cons.mpr ⟨lw_p14, List.forall_mem_cons.mpr ⟨lw_p15, fun _ h => absurd h List.not_mem_nil⟩⟩⟩⟩⟩⟩⟩⟩⟩⟩⟩⟩⟩⟩⟩⟩
theorem lw_p16 : lw_okq (⟨"SoldHouse$Reader", "readWorths", "(I)Z"⟩, 4) := ⟨⟨by decide +kernel, by decide +kernel⟩, List.mem_of_getElem? (i := 181) (by decide +kernel), List.mem_of_getElem? (i := 696) (by decide +kernel), List.mem_of_getElem? (i := 697) (by decide +kernel)⟩
theorem lw_p17 : lw_okq (⟨"SoldHouse$Reader", "readSure", "()Z"⟩, 4) := ⟨⟨by decide +kernel, by decide +kernel⟩, List.mem_of_getElem? (i := 181) (by decide +kernel), List.mem_of_getElem? (i := 700) (by decide +kernel), List.mem_of_getElem? (i := 701) (by decide +kernel)⟩
theorem lw_p18 : lw_okq (⟨"SoldHouse$Reader", "readEither", "(I)Z"⟩, 4) := ⟨⟨by decide +kernel, by decide +kernel⟩, List.mem_of_getElem? (i := 181) (by decide +kernel), List.mem_of_getElem? (i := 704) (by decide +kernel), List.mem_of_getElem? (i := 705) (by decide +kernel)⟩
theorem lw_p19 : lw_okq (⟨"SoldHouse$Reader", "readBoth", "(I)Z"⟩, 4) := ⟨⟨by decide +kernel, by decide +kernel⟩, List.mem_of_getElem? (i := 181) (by decide +kernel), List.mem_of_getElem? (i := 708) (by decide +kernel), List.mem_of_getElem? (i := 709) (by decide +kernel)⟩
theorem lw_p20 : lw_okq (⟨"SoldHouse$Reader", "readOne", "(I)Z"⟩, 4) := ⟨⟨by decide +kernel, by decide +kernel⟩, List.mem_of_getElem? (i := 181) (by decide +kernel), List.mem_of_getElem? (i := 712) (by decide +kernel), List.mem_of_getElem? (i := 713) (by decide +kernel)⟩
theorem lw_p21 : lw_okq (⟨"SoldHouse$Reader", "readRelation", "(I)Z"⟩, 4) := ⟨⟨by decide +kernel, by decide +kernel⟩, List.mem_of_getElem? (i := 181) (by decide +kernel), List.mem_of_getElem? (i := 716) (by decide +kernel), List.mem_of_getElem? (i := 717) (by decide +kernel)⟩
theorem lw_p22 : lw_okq (⟨"SoldHouse$Reader", "readSum", "(I)Z"⟩, 4) := ⟨⟨by decide +kernel, by decide +kernel⟩, List.mem_of_getElem? (i := 181) (by decide +kernel), List.mem_of_getElem? (i := 720) (by decide +kernel), List.mem_of_getElem? (i := 721) (by decide +kernel)⟩
theorem lw_p23 : lw_okq (⟨"SoldHouse$Reader", "readTerm", "(I)Z"⟩, 4) := ⟨⟨by decide +kernel, by decide +kernel⟩, List.mem_of_getElem? (i := 181) (by decide +kernel), List.mem_of_getElem? (i := 724) (by decide +kernel), List.mem_of_getElem? (i := 725) (by decide +kernel)⟩
theorem lw_p24 : lw_okq (⟨"SoldHouse$Reader", "readUnit", "(I)Z"⟩, 4) := ⟨⟨by decide +kernel, by decide +kernel⟩, List.mem_of_getElem? (i := 181) (by decide +kernel), List.mem_of_getElem? (i := 728) (by decide +kernel), List.mem_of_getElem? (i := 729) (by decide +kernel)⟩
theorem lw_p25 : lw_okq (⟨"SoldHouse$Reader", "readInner", "(I)Z"⟩, 4) := ⟨⟨by decide +kernel, by decide +kernel⟩, List.mem_of_getElem? (i := 181) (by decide +kernel), List.mem_of_getElem? (i := 736) (by decide +kernel), List.mem_of_getElem? (i := 737) (by decide +kernel)⟩
theorem lw_p26 : lw_okq (⟨"SoldHouse$Reader", "readSign", "(C)Z"⟩, 4) := ⟨⟨by decide +kernel, by decide +kernel⟩, List.mem_of_getElem? (i := 181) (by decide +kernel), List.mem_of_getElem? (i := 740) (by decide +kernel), List.mem_of_getElem? (i := 741) (by decide +kernel)⟩
theorem lw_p27 : lw_okq (⟨"SoldHouse$Reader", "knownValue", "()I"⟩, 4) := ⟨⟨by decide +kernel, by decide +kernel⟩, List.mem_of_getElem? (i := 181) (by decide +kernel), List.mem_of_getElem? (i := 744) (by decide +kernel), List.mem_of_getElem? (i := 745) (by decide +kernel)⟩
theorem lw_p28 : lw_okq (⟨"SoldHouse$Reader", "product", "()I"⟩, 4) := ⟨⟨by decide +kernel, by decide +kernel⟩, List.mem_of_getElem? (i := 181) (by decide +kernel), List.mem_of_getElem? (i := 752) (by decide +kernel), List.mem_of_getElem? (i := 753) (by decide +kernel)⟩
theorem lw_p29 : lw_okq (⟨"SoldHouse$Reader", "relation", "()I"⟩, 4) := ⟨⟨by decide +kernel, by decide +kernel⟩, List.mem_of_getElem? (i := 181) (by decide +kernel), List.mem_of_getElem? (i := 756) (by decide +kernel), List.mem_of_getElem? (i := 757) (by decide +kernel)⟩
theorem lw_p30 : lw_okq (⟨"SoldHouse$Reader", "readDraw", "()Z"⟩, 4) := ⟨⟨by decide +kernel, by decide +kernel⟩, List.mem_of_getElem? (i := 181) (by decide +kernel), List.mem_of_getElem? (i := 760) (by decide +kernel), List.mem_of_getElem? (i := 761) (by decide +kernel)⟩
theorem lw_p31 : lw_okq (⟨"SoldHouse", "isRoom", "(I)Z"⟩, 10) := ⟨⟨by decide +kernel, by decide +kernel⟩, List.mem_of_getElem? (i := 24) (by decide +kernel), List.mem_of_getElem? (i := 772) (by decide +kernel), List.mem_of_getElem? (i := 773) (by decide +kernel)⟩
def lw_privs_2 : List (MethodName × Nat) := [(⟨"SoldHouse$Reader", "readWorths", "(I)Z"⟩, 4), (⟨"SoldHouse$Reader", "readSure", "()Z"⟩, 4), (⟨"SoldHouse$Reader", "readEither", "(I)Z"⟩, 4), (⟨"SoldHouse$Reader", "readBoth", "(I)Z"⟩, 4), (⟨"SoldHouse$Reader", "readOne", "(I)Z"⟩, 4), (⟨"SoldHouse$Reader", "readRelation", "(I)Z"⟩, 4), (⟨"SoldHouse$Reader", "readSum", "(I)Z"⟩, 4), (⟨"SoldHouse$Reader", "readTerm", "(I)Z"⟩, 4), (⟨"SoldHouse$Reader", "readUnit", "(I)Z"⟩, 4), (⟨"SoldHouse$Reader", "readInner", "(I)Z"⟩, 4), (⟨"SoldHouse$Reader", "readSign", "(C)Z"⟩, 4), (⟨"SoldHouse$Reader", "knownValue", "()I"⟩, 4), (⟨"SoldHouse$Reader", "product", "()I"⟩, 4), (⟨"SoldHouse$Reader", "relation", "()I"⟩, 4), (⟨"SoldHouse$Reader", "readDraw", "()Z"⟩, 4), (⟨"SoldHouse", "isRoom", "(I)Z"⟩, 10)]
theorem lw_r2 : ∀ q ∈ lw_privs_2, lw_okq q := List.forall_mem_cons.mpr ⟨lw_p16, List.forall_mem_cons.mpr ⟨lw_p17, List.forall_mem_cons.mpr ⟨lw_p18, List.forall_mem_cons.mpr ⟨lw_p19, List.forall_mem_cons.mpr ⟨lw_p20, List.forall_mem_cons.mpr ⟨lw_p21, List.forall_mem_cons.mpr ⟨lw_p22, List.forall_mem_cons.mpr ⟨lw_p23, List.forall_mem_cons.mpr ⟨lw_p24, List.forall_mem_cons.mpr ⟨lw_p25, List.forall_mem_cons.mpr ⟨lw_p26, List.forall_mem_cons.mpr ⟨lw_p27, List.forall_mem_cons.mpr ⟨lw_p28, List.forall_mem_cons.mpr ⟨lw_p29, List.forall_mem_cons.mpr ⟨lw_p30, List.forall_mem_cons.mpr ⟨lw_p31, fun _ h => absurd h List.not_mem_nil⟩⟩⟩⟩⟩⟩⟩⟩⟩⟩⟩⟩⟩⟩⟩⟩
theorem lw_p32 : lw_okq (⟨"SoldHouse", "isThing", "(I)Z"⟩, 10) := ⟨⟨by decide +kernel, by decide +kernel⟩, List.mem_of_getElem? (i := 24) (by decide +kernel), List.mem_of_getElem? (i := 784) (by decide +kernel), List.mem_of_getElem? (i := 785) (by decide +kernel)⟩
theorem lw_p33 : lw_okq (⟨"SoldHouse", "isDoor", "(I)Z"⟩, 10) := ⟨⟨by decide +kernel, by decide +kernel⟩, List.mem_of_getElem? (i := 24) (by decide +kernel), List.mem_of_getElem? (i := 817) (by decide +kernel), List.mem_of_getElem? (i := 818) (by decide +kernel)⟩
theorem lw_p34 : lw_okq (⟨"SoldHouse$Routes", "lay", "(I)V"⟩, 5) := ⟨⟨by decide +kernel, by decide +kernel⟩, List.mem_of_getElem? (i := 321) (by decide +kernel), List.mem_of_getElem? (i := 893) (by decide +kernel), List.mem_of_getElem? (i := 894) (by decide +kernel)⟩
theorem lw_p35 : lw_okq (⟨"SoldHouse$Routes", "nextOnWay", "(III)I"⟩, 5) := ⟨⟨by decide +kernel, by decide +kernel⟩, List.mem_of_getElem? (i := 321) (by decide +kernel), List.mem_of_getElem? (i := 897) (by decide +kernel), List.mem_of_getElem? (i := 898) (by decide +kernel)⟩
theorem lw_p36 : lw_okq (⟨"SoldHouse$Routes", "costTo", "(I)V"⟩, 5) := ⟨⟨by decide +kernel, by decide +kernel⟩, List.mem_of_getElem? (i := 321) (by decide +kernel), List.mem_of_getElem? (i := 909) (by decide +kernel), List.mem_of_getElem? (i := 910) (by decide +kernel)⟩
theorem lw_p37 : lw_okq (⟨"SoldHouse$Routes", "nextOnQuiet", "(I)I"⟩, 5) := ⟨⟨by decide +kernel, by decide +kernel⟩, List.mem_of_getElem? (i := 321) (by decide +kernel), List.mem_of_getElem? (i := 915) (by decide +kernel), List.mem_of_getElem? (i := 916) (by decide +kernel)⟩
theorem lw_p38 : lw_okq (⟨"SoldHouse$Routes", "costBy", "(II)I"⟩, 5) := ⟨⟨by decide +kernel, by decide +kernel⟩, List.mem_of_getElem? (i := 321) (by decide +kernel), List.mem_of_getElem? (i := 919) (by decide +kernel), List.mem_of_getElem? (i := 920) (by decide +kernel)⟩
theorem lw_p39 : lw_okq (⟨"SoldHouse$Routes", "waysInto", "(II)I"⟩, 5) := ⟨⟨by decide +kernel, by decide +kernel⟩, List.mem_of_getElem? (i := 321) (by decide +kernel), List.mem_of_getElem? (i := 932) (by decide +kernel), List.mem_of_getElem? (i := 933) (by decide +kernel)⟩
theorem lw_p40 : lw_okq (⟨"SoldHouse", "areRooms", "(I)Z"⟩, 10) := ⟨⟨by decide +kernel, by decide +kernel⟩, List.mem_of_getElem? (i := 24) (by decide +kernel), List.mem_of_getElem? (i := 952) (by decide +kernel), List.mem_of_getElem? (i := 953) (by decide +kernel)⟩
theorem lw_p41 : lw_okq (⟨"SoldHouse$Hunter", "bestDoor", "(I)I"⟩, 2) := ⟨⟨by decide +kernel, by decide +kernel⟩, List.mem_of_getElem? (i := 345) (by decide +kernel), List.mem_of_getElem? (i := 960) (by decide +kernel), List.mem_of_getElem? (i := 961) (by decide +kernel)⟩
theorem lw_p42 : lw_okq (⟨"SoldHouse$Hunter", "asksBy", "(II)I"⟩, 2) := ⟨⟨by decide +kernel, by decide +kernel⟩, List.mem_of_getElem? (i := 345) (by decide +kernel), List.mem_of_getElem? (i := 964) (by decide +kernel), List.mem_of_getElem? (i := 965) (by decide +kernel)⟩
theorem lw_p43 : lw_okq (⟨"SoldHouse$Routes", "measureTours", "(II)V"⟩, 5) := ⟨⟨by decide +kernel, by decide +kernel⟩, List.mem_of_getElem? (i := 321) (by decide +kernel), List.mem_of_getElem? (i := 1019) (by decide +kernel), List.mem_of_getElem? (i := 1020) (by decide +kernel)⟩
theorem lw_p44 : lw_okq (⟨"SoldHouse$Routes", "nextOnTour", "(II)I"⟩, 5) := ⟨⟨by decide +kernel, by decide +kernel⟩, List.mem_of_getElem? (i := 321) (by decide +kernel), List.mem_of_getElem? (i := 1023) (by decide +kernel), List.mem_of_getElem? (i := 1024) (by decide +kernel)⟩
theorem lw_p45 : lw_okq (⟨"SoldHouse$Routes", "tourBy", "(III)I"⟩, 5) := ⟨⟨by decide +kernel, by decide +kernel⟩, List.mem_of_getElem? (i := 321) (by decide +kernel), List.mem_of_getElem? (i := 1027) (by decide +kernel), List.mem_of_getElem? (i := 1028) (by decide +kernel)⟩
theorem lw_p46 : lw_okq (⟨"SoldHouse$Floor", "farthestFrom", "(I)I"⟩, 5) := ⟨⟨by decide +kernel, by decide +kernel⟩, List.mem_of_getElem? (i := 287) (by decide +kernel), List.mem_of_getElem? (i := 1039) (by decide +kernel), List.mem_of_getElem? (i := 1040) (by decide +kernel)⟩
theorem lw_p47 : lw_okq (⟨"SoldHouse$Trader", "isOurs", "(I)Z"⟩, 1) := ⟨⟨by decide +kernel, by decide +kernel⟩, List.mem_of_getElem? (i := 400) (by decide +kernel), List.mem_of_getElem? (i := 1067) (by decide +kernel), List.mem_of_getElem? (i := 1068) (by decide +kernel)⟩
def lw_privs_3 : List (MethodName × Nat) := [(⟨"SoldHouse", "isThing", "(I)Z"⟩, 10), (⟨"SoldHouse", "isDoor", "(I)Z"⟩, 10), (⟨"SoldHouse$Routes", "lay", "(I)V"⟩, 5), (⟨"SoldHouse$Routes", "nextOnWay", "(III)I"⟩, 5), (⟨"SoldHouse$Routes", "costTo", "(I)V"⟩, 5), (⟨"SoldHouse$Routes", "nextOnQuiet", "(I)I"⟩, 5), (⟨"SoldHouse$Routes", "costBy", "(II)I"⟩, 5), (⟨"SoldHouse$Routes", "waysInto", "(II)I"⟩, 5), (⟨"SoldHouse", "areRooms", "(I)Z"⟩, 10), (⟨"SoldHouse$Hunter", "bestDoor", "(I)I"⟩, 2), (⟨"SoldHouse$Hunter", "asksBy", "(II)I"⟩, 2), (⟨"SoldHouse$Routes", "measureTours", "(II)V"⟩, 5), (⟨"SoldHouse$Routes", "nextOnTour", "(II)I"⟩, 5), (⟨"SoldHouse$Routes", "tourBy", "(III)I"⟩, 5), (⟨"SoldHouse$Floor", "farthestFrom", "(I)I"⟩, 5), (⟨"SoldHouse$Trader", "isOurs", "(I)Z"⟩, 1)]
theorem lw_r3 : ∀ q ∈ lw_privs_3, lw_okq q := List.forall_mem_cons.mpr ⟨lw_p32, List.forall_mem_cons.mpr ⟨lw_p33, List.forall_mem_cons.mpr ⟨lw_p34, List.forall_mem_cons.mpr ⟨lw_p35, List.forall_mem_cons.mpr ⟨lw_p36, List.forall_mem_cons.mpr ⟨lw_p37, List.forall_mem_cons.mpr ⟨lw_p38, List.forall_mem_cons.mpr ⟨lw_p39, List.forall_mem_cons.mpr ⟨lw_p40, List.forall_mem_cons.mpr ⟨lw_p41, List.forall_mem_cons.mpr ⟨lw_p42, List.forall_mem_cons.mpr ⟨lw_p43, List.forall_mem_cons.mpr ⟨lw_p44, List.forall_mem_cons.mpr ⟨lw_p45, List.forall_mem_cons.mpr ⟨lw_p46, List.forall_mem_cons.mpr ⟨lw_p47, fun _ h => absurd h List.not_mem_nil⟩⟩⟩⟩⟩⟩⟩⟩⟩⟩⟩⟩⟩⟩⟩⟩
theorem lw_p48 : lw_okq (⟨"SoldHouse$Trader", "isFair", "(II)Z"⟩, 1) := ⟨⟨by decide +kernel, by decide +kernel⟩, List.mem_of_getElem? (i := 400) (by decide +kernel), List.mem_of_getElem? (i := 1079) (by decide +kernel), List.mem_of_getElem? (i := 1080) (by decide +kernel)⟩
theorem lw_p49 : lw_okq (⟨"SoldHouse$Trader", "ourGain", "(II)I"⟩, 1) := ⟨⟨by decide +kernel, by decide +kernel⟩, List.mem_of_getElem? (i := 400) (by decide +kernel), List.mem_of_getElem? (i := 1083) (by decide +kernel), List.mem_of_getElem? (i := 1084) (by decide +kernel)⟩
theorem lw_p50 : lw_okq (⟨"SoldHouse$Trader", "theirGain", "(II)I"⟩, 1) := ⟨⟨by decide +kernel, by decide +kernel⟩, List.mem_of_getElem? (i := 400) (by decide +kernel), List.mem_of_getElem? (i := 1087) (by decide +kernel), List.mem_of_getElem? (i := 1088) (by decide +kernel)⟩
theorem lw_p51 : lw_okq (⟨"SoldHouse$Trader", "mostPairs", "(II)I"⟩, 1) := ⟨⟨by decide +kernel, by decide +kernel⟩, List.mem_of_getElem? (i := 400) (by decide +kernel), List.mem_of_getElem? (i := 1104) (by decide +kernel), List.mem_of_getElem? (i := 1105) (by decide +kernel)⟩
theorem lw_p52 : lw_okq (⟨"SoldHouse$Night", "openRooms", "(I)V"⟩, 10) := ⟨⟨by decide +kernel, by decide +kernel⟩, List.mem_of_getElem? (i := 410) (by decide +kernel), List.mem_of_getElem? (i := 1212) (by decide +kernel), List.mem_of_getElem? (i := 1213) (by decide +kernel)⟩
theorem lw_p53 : lw_okq (⟨"SoldHouse$Night", "isOpen", "(II)Z"⟩, 10) := ⟨⟨by decide +kernel, by decide +kernel⟩, List.mem_of_getElem? (i := 410) (by decide +kernel), List.mem_of_getElem? (i := 1217) (by decide +kernel), List.mem_of_getElem? (i := 1218) (by decide +kernel)⟩
theorem lw_p54 : lw_okq (⟨"SoldHouse$Night", "comingTo", "(II)I"⟩, 10) := ⟨⟨by decide +kernel, by decide +kernel⟩, List.mem_of_getElem? (i := 410) (by decide +kernel), List.mem_of_getElem? (i := 1221) (by decide +kernel), List.mem_of_getElem? (i := 1222) (by decide +kernel)⟩
theorem lw_p55 : lw_okq (⟨"SoldHouse$Night", "sumAround", "([III)I"⟩, 10) := ⟨⟨by decide +kernel, by decide +kernel⟩, List.mem_of_getElem? (i := 410) (by decide +kernel), List.mem_of_getElem? (i := 1225) (by decide +kernel), List.mem_of_getElem? (i := 1226) (by decide +kernel)⟩
theorem lw_p56 : lw_okq (⟨"SoldHouse$Night", "goingOn", "(II)I"⟩, 10) := ⟨⟨by decide +kernel, by decide +kernel⟩, List.mem_of_getElem? (i := 410) (by decide +kernel), List.mem_of_getElem? (i := 1229) (by decide +kernel), List.mem_of_getElem? (i := 1230) (by decide +kernel)⟩
theorem lw_p57 : lw_okq (⟨"SoldHouse$Night", "through", "(II)I"⟩, 10) := ⟨⟨by decide +kernel, by decide +kernel⟩, List.mem_of_getElem? (i := 410) (by decide +kernel), List.mem_of_getElem? (i := 1241) (by decide +kernel), List.mem_of_getElem? (i := 1242) (by decide +kernel)⟩
theorem lw_p58 : lw_okq (⟨"SoldHouseModel", "clearBank", "()V"⟩, 71) := ⟨⟨by decide +kernel, by decide +kernel⟩, List.mem_of_getElem? (i := 1279) (by decide +kernel), List.mem_of_getElem? (i := 1285) (by decide +kernel), List.mem_of_getElem? (i := 1286) (by decide +kernel)⟩
theorem lw_p59 : lw_okq (⟨"SoldHouseModel", "startAnew", "()V"⟩, 71) := ⟨⟨by decide +kernel, by decide +kernel⟩, List.mem_of_getElem? (i := 1279) (by decide +kernel), List.mem_of_getElem? (i := 1289) (by decide +kernel), List.mem_of_getElem? (i := 1290) (by decide +kernel)⟩
theorem lw_p60 : lw_okq (⟨"SoldHouseModel", "many", "()I"⟩, 71) := ⟨⟨by decide +kernel, by decide +kernel⟩, List.mem_of_getElem? (i := 1279) (by decide +kernel), List.mem_of_getElem? (i := 1293) (by decide +kernel), List.mem_of_getElem? (i := 1294) (by decide +kernel)⟩
theorem lw_p61 : lw_okq (⟨"SoldHouseModel", "layTable", "()V"⟩, 71) := ⟨⟨by decide +kernel, by decide +kernel⟩, List.mem_of_getElem? (i := 1279) (by decide +kernel), List.mem_of_getElem? (i := 1297) (by decide +kernel), List.mem_of_getElem? (i := 1298) (by decide +kernel)⟩
theorem lw_p62 : lw_okq (⟨"SoldHouseModel", "places", "()I"⟩, 71) := ⟨⟨by decide +kernel, by decide +kernel⟩, List.mem_of_getElem? (i := 1279) (by decide +kernel), List.mem_of_getElem? (i := 1301) (by decide +kernel), List.mem_of_getElem? (i := 1302) (by decide +kernel)⟩
theorem lw_p63 : lw_okq (⟨"SoldHouseModel", "behind", "(II)I"⟩, 71) := ⟨⟨by decide +kernel, by decide +kernel⟩, List.mem_of_getElem? (i := 1279) (by decide +kernel), List.mem_of_getElem? (i := 1308) (by decide +kernel), List.mem_of_getElem? (i := 1309) (by decide +kernel)⟩
def lw_privs_4 : List (MethodName × Nat) := [(⟨"SoldHouse$Trader", "isFair", "(II)Z"⟩, 1), (⟨"SoldHouse$Trader", "ourGain", "(II)I"⟩, 1), (⟨"SoldHouse$Trader", "theirGain", "(II)I"⟩, 1), (⟨"SoldHouse$Trader", "mostPairs", "(II)I"⟩, 1), (⟨"SoldHouse$Night", "openRooms", "(I)V"⟩, 10), (⟨"SoldHouse$Night", "isOpen", "(II)Z"⟩, 10), (⟨"SoldHouse$Night", "comingTo", "(II)I"⟩, 10), (⟨"SoldHouse$Night", "sumAround", "([III)I"⟩, 10), (⟨"SoldHouse$Night", "goingOn", "(II)I"⟩, 10), (⟨"SoldHouse$Night", "through", "(II)I"⟩, 10), (⟨"SoldHouseModel", "clearBank", "()V"⟩, 71), (⟨"SoldHouseModel", "startAnew", "()V"⟩, 71), (⟨"SoldHouseModel", "many", "()I"⟩, 71), (⟨"SoldHouseModel", "layTable", "()V"⟩, 71), (⟨"SoldHouseModel", "places", "()I"⟩, 71), (⟨"SoldHouseModel", "behind", "(II)I"⟩, 71)]
theorem lw_r4 : ∀ q ∈ lw_privs_4, lw_okq q := List.forall_mem_cons.mpr ⟨lw_p48, List.forall_mem_cons.mpr ⟨lw_p49, List.forall_mem_cons.mpr ⟨lw_p50, List.forall_mem_cons.mpr ⟨lw_p51, List.forall_mem_cons.mpr ⟨lw_p52, List.forall_mem_cons.mpr ⟨lw_p53, List.forall_mem_cons.mpr ⟨lw_p54, List.forall_mem_cons.mpr ⟨lw_p55, List.forall_mem_cons.mpr ⟨lw_p56, List.forall_mem_cons.mpr ⟨lw_p57, List.forall_mem_cons.mpr ⟨lw_p58, List.forall_mem_cons.mpr ⟨lw_p59, List.forall_mem_cons.mpr ⟨lw_p60, List.forall_mem_cons.mpr ⟨lw_p61, List.forall_mem_cons.mpr ⟨lw_p62, List.forall_mem_cons.mpr ⟨lw_p63, fun _ h => absurd h List.not_mem_nil⟩⟩⟩⟩⟩⟩⟩⟩⟩⟩⟩⟩⟩⟩⟩⟩
theorem lw_p64 : lw_okq (⟨"SoldHouseModel", "oneOf", "(I)I"⟩, 71) := ⟨⟨by decide +kernel, by decide +kernel⟩, List.mem_of_getElem? (i := 1279) (by decide +kernel), List.mem_of_getElem? (i := 1312) (by decide +kernel), List.mem_of_getElem? (i := 1313) (by decide +kernel)⟩
theorem lw_p65 : lw_okq (⟨"SoldHouseModel", "otherOf", "(I)I"⟩, 71) := ⟨⟨by decide +kernel, by decide +kernel⟩, List.mem_of_getElem? (i := 1279) (by decide +kernel), List.mem_of_getElem? (i := 1316) (by decide +kernel), List.mem_of_getElem? (i := 1317) (by decide +kernel)⟩
theorem lw_p66 : lw_okq (⟨"SoldHouseModel", "joined", "(II)I"⟩, 71) := ⟨⟨by decide +kernel, by decide +kernel⟩, List.mem_of_getElem? (i := 1279) (by decide +kernel), List.mem_of_getElem? (i := 1320) (by decide +kernel), List.mem_of_getElem? (i := 1321) (by decide +kernel)⟩
theorem lw_p67 : lw_okq (⟨"SoldHouseModel", "goOn", "()V"⟩, 71) := ⟨⟨by decide +kernel, by decide +kernel⟩, List.mem_of_getElem? (i := 1279) (by decide +kernel), List.mem_of_getElem? (i := 1542) (by decide +kernel), List.mem_of_getElem? (i := 1543) (by decide +kernel)⟩
theorem lw_p68 : lw_okq (⟨"SoldHouseModel", "sign", "(I)I"⟩, 71) := ⟨⟨by decide +kernel, by decide +kernel⟩, List.mem_of_getElem? (i := 1279) (by decide +kernel), List.mem_of_getElem? (i := 1546) (by decide +kernel), List.mem_of_getElem? (i := 1547) (by decide +kernel)⟩
theorem lw_p69 : lw_okq (⟨"SoldHouseModel", "isGood", "()Z"⟩, 71) := ⟨⟨by decide +kernel, by decide +kernel⟩, List.mem_of_getElem? (i := 1279) (by decide +kernel), List.mem_of_getElem? (i := 1579) (by decide +kernel), List.mem_of_getElem? (i := 1580) (by decide +kernel)⟩
theorem lw_p70 : lw_okq (⟨"SoldHouseModel", "readLine", "()V"⟩, 71) := ⟨⟨by decide +kernel, by decide +kernel⟩, List.mem_of_getElem? (i := 1279) (by decide +kernel), List.mem_of_getElem? (i := 1583) (by decide +kernel), List.mem_of_getElem? (i := 1584) (by decide +kernel)⟩
theorem lw_p71 : lw_okq (⟨"SoldHouseModel", "isFull", "()Z"⟩, 71) := ⟨⟨by decide +kernel, by decide +kernel⟩, List.mem_of_getElem? (i := 1279) (by decide +kernel), List.mem_of_getElem? (i := 1587) (by decide +kernel), List.mem_of_getElem? (i := 1588) (by decide +kernel)⟩
theorem lw_p72 : lw_okq (⟨"SoldHouseModel", "isWord", "(J)Z"⟩, 71) := ⟨⟨by decide +kernel, by decide +kernel⟩, List.mem_of_getElem? (i := 1279) (by decide +kernel), List.mem_of_getElem? (i := 1591) (by decide +kernel), List.mem_of_getElem? (i := 1592) (by decide +kernel)⟩
theorem lw_p73 : lw_okq (⟨"SoldHouseModel", "misplaced", "()V"⟩, 71) := ⟨⟨by decide +kernel, by decide +kernel⟩, List.mem_of_getElem? (i := 1279) (by decide +kernel), List.mem_of_getElem? (i := 1595) (by decide +kernel), List.mem_of_getElem? (i := 1596) (by decide +kernel)⟩
theorem lw_p74 : lw_okq (⟨"SoldHouseModel", "fails", "(II)V"⟩, 71) := ⟨⟨by decide +kernel, by decide +kernel⟩, List.mem_of_getElem? (i := 1279) (by decide +kernel), List.mem_of_getElem? (i := 1599) (by decide +kernel), List.mem_of_getElem? (i := 1600) (by decide +kernel)⟩
theorem lw_p75 : lw_okq (⟨"SoldHouseModel", "readRoom", "()V"⟩, 71) := ⟨⟨by decide +kernel, by decide +kernel⟩, List.mem_of_getElem? (i := 1279) (by decide +kernel), List.mem_of_getElem? (i := 1603) (by decide +kernel), List.mem_of_getElem? (i := 1604) (by decide +kernel)⟩
theorem lw_p76 : lw_okq (⟨"SoldHouseModel", "roomHere", "()I"⟩, 71) := ⟨⟨by decide +kernel, by decide +kernel⟩, List.mem_of_getElem? (i := 1279) (by decide +kernel), List.mem_of_getElem? (i := 1607) (by decide +kernel), List.mem_of_getElem? (i := 1608) (by decide +kernel)⟩
theorem lw_p77 : lw_okq (⟨"SoldHouseModel", "here", "([JII)I"⟩, 71) := ⟨⟨by decide +kernel, by decide +kernel⟩, List.mem_of_getElem? (i := 1279) (by decide +kernel), List.mem_of_getElem? (i := 1611) (by decide +kernel), List.mem_of_getElem? (i := 1612) (by decide +kernel)⟩
theorem lw_p78 : lw_okq (⟨"SoldHouseModel", "fresh", "(I)J"⟩, 71) := ⟨⟨by decide +kernel, by decide +kernel⟩, List.mem_of_getElem? (i := 1279) (by decide +kernel), List.mem_of_getElem? (i := 1615) (by decide +kernel), List.mem_of_getElem? (i := 1616) (by decide +kernel)⟩
theorem lw_p79 : lw_okq (⟨"SoldHouseModel", "perhaps", "(JI)I"⟩, 71) := ⟨⟨by decide +kernel, by decide +kernel⟩, List.mem_of_getElem? (i := 1279) (by decide +kernel), List.mem_of_getElem? (i := 1619) (by decide +kernel), List.mem_of_getElem? (i := 1620) (by decide +kernel)⟩
def lw_privs_5 : List (MethodName × Nat) := [(⟨"SoldHouseModel", "oneOf", "(I)I"⟩, 71), (⟨"SoldHouseModel", "otherOf", "(I)I"⟩, 71), (⟨"SoldHouseModel", "joined", "(II)I"⟩, 71), (⟨"SoldHouseModel", "goOn", "()V"⟩, 71), (⟨"SoldHouseModel", "sign", "(I)I"⟩, 71), (⟨"SoldHouseModel", "isGood", "()Z"⟩, 71), (⟨"SoldHouseModel", "readLine", "()V"⟩, 71), (⟨"SoldHouseModel", "isFull", "()Z"⟩, 71), (⟨"SoldHouseModel", "isWord", "(J)Z"⟩, 71), (⟨"SoldHouseModel", "misplaced", "()V"⟩, 71), (⟨"SoldHouseModel", "fails", "(II)V"⟩, 71), (⟨"SoldHouseModel", "readRoom", "()V"⟩, 71), (⟨"SoldHouseModel", "roomHere", "()I"⟩, 71), (⟨"SoldHouseModel", "here", "([JII)I"⟩, 71), (⟨"SoldHouseModel", "fresh", "(I)J"⟩, 71), (⟨"SoldHouseModel", "perhaps", "(JI)I"⟩, 71)]
theorem lw_r5 : ∀ q ∈ lw_privs_5, lw_okq q := List.forall_mem_cons.mpr ⟨lw_p64, List.forall_mem_cons.mpr ⟨lw_p65, List.forall_mem_cons.mpr ⟨lw_p66, List.forall_mem_cons.mpr ⟨lw_p67, List.forall_mem_cons.mpr ⟨lw_p68, List.forall_mem_cons.mpr ⟨lw_p69, List.forall_mem_cons.mpr ⟨lw_p70, List.forall_mem_cons.mpr ⟨lw_p71, List.forall_mem_cons.mpr ⟨lw_p72, List.forall_mem_cons.mpr ⟨lw_p73, List.forall_mem_cons.mpr ⟨lw_p74, List.forall_mem_cons.mpr ⟨lw_p75, List.forall_mem_cons.mpr ⟨lw_p76, List.forall_mem_cons.mpr ⟨lw_p77, List.forall_mem_cons.mpr ⟨lw_p78, List.forall_mem_cons.mpr ⟨lw_p79, fun _ h => absurd h List.not_mem_nil⟩⟩⟩⟩⟩⟩⟩⟩⟩⟩⟩⟩⟩⟩⟩⟩
theorem lw_p80 : lw_okq (⟨"SoldHouseModel", "passes", "(J)Z"⟩, 71) := ⟨⟨by decide +kernel, by decide +kernel⟩, List.mem_of_getElem? (i := 1279) (by decide +kernel), List.mem_of_getElem? (i := 1623) (by decide +kernel), List.mem_of_getElem? (i := 1624) (by decide +kernel)⟩
theorem lw_p81 : lw_okq (⟨"SoldHouseModel", "numeral", "(II)I"⟩, 71) := ⟨⟨by decide +kernel, by decide +kernel⟩, List.mem_of_getElem? (i := 1279) (by decide +kernel), List.mem_of_getElem? (i := 1627) (by decide +kernel), List.mem_of_getElem? (i := 1628) (by decide +kernel)⟩
theorem lw_p82 : lw_okq (⟨"SoldHouseModel", "readDoor", "()V"⟩, 71) := ⟨⟨by decide +kernel, by decide +kernel⟩, List.mem_of_getElem? (i := 1279) (by decide +kernel), List.mem_of_getElem? (i := 1631) (by decide +kernel), List.mem_of_getElem? (i := 1632) (by decide +kernel)⟩
theorem lw_p83 : lw_okq (⟨"SoldHouseModel", "known", "(I)I"⟩, 71) := ⟨⟨by decide +kernel, by decide +kernel⟩, List.mem_of_getElem? (i := 1279) (by decide +kernel), List.mem_of_getElem? (i := 1635) (by decide +kernel), List.mem_of_getElem? (i := 1636) (by decide +kernel)⟩
theorem lw_p84 : lw_okq (⟨"SoldHouseModel", "isDoor", "(II)Z"⟩, 71) := ⟨⟨by decide +kernel, by decide +kernel⟩, List.mem_of_getElem? (i := 1279) (by decide +kernel), List.mem_of_getElem? (i := 1639) (by decide +kernel), List.mem_of_getElem? (i := 1640) (by decide +kernel)⟩
theorem lw_p85 : lw_okq (⟨"SoldHouseModel", "readThing", "()V"⟩, 71) := ⟨⟨by decide +kernel, by decide +kernel⟩, List.mem_of_getElem? (i := 1279) (by decide +kernel), List.mem_of_getElem? (i := 1643) (by decide +kernel), List.mem_of_getElem? (i := 1644) (by decide +kernel)⟩
theorem lw_p86 : lw_okq (⟨"SoldHouseModel", "must", "(Z)V"⟩, 71) := ⟨⟨by decide +kernel, by decide +kernel⟩, List.mem_of_getElem? (i := 1279) (by decide +kernel), List.mem_of_getElem? (i := 1647) (by decide +kernel), List.mem_of_getElem? (i := 1648) (by decide +kernel)⟩
theorem lw_p87 : lw_okq (⟨"SoldHouseModel", "readRule", "(I)V"⟩, 71) := ⟨⟨by decide +kernel, by decide +kernel⟩, List.mem_of_getElem? (i := 1279) (by decide +kernel), List.mem_of_getElem? (i := 1651) (by decide +kernel), List.mem_of_getElem? (i := 1652) (by decide +kernel)⟩
theorem lw_p88 : lw_okq (⟨"SoldHouseModel", "e", "()V"⟩, 71) := ⟨⟨by decide +kernel, by decide +kernel⟩, List.mem_of_getElem? (i := 1279) (by decide +kernel), List.mem_of_getElem? (i := 1655) (by decide +kernel), List.mem_of_getElem? (i := 1656) (by decide +kernel)⟩
theorem lw_p89 : lw_okq (⟨"SoldHouseModel", "pushE", "(II)V"⟩, 71) := ⟨⟨by decide +kernel, by decide +kernel⟩, List.mem_of_getElem? (i := 1279) (by decide +kernel), List.mem_of_getElem? (i := 1659) (by decide +kernel), List.mem_of_getElem? (i := 1660) (by decide +kernel)⟩
theorem lw_p90 : lw_okq (⟨"SoldHouseModel", "unit", "()Z"⟩, 71) := ⟨⟨by decide +kernel, by decide +kernel⟩, List.mem_of_getElem? (i := 1279) (by decide +kernel), List.mem_of_getElem? (i := 1663) (by decide +kernel), List.mem_of_getElem? (i := 1664) (by decide +kernel)⟩
theorem lw_p91 : lw_okq (⟨"SoldHouseModel", "isSignHere", "(I)Z"⟩, 71) := ⟨⟨by decide +kernel, by decide +kernel⟩, List.mem_of_getElem? (i := 1279) (by decide +kernel), List.mem_of_getElem? (i := 1667) (by decide +kernel), List.mem_of_getElem? (i := 1668) (by decide +kernel)⟩
theorem lw_p92 : lw_okq (⟨"SoldHouseModel", "wordHere", "()I"⟩, 71) := ⟨⟨by decide +kernel, by decide +kernel⟩, List.mem_of_getElem? (i := 1279) (by decide +kernel), List.mem_of_getElem? (i := 1671) (by decide +kernel), List.mem_of_getElem? (i := 1672) (by decide +kernel)⟩
theorem lw_p93 : lw_okq (⟨"SoldHouseModel", "emit", "(II)V"⟩, 71) := ⟨⟨by decide +kernel, by decide +kernel⟩, List.mem_of_getElem? (i := 1279) (by decide +kernel), List.mem_of_getElem? (i := 1675) (by decide +kernel), List.mem_of_getElem? (i := 1676) (by decide +kernel)⟩
theorem lw_p94 : lw_okq (⟨"SoldHouseModel", "behindUnit", "()Z"⟩, 71) := ⟨⟨by decide +kernel, by decide +kernel⟩, List.mem_of_getElem? (i := 1279) (by decide +kernel), List.mem_of_getElem? (i := 1679) (by decide +kernel), List.mem_of_getElem? (i := 1680) (by decide +kernel)⟩
theorem lw_p95 : lw_okq (⟨"SoldHouseModel", "rankHere", "()I"⟩, 71) := ⟨⟨by decide +kernel, by decide +kernel⟩, List.mem_of_getElem? (i := 1279) (by decide +kernel), List.mem_of_getElem? (i := 1683) (by decide +kernel), List.mem_of_getElem? (i := 1684) (by decide +kernel)⟩
def lw_privs_6 : List (MethodName × Nat) := [(⟨"SoldHouseModel", "passes", "(J)Z"⟩, 71), (⟨"SoldHouseModel", "numeral", "(II)I"⟩, 71), (⟨"SoldHouseModel", "readDoor", "()V"⟩, 71), (⟨"SoldHouseModel", "known", "(I)I"⟩, 71), (⟨"SoldHouseModel", "isDoor", "(II)Z"⟩, 71), (⟨"SoldHouseModel", "readThing", "()V"⟩, 71), (⟨"SoldHouseModel", "must", "(Z)V"⟩, 71), (⟨"SoldHouseModel", "readRule", "(I)V"⟩, 71), (⟨"SoldHouseModel", "e", "()V"⟩, 71), (⟨"SoldHouseModel", "pushE", "(II)V"⟩, 71), (⟨"SoldHouseModel", "unit", "()Z"⟩, 71), (⟨"SoldHouseModel", "isSignHere", "(I)Z"⟩, 71), (⟨"SoldHouseModel", "wordHere", "()I"⟩, 71), (⟨"SoldHouseModel", "emit", "(II)V"⟩, 71), (⟨"SoldHouseModel", "behindUnit", "()Z"⟩, 71), (⟨"SoldHouseModel", "rankHere", "()I"⟩, 71)]
theorem lw_r6 : ∀ q ∈ lw_privs_6, lw_okq q := List.forall_mem_cons.mpr ⟨lw_p80, List.forall_mem_cons.mpr ⟨lw_p81, List.forall_mem_cons.mpr ⟨lw_p82, List.forall_mem_cons.mpr ⟨lw_p83, List.forall_mem_cons.mpr ⟨lw_p84, List.forall_mem_cons.mpr ⟨lw_p85, List.forall_mem_cons.mpr ⟨lw_p86, List.forall_mem_cons.mpr ⟨lw_p87, List.forall_mem_cons.mpr ⟨lw_p88, List.forall_mem_cons.mpr ⟨lw_p89, List.forall_mem_cons.mpr ⟨lw_p90, List.forall_mem_cons.mpr ⟨lw_p91, List.forall_mem_cons.mpr ⟨lw_p92, List.forall_mem_cons.mpr ⟨lw_p93, List.forall_mem_cons.mpr ⟨lw_p94, List.forall_mem_cons.mpr ⟨lw_p95, fun _ h => absurd h List.not_mem_nil⟩⟩⟩⟩⟩⟩⟩⟩⟩⟩⟩⟩⟩⟩⟩⟩
theorem lw_p96 : lw_okq (⟨"SoldHouseModel", "isCompared", "()Z"⟩, 71) := ⟨⟨by decide +kernel, by decide +kernel⟩, List.mem_of_getElem? (i := 1279) (by decide +kernel), List.mem_of_getElem? (i := 1687) (by decide +kernel), List.mem_of_getElem? (i := 1688) (by decide +kernel)⟩
theorem lw_p97 : lw_okq (⟨"SoldHouseModel", "isRoom", "(I)Z"⟩, 71) := ⟨⟨by decide +kernel, by decide +kernel⟩, List.mem_of_getElem? (i := 1279) (by decide +kernel), List.mem_of_getElem? (i := 1699) (by decide +kernel), List.mem_of_getElem? (i := 1700) (by decide +kernel)⟩
theorem lw_p98 : lw_okq (⟨"SoldHouseModel", "creakOf", "(I)I"⟩, 71) := ⟨⟨by decide +kernel, by decide +kernel⟩, List.mem_of_getElem? (i := 1279) (by decide +kernel), List.mem_of_getElem? (i := 1706) (by decide +kernel), List.mem_of_getElem? (i := 1707) (by decide +kernel)⟩
theorem lw_p99 : lw_okq (⟨"SoldHouseModel", "thingsIn", "(II)I"⟩, 71) := ⟨⟨by decide +kernel, by decide +kernel⟩, List.mem_of_getElem? (i := 1279) (by decide +kernel), List.mem_of_getElem? (i := 1710) (by decide +kernel), List.mem_of_getElem? (i := 1711) (by decide +kernel)⟩
theorem lw_p100 : lw_okq (⟨"SoldHouseModel", "isThing", "(I)Z"⟩, 71) := ⟨⟨by decide +kernel, by decide +kernel⟩, List.mem_of_getElem? (i := 1279) (by decide +kernel), List.mem_of_getElem? (i := 1718) (by decide +kernel), List.mem_of_getElem? (i := 1719) (by decide +kernel)⟩
theorem lw_p101 : lw_okq (⟨"SoldHouseModel", "sureOf", "(I)I"⟩, 71) := ⟨⟨by decide +kernel, by decide +kernel⟩, List.mem_of_getElem? (i := 1279) (by decide +kernel), List.mem_of_getElem? (i := 1722) (by decide +kernel), List.mem_of_getElem? (i := 1723) (by decide +kernel)⟩
theorem lw_p102 : lw_okq (⟨"SoldHouseModel", "comes", "()I"⟩, 71) := ⟨⟨by decide +kernel, by decide +kernel⟩, List.mem_of_getElem? (i := 1279) (by decide +kernel), List.mem_of_getElem? (i := 1726) (by decide +kernel), List.mem_of_getElem? (i := 1727) (by decide +kernel)⟩
theorem lw_p103 : lw_okq (⟨"SoldHouseModel", "asked", "(II)I"⟩, 71) := ⟨⟨by decide +kernel, by decide +kernel⟩, List.mem_of_getElem? (i := 1279) (by decide +kernel), List.mem_of_getElem? (i := 1730) (by decide +kernel), List.mem_of_getElem? (i := 1731) (by decide +kernel)⟩
theorem lw_p104 : lw_okq (⟨"SoldHouseModel", "offOf", "(I)I"⟩, 71) := ⟨⟨by decide +kernel, by decide +kernel⟩, List.mem_of_getElem? (i := 1279) (by decide +kernel), List.mem_of_getElem? (i := 1734) (by decide +kernel), List.mem_of_getElem? (i := 1735) (by decide +kernel)⟩
theorem lw_p105 : lw_okq (⟨"SoldHouseModel", "farOf", "(II)I"⟩, 71) := ⟨⟨by decide +kernel, by decide +kernel⟩, List.mem_of_getElem? (i := 1279) (by decide +kernel), List.mem_of_getElem? (i := 1738) (by decide +kernel), List.mem_of_getElem? (i := 1739) (by decide +kernel)⟩
theorem lw_p106 : lw_okq (⟨"SoldHouseModel", "doesPart", "(I)Z"⟩, 71) := ⟨⟨by decide +kernel, by decide +kernel⟩, List.mem_of_getElem? (i := 1279) (by decide +kernel), List.mem_of_getElem? (i := 1752) (by decide +kernel), List.mem_of_getElem? (i := 1753) (by decide +kernel)⟩
theorem lw_p107 : lw_okq (⟨"SoldHouseModel", "areRooms", "(II)Z"⟩, 71) := ⟨⟨by decide +kernel, by decide +kernel⟩, List.mem_of_getElem? (i := 1279) (by decide +kernel), List.mem_of_getElem? (i := 1760) (by decide +kernel), List.mem_of_getElem? (i := 1761) (by decide +kernel)⟩
theorem lw_p108 : lw_okq (⟨"SoldHouseModel", "keepAct", "()V"⟩, 71) := ⟨⟨by decide +kernel, by decide +kernel⟩, List.mem_of_getElem? (i := 1279) (by decide +kernel), List.mem_of_getElem? (i := 1768) (by decide +kernel), List.mem_of_getElem? (i := 1769) (by decide +kernel)⟩
theorem lw_p109 : lw_okq (⟨"SoldHouseModel", "spoken", "(II)V"⟩, 71) := ⟨⟨by decide +kernel, by decide +kernel⟩, List.mem_of_getElem? (i := 1279) (by decide +kernel), List.mem_of_getElem? (i := 1772) (by decide +kernel), List.mem_of_getElem? (i := 1773) (by decide +kernel)⟩
theorem lw_p110 : lw_okq (⟨"SoldHouseModel", "goDay", "()I"⟩, 71) := ⟨⟨by decide +kernel, by decide +kernel⟩, List.mem_of_getElem? (i := 1279) (by decide +kernel), List.mem_of_getElem? (i := 1792) (by decide +kernel), List.mem_of_getElem? (i := 1793) (by decide +kernel)⟩
theorem lw_p111 : lw_okq (⟨"SoldHouseModel", "exchange", "()V"⟩, 71) := ⟨⟨by decide +kernel, by decide +kernel⟩, List.mem_of_getElem? (i := 1279) (by decide +kernel), List.mem_of_getElem? (i := 1800) (by decide +kernel), List.mem_of_getElem? (i := 1801) (by decide +kernel)⟩
def lw_privs_7 : List (MethodName × Nat) := [(⟨"SoldHouseModel", "isCompared", "()Z"⟩, 71), (⟨"SoldHouseModel", "isRoom", "(I)Z"⟩, 71), (⟨"SoldHouseModel", "creakOf", "(I)I"⟩, 71), (⟨"SoldHouseModel", "thingsIn", "(II)I"⟩, 71), (⟨"SoldHouseModel", "isThing", "(I)Z"⟩, 71), (⟨"SoldHouseModel", "sureOf", "(I)I"⟩, 71), (⟨"SoldHouseModel", "comes", "()I"⟩, 71), (⟨"SoldHouseModel", "asked", "(II)I"⟩, 71), (⟨"SoldHouseModel", "offOf", "(I)I"⟩, 71), (⟨"SoldHouseModel", "farOf", "(II)I"⟩, 71), (⟨"SoldHouseModel", "doesPart", "(I)Z"⟩, 71), (⟨"SoldHouseModel", "areRooms", "(II)Z"⟩, 71), (⟨"SoldHouseModel", "keepAct", "()V"⟩, 71), (⟨"SoldHouseModel", "spoken", "(II)V"⟩, 71), (⟨"SoldHouseModel", "goDay", "()I"⟩, 71), (⟨"SoldHouseModel", "exchange", "()V"⟩, 71)]
theorem lw_r7 : ∀ q ∈ lw_privs_7, lw_okq q := List.forall_mem_cons.mpr ⟨lw_p96, List.forall_mem_cons.mpr ⟨lw_p97, List.forall_mem_cons.mpr ⟨lw_p98, List.forall_mem_cons.mpr ⟨lw_p99, List.forall_mem_cons.mpr ⟨lw_p100, List.forall_mem_cons.mpr ⟨lw_p101, List.forall_mem_cons.mpr ⟨lw_p102, List.forall_mem_cons.mpr ⟨lw_p103, List.forall_mem_cons.mpr ⟨lw_p104, List.forall_mem_cons.mpr ⟨lw_p105, List.forall_mem_cons.mpr ⟨lw_p106, List.forall_mem_cons.mpr ⟨lw_p107, List.forall_mem_cons.mpr ⟨lw_p108, List.forall_mem_cons.mpr ⟨lw_p109, List.forall_mem_cons.mpr ⟨lw_p110, List.forall_mem_cons.mpr ⟨lw_p111, fun _ h => absurd h List.not_mem_nil⟩⟩⟩⟩⟩⟩⟩⟩⟩⟩⟩⟩⟩⟩⟩⟩
theorem lw_p112 : lw_okq (⟨"SoldHouseModel", "weighAlike", "()V"⟩, 71) := ⟨⟨by decide +kernel, by decide +kernel⟩, List.mem_of_getElem? (i := 1279) (by decide +kernel), List.mem_of_getElem? (i := 1816) (by decide +kernel), List.mem_of_getElem? (i := 1817) (by decide +kernel)⟩
theorem lw_p113 : lw_okq (⟨"SoldHouseModel", "showWay", "(II)I"⟩, 71) := ⟨⟨by decide +kernel, by decide +kernel⟩, List.mem_of_getElem? (i := 1279) (by decide +kernel), List.mem_of_getElem? (i := 1820) (by decide +kernel), List.mem_of_getElem? (i := 1821) (by decide +kernel)⟩
theorem lw_p114 : lw_okq (⟨"SoldHouseModel", "layGoal", "(II)V"⟩, 71) := ⟨⟨by decide +kernel, by decide +kernel⟩, List.mem_of_getElem? (i := 1279) (by decide +kernel), List.mem_of_getElem? (i := 1824) (by decide +kernel), List.mem_of_getElem? (i := 1825) (by decide +kernel)⟩
theorem lw_p115 : lw_okq (⟨"SoldHouseModel", "isSet", "(I)Z"⟩, 71) := ⟨⟨by decide +kernel, by decide +kernel⟩, List.mem_of_getElem? (i := 1279) (by decide +kernel), List.mem_of_getElem? (i := 1848) (by decide +kernel), List.mem_of_getElem? (i := 1849) (by decide +kernel)⟩
theorem lw_p116 : lw_okq (⟨"SoldHouseModel", "layHunts", "()V"⟩, 71) := ⟨⟨by decide +kernel, by decide +kernel⟩, List.mem_of_getElem? (i := 1279) (by decide +kernel), List.mem_of_getElem? (i := 1852) (by decide +kernel), List.mem_of_getElem? (i := 1853) (by decide +kernel)⟩
theorem lw_p117 : lw_okq (⟨"SoldHouseModel", "barOf", "(II)I"⟩, 71) := ⟨⟨by decide +kernel, by decide +kernel⟩, List.mem_of_getElem? (i := 1279) (by decide +kernel), List.mem_of_getElem? (i := 1871) (by decide +kernel), List.mem_of_getElem? (i := 1872) (by decide +kernel)⟩
theorem lw_p118 : lw_okq (⟨"SoldHouseModel", "layTours", "(I)V"⟩, 71) := ⟨⟨by decide +kernel, by decide +kernel⟩, List.mem_of_getElem? (i := 1279) (by decide +kernel), List.mem_of_getElem? (i := 1879) (by decide +kernel), List.mem_of_getElem? (i := 1880) (by decide +kernel)⟩
theorem lw_p119 : lw_okq (⟨"SoldHouseModel", "farthest", "(I)I"⟩, 71) := ⟨⟨by decide +kernel, by decide +kernel⟩, List.mem_of_getElem? (i := 1279) (by decide +kernel), List.mem_of_getElem? (i := 1887) (by decide +kernel), List.mem_of_getElem? (i := 1888) (by decide +kernel)⟩
theorem lw_p120 : lw_okq (⟨"SoldHouseModel", "worthOf", "(II)I"⟩, 71) := ⟨⟨by decide +kernel, by decide +kernel⟩, List.mem_of_getElem? (i := 1279) (by decide +kernel), List.mem_of_getElem? (i := 1907) (by decide +kernel), List.mem_of_getElem? (i := 1908) (by decide +kernel)⟩
theorem lw_p121 : lw_okq (⟨"SoldHouseModel", "gainOf", "(II)I"⟩, 71) := ⟨⟨by decide +kernel, by decide +kernel⟩, List.mem_of_getElem? (i := 1279) (by decide +kernel), List.mem_of_getElem? (i := 1915) (by decide +kernel), List.mem_of_getElem? (i := 1916) (by decide +kernel)⟩
theorem lw_p122 : lw_okq (⟨"SoldHouseModel", "rightOnes", "()I"⟩, 71) := ⟨⟨by decide +kernel, by decide +kernel⟩, List.mem_of_getElem? (i := 1279) (by decide +kernel), List.mem_of_getElem? (i := 1935) (by decide +kernel), List.mem_of_getElem? (i := 1936) (by decide +kernel)⟩
theorem lw_p123 : lw_okq (⟨"SoldHouseModel", "keepNow", "()V"⟩, 71) := ⟨⟨by decide +kernel, by decide +kernel⟩, List.mem_of_getElem? (i := 1279) (by decide +kernel), List.mem_of_getElem? (i := 1954) (by decide +kernel), List.mem_of_getElem? (i := 1955) (by decide +kernel)⟩
theorem lw_p124 : lw_okq (⟨"SoldHouseModel", "bringBack", "()V"⟩, 71) := ⟨⟨by decide +kernel, by decide +kernel⟩, List.mem_of_getElem? (i := 1279) (by decide +kernel), List.mem_of_getElem? (i := 1958) (by decide +kernel), List.mem_of_getElem? (i := 1959) (by decide +kernel)⟩
theorem lw_p125 : lw_okq (⟨"SoldHouseModel", "told", "(IIIZ)I"⟩, 71) := ⟨⟨by decide +kernel, by decide +kernel⟩, List.mem_of_getElem? (i := 1279) (by decide +kernel), List.mem_of_getElem? (i := 1970) (by decide +kernel), List.mem_of_getElem? (i := 1971) (by decide +kernel)⟩
theorem lw_p126 : lw_okq (⟨"SoldHouseModel", "layWalks", "(I)V"⟩, 71) := ⟨⟨by decide +kernel, by decide +kernel⟩, List.mem_of_getElem? (i := 1279) (by decide +kernel), List.mem_of_getElem? (i := 1991) (by decide +kernel), List.mem_of_getElem? (i := 1992) (by decide +kernel)⟩
theorem lw_p127 : lw_okq (⟨"SoldHouseModel", "openAt", "(II)I"⟩, 71) := ⟨⟨by decide +kernel, by decide +kernel⟩, List.mem_of_getElem? (i := 1279) (by decide +kernel), List.mem_of_getElem? (i := 1995) (by decide +kernel), List.mem_of_getElem? (i := 1996) (by decide +kernel)⟩
def lw_privs_8 : List (MethodName × Nat) := [(⟨"SoldHouseModel", "weighAlike", "()V"⟩, 71), (⟨"SoldHouseModel", "showWay", "(II)I"⟩, 71), (⟨"SoldHouseModel", "layGoal", "(II)V"⟩, 71), (⟨"SoldHouseModel", "isSet", "(I)Z"⟩, 71), (⟨"SoldHouseModel", "layHunts", "()V"⟩, 71), (⟨"SoldHouseModel", "barOf", "(II)I"⟩, 71), (⟨"SoldHouseModel", "layTours", "(I)V"⟩, 71), (⟨"SoldHouseModel", "farthest", "(I)I"⟩, 71), (⟨"SoldHouseModel", "worthOf", "(II)I"⟩, 71), (⟨"SoldHouseModel", "gainOf", "(II)I"⟩, 71), (⟨"SoldHouseModel", "rightOnes", "()I"⟩, 71), (⟨"SoldHouseModel", "keepNow", "()V"⟩, 71), (⟨"SoldHouseModel", "bringBack", "()V"⟩, 71), (⟨"SoldHouseModel", "told", "(IIIZ)I"⟩, 71), (⟨"SoldHouseModel", "layWalks", "(I)V"⟩, 71), (⟨"SoldHouseModel", "openAt", "(II)I"⟩, 71)]
theorem lw_r8 : ∀ q ∈ lw_privs_8, lw_okq q := List.forall_mem_cons.mpr ⟨lw_p112, List.forall_mem_cons.mpr ⟨lw_p113, List.forall_mem_cons.mpr ⟨lw_p114, List.forall_mem_cons.mpr ⟨lw_p115, List.forall_mem_cons.mpr ⟨lw_p116, List.forall_mem_cons.mpr ⟨lw_p117, List.forall_mem_cons.mpr ⟨lw_p118, List.forall_mem_cons.mpr ⟨lw_p119, List.forall_mem_cons.mpr ⟨lw_p120, List.forall_mem_cons.mpr ⟨lw_p121, List.forall_mem_cons.mpr ⟨lw_p122, List.forall_mem_cons.mpr ⟨lw_p123, List.forall_mem_cons.mpr ⟨lw_p124, List.forall_mem_cons.mpr ⟨lw_p125, List.forall_mem_cons.mpr ⟨lw_p126, List.forall_mem_cons.mpr ⟨lw_p127, fun _ h => absurd h List.not_mem_nil⟩⟩⟩⟩⟩⟩⟩⟩⟩⟩⟩⟩⟩⟩⟩⟩
theorem lw_p128 : lw_okq (⟨"SoldHouseModel", "stepOn", "(I)V"⟩, 71) := ⟨⟨by decide +kernel, by decide +kernel⟩, List.mem_of_getElem? (i := 1279) (by decide +kernel), List.mem_of_getElem? (i := 1999) (by decide +kernel), List.mem_of_getElem? (i := 2000) (by decide +kernel)⟩
theorem lw_p129 : lw_okq (⟨"SoldHouseModel", "allWalks", "()I"⟩, 71) := ⟨⟨by decide +kernel, by decide +kernel⟩, List.mem_of_getElem? (i := 1279) (by decide +kernel), List.mem_of_getElem? (i := 2003) (by decide +kernel), List.mem_of_getElem? (i := 2004) (by decide +kernel)⟩
theorem lw_p130 : lw_okq (⟨"SoldHouseModel", "walksBy", "(II)I"⟩, 71) := ⟨⟨by decide +kernel, by decide +kernel⟩, List.mem_of_getElem? (i := 1279) (by decide +kernel), List.mem_of_getElem? (i := 2007) (by decide +kernel), List.mem_of_getElem? (i := 2008) (by decide +kernel)⟩
def lw_privs_9 : List (MethodName × Nat) := [(⟨"SoldHouseModel", "stepOn", "(I)V"⟩, 71), (⟨"SoldHouseModel", "allWalks", "()I"⟩, 71), (⟨"SoldHouseModel", "walksBy", "(II)I"⟩, 71)]
theorem lw_r9 : ∀ q ∈ lw_privs_9, lw_okq q := List.forall_mem_cons.mpr ⟨lw_p128, List.forall_mem_cons.mpr ⟨lw_p129, List.forall_mem_cons.mpr ⟨lw_p130, fun _ h => absurd h List.not_mem_nil⟩⟩⟩
def lw_privs : List (MethodName × Nat) := lw_privs_1 ++ (lw_privs_2 ++ (lw_privs_3 ++ (lw_privs_4 ++ (lw_privs_5 ++ (lw_privs_6 ++ (lw_privs_7 ++ (lw_privs_8 ++ (lw_privs_9))))))))
def lw_tbl : List Cond := k2_sels lw_privs ++ tables_1
theorem lw_privs_ok : ∀ q ∈ lw_privs, lw_okq q := by
  show ∀ q ∈ lw_privs_1 ++ (lw_privs_2 ++ (lw_privs_3 ++ (lw_privs_4 ++ (lw_privs_5 ++ (lw_privs_6 ++ (lw_privs_7 ++ (lw_privs_8 ++ (lw_privs_9)))))))), lw_okq q
  exact List.forall_mem_append.mpr ⟨lw_r1, List.forall_mem_append.mpr ⟨lw_r2, List.forall_mem_append.mpr ⟨lw_r3, List.forall_mem_append.mpr ⟨lw_r4, List.forall_mem_append.mpr ⟨lw_r5, List.forall_mem_append.mpr ⟨lw_r6, List.forall_mem_append.mpr ⟨lw_r7, List.forall_mem_append.mpr ⟨lw_r8, lw_r9⟩⟩⟩⟩⟩⟩⟩⟩
theorem goodIn_r {big : List Cond} (ws : List Cond) (ps : List Nat) (hp : ws = ps.filterMap (fun i => big[i]?)) (h : ws.all goodWord = true) : GoodIn big ws := by
  intro w hw
  have h1 := List.all_eq_true.mp h w hw
  rw [hp] at hw
  obtain ⟨i, -, hi⟩ := List.mem_filterMap.mp hw
  have hm : w ∈ big := by first | exact List.mem_of_getElem? hi | exact List.getElem?_mem hi
  exact ⟨hm, good_of_word h1⟩
theorem goodIn_app {big a b : List Cond} (ha : GoodIn big a) (hb : GoodIn big b) : GoodIn big (a ++ b) := fun w h => (List.mem_append.mp h).elim (ha w) (hb w)
theorem goodIn_ca {big a b : List Cond} {c : Cond} (ha : GoodIn big (c :: a)) (hb : GoodIn big b) : GoodIn big (c :: (a ++ b)) := fun w h => (List.mem_cons.mp h).elim (fun e => ha w (List.mem_cons.mpr (Or.inl e))) (fun h => (List.mem_append.mp h).elim (fun h => ha w (List.mem_cons.mpr (Or.inr h))) (hb w))
theorem goodIn_sub {big ws : List Cond} (hm : ∀ w ∈ ws, w ∈ big) (h : ws.all goodWord = true) : GoodIn big ws := fun w hw => ⟨hm w hw, good_of_word (List.all_eq_true.mp h w hw)⟩
def RX0 : String := "SoldHouse$Floor"
def TX0 : u_T := fun k => match k with
  | 0 => ("SoldHouse$Floor", "plan", "LSoldHouse$Plan;", false)
  | 1 => ("SoldHouse$Floor", "next", "[I", true)
  | 2 => ("SoldHouse$Floor", "far", "[I", true)
  | 3 => ("SoldHouse$Floor", "near", "[I", true)
  | _ => ("SoldHouse$Floor", "parting", "I", false)
def tyX0 : Nat → FieldType := fun k => match k with
  | 0 => .object "SoldHouse$Plan"
  | 1 => .array .int
  | 2 => .array .int
  | 3 => .array .int
  | _ => .int
abbrev wsX00 : List Cond := u_ws RX0 TX0 5
theorem nmX0 : ∀ a, a < 5 → ∀ b, b < 5 → a ≠ b → (TX0 a).2.1 ≠ (TX0 b).2.1 := by decide +kernel
theorem tyX0_ok : ∀ k, k < 5 → parseFieldDescriptor (TX0 k).2.2.1 = some (tyX0 k) := by decide +kernel
abbrev cX0_init : ByteArray := prog_2_method_1_code
def yX0_init : MethodName := ⟨RX0, "<init>", "(LSoldHouse$Plan;)V"⟩
abbrev cX0_build : ByteArray := prog_2_method_2_code
def yX0_build : MethodName := ⟨RX0, "build", "(LSoldHouse$Plan;)V"⟩
abbrev cX0_allRooms : ByteArray := prog_2_method_3_code
def yX0_allRooms : MethodName := ⟨RX0, "allRooms", "()I"⟩
abbrev cX0_farOf : ByteArray := prog_2_method_4_code
def yX0_farOf : MethodName := ⟨RX0, "farOf", "(II)I"⟩
abbrev cX0_reach : ByteArray := prog_2_method_5_code
def yX0_reach : MethodName := ⟨RX0, "reach", "(II)I"⟩
abbrev cX0_countPieces : ByteArray := prog_2_method_6_code
def yX0_countPieces : MethodName := ⟨RX0, "countPieces", "()I"⟩
abbrev cX0_minutesTo : ByteArray := prog_2_method_7_code
def yX0_minutesTo : MethodName := ⟨RX0, "minutesTo", "(III)I"⟩
abbrev cX0_meetingRoom : ByteArray := prog_2_method_8_code
def yX0_meetingRoom : MethodName := ⟨RX0, "meetingRoom", "(II)I"⟩
abbrev cX0_barringRooms : ByteArray := prog_2_method_9_code
def yX0_barringRooms : MethodName := ⟨RX0, "barringRooms", "(II)I"⟩
abbrev cX0_middleRoom : ByteArray := prog_2_method_10_code
def yX0_middleRoom : MethodName := ⟨RX0, "middleRoom", "()I"⟩
abbrev cX0_creakingRooms : ByteArray := prog_2_method_11_code
def yX0_creakingRooms : MethodName := ⟨RX0, "creakingRooms", "(I)I"⟩
abbrev cX0_farthestFrom : ByteArray := prog_2_method_12_code
def yX0_farthestFrom : MethodName := ⟨RX0, "farthestFrom", "(I)I"⟩
abbrev cX0_behindDoors : ByteArray := prog_2_method_13_code
def yX0_behindDoors : MethodName := ⟨RX0, "behindDoors", "(I)I"⟩
abbrev cX0_measureFrom : ByteArray := prog_2_method_14_code
def yX0_measureFrom : MethodName := ⟨RX0, "measureFrom", "(I)V"⟩
abbrev cX0_nearSide : ByteArray := prog_2_method_15_code
def yX0_nearSide : MethodName := ⟨RX0, "nearSide", "(I)I"⟩
def RX1 : String := "SoldHouse$Formula"
def TX1 : u_T := fun k => match k with
  | 0 => ("SoldHouse$Formula", "steps", "[I", true)
  | 1 => ("SoldHouse$Formula", "stack", "[I", true)
  | 2 => ("SoldHouse$Formula", "known", "[I", true)
  | 3 => ("SoldHouse$Formula", "size", "I", false)
  | 4 => ("SoldHouse$Formula", "units", "I", false)
  | _ => ("SoldHouse$Formula", "told", "Z", false)
def tyX1 : Nat → FieldType := fun k => match k with
  | 0 => .array .int
  | 1 => .array .int
  | 2 => .array .int
  | 3 => .int
  | 4 => .int
  | _ => .boolean
abbrev wsX10 : List Cond := u_ws RX1 TX1 6
theorem nmX1 : ∀ a, a < 6 → ∀ b, b < 6 → a ≠ b → (TX1 a).2.1 ≠ (TX1 b).2.1 := by decide +kernel
theorem tyX1_ok : ∀ k, k < 6 → parseFieldDescriptor (TX1 k).2.2.1 = some (tyX1 k) := by decide +kernel
abbrev cX1_init : ByteArray := prog_3_method_1_code
def yX1_init : MethodName := ⟨RX1, "<init>", "()V"⟩
abbrev cX1_clear : ByteArray := prog_3_method_2_code
def yX1_clear : MethodName := ⟨RX1, "clear", "()V"⟩
abbrev cX1_put : ByteArray := prog_3_method_3_code
def yX1_put : MethodName := ⟨RX1, "put", "(I)V"⟩
abbrev cX1_know : ByteArray := prog_3_method_4_code
def yX1_know : MethodName := ⟨RX1, "know", "(IIIII)V"⟩
abbrev cX1_work : ByteArray := prog_3_method_5_code
def yX1_work : MethodName := ⟨RX1, "work", "()I"⟩
abbrev cX1_join : ByteArray := prog_3_method_6_code
def yX1_join : MethodName := ⟨RX1, "join", "(III)I"⟩
def RX2 : String := "SoldHouse$Hunter"
def TX2 : u_T := fun k => match k with
  | 0 => ("SoldHouse$Hunter", "floor", "LSoldHouse$Floor;", true)
  | _ => ("SoldHouse$Hunter", "asks", "[I", true)
def tyX2 : Nat → FieldType := fun k => match k with
  | 0 => .object "SoldHouse$Floor"
  | _ => .array .int
abbrev wsX20 : List Cond := u_ws RX2 TX2 2
theorem nmX2 : ∀ a, a < 2 → ∀ b, b < 2 → a ≠ b → (TX2 a).2.1 ≠ (TX2 b).2.1 := by decide +kernel
theorem tyX2_ok : ∀ k, k < 2 → parseFieldDescriptor (TX2 k).2.2.1 = some (tyX2 k) := by decide +kernel
abbrev cX2_init : ByteArray := prog_4_method_1_code
def yX2_init : MethodName := ⟨RX2, "<init>", "(LSoldHouse$Floor;)V"⟩
abbrev cX2_fewestAsks : ByteArray := prog_4_method_2_code
def yX2_fewestAsks : MethodName := ⟨RX2, "fewestAsks", "(I)I"⟩
abbrev cX2_firstDoor : ByteArray := prog_4_method_3_code
def yX2_firstDoor : MethodName := ⟨RX2, "firstDoor", "(I)I"⟩
abbrev cX2_bestDoor : ByteArray := prog_4_method_4_code
def yX2_bestDoor : MethodName := ⟨RX2, "bestDoor", "(I)I"⟩
abbrev cX2_asksBy : ByteArray := prog_4_method_5_code
def yX2_asksBy : MethodName := ⟨RX2, "asksBy", "(II)I"⟩
def RX3 : String := "SoldHouse$Memory"
def TX3 : u_T := fun k => match k with
  | 0 => ("SoldHouse$Memory", "floor", "LSoldHouse$Floor;", true)
  | 1 => ("SoldHouse$Memory", "now", "[I", true)
  | 2 => ("SoldHouse$Memory", "ahead", "[I", true)
  | 3 => ("SoldHouse$Memory", "kept", "[[I", true)
  | 4 => ("SoldHouse$Memory", "oldest", "I", false)
  | 5 => ("SoldHouse$Memory", "done", "I", false)
  | 6 => ("SoldHouse$Memory", "undone", "I", false)
  | 7 => ("SoldHouse$Memory", "box", "[[I", true)
  | _ => ("SoldHouse$Memory", "full", "[Z", true)
def tyX3 : Nat → FieldType := fun k => match k with
  | 0 => .object "SoldHouse$Floor"
  | 1 => .array .int
  | 2 => .array .int
  | 3 => .array (.array .int)
  | 4 => .int
  | 5 => .int
  | 6 => .int
  | 7 => .array (.array .int)
  | _ => .array .boolean
abbrev wsX30 : List Cond := u_ws RX3 TX3 9
theorem nmX3 : ∀ a, a < 9 → ∀ b, b < 9 → a ≠ b → (TX3 a).2.1 ≠ (TX3 b).2.1 := by decide +kernel
theorem tyX3_ok : ∀ k, k < 9 → parseFieldDescriptor (TX3 k).2.2.1 = some (tyX3 k) := by decide +kernel
abbrev cX3_init : ByteArray := prog_5_method_1_code
def yX3_init : MethodName := ⟨RX3, "<init>", "(LSoldHouse$Floor;)V"⟩
abbrev cX3_begin : ByteArray := prog_5_method_2_code
def yX3_begin : MethodName := ⟨RX3, "begin", "()V"⟩
abbrev cX3_thingsWith : ByteArray := prog_5_method_3_code
def yX3_thingsWith : MethodName := ⟨RX3, "thingsWith", "(II)I"⟩
abbrev cX3_isRight : ByteArray := prog_5_method_4_code
def yX3_isRight : MethodName := ⟨RX3, "isRight", "([II)Z"⟩
abbrev cX3_rightThings : ByteArray := prog_5_method_5_code
def yX3_rightThings : MethodName := ⟨RX3, "rightThings", "([I)I"⟩
abbrev cX3_farOff : ByteArray := prog_5_method_6_code
def yX3_farOff : MethodName := ⟨RX3, "farOff", "([II)I"⟩
abbrev cX3_sureOf : ByteArray := prog_5_method_7_code
def yX3_sureOf : MethodName := ⟨RX3, "sureOf", "([III)I"⟩
abbrev cX3_speak : ByteArray := prog_5_method_8_code
def yX3_speak : MethodName := ⟨RX3, "speak", "(II)V"⟩
abbrev cX3_bring : ByteArray := prog_5_method_9_code
def yX3_bring : MethodName := ⟨RX3, "bring", "(II)V"⟩
abbrev cX3_passDay : ByteArray := prog_5_method_10_code
def yX3_passDay : MethodName := ⟨RX3, "passDay", "([I)I"⟩
abbrev cX3_mostMended : ByteArray := prog_5_method_11_code
def yX3_mostMended : MethodName := ⟨RX3, "mostMended", "(I)I"⟩
abbrev cX3_oddsToStay : ByteArray := prog_5_method_12_code
def yX3_oddsToStay : MethodName := ⟨RX3, "oddsToStay", "(III)I"⟩
abbrev cX3_thoughtBehind : ByteArray := prog_5_method_13_code
def yX3_thoughtBehind : MethodName := ⟨RX3, "thoughtBehind", "(II)I"⟩
abbrev cX3_daysTillLost : ByteArray := prog_5_method_14_code
def yX3_daysTillLost : MethodName := ⟨RX3, "daysTillLost", "()I"⟩
abbrev cX3_keepAct : ByteArray := prog_5_method_15_code
def yX3_keepAct : MethodName := ⟨RX3, "keepAct", "()V"⟩
abbrev cX3_stepBack : ByteArray := prog_5_method_16_code
def yX3_stepBack : MethodName := ⟨RX3, "stepBack", "()Z"⟩
abbrev cX3_stepOn : ByteArray := prog_5_method_17_code
def yX3_stepOn : MethodName := ⟨RX3, "stepOn", "()Z"⟩
abbrev cX3_putInBox : ByteArray := prog_5_method_18_code
def yX3_putInBox : MethodName := ⟨RX3, "putInBox", "(I)I"⟩
abbrev cX3_takeFromBox : ByteArray := prog_5_method_19_code
def yX3_takeFromBox : MethodName := ⟨RX3, "takeFromBox", "(I)I"⟩
abbrev cX3_forgetActs : ByteArray := prog_5_method_20_code
def yX3_forgetActs : MethodName := ⟨RX3, "forgetActs", "()V"⟩
abbrev cX3_commonOf : ByteArray := prog_5_method_21_code
def yX3_commonOf : MethodName := ⟨RX3, "commonOf", "(II)I"⟩
def RX4 : String := "SoldHouse$Night"
def TX4 : u_T := fun k => match k with
  | 0 => ("SoldHouse$Night", "floor", "LSoldHouse$Floor;", true)
  | 1 => ("SoldHouse$Night", "count", "I", false)
  | 2 => ("SoldHouse$Night", "time", "I", false)
  | 3 => ("SoldHouse$Night", "minute", "[I", true)
  | 4 => ("SoldHouse$Night", "rooms", "[I", true)
  | 5 => ("SoldHouse$Night", "toldAt", "[I", true)
  | 6 => ("SoldHouse$Night", "untoldAt", "[I", true)
  | 7 => ("SoldHouse$Night", "open", "[I", true)
  | 8 => ("SoldHouse$Night", "into", "[I", true)
  | _ => ("SoldHouse$Night", "onward", "[I", true)
def tyX4 : Nat → FieldType := fun k => match k with
  | 0 => .object "SoldHouse$Floor"
  | 1 => .int
  | 2 => .int
  | 3 => .array .int
  | 4 => .array .int
  | 5 => .array .int
  | 6 => .array .int
  | 7 => .array .int
  | 8 => .array .int
  | _ => .array .int
abbrev wsX40 : List Cond := u_ws RX4 TX4 10
theorem nmX4 : ∀ a, a < 10 → ∀ b, b < 10 → a ≠ b → (TX4 a).2.1 ≠ (TX4 b).2.1 := by decide +kernel
theorem tyX4_ok : ∀ k, k < 10 → parseFieldDescriptor (TX4 k).2.2.1 = some (tyX4 k) := by decide +kernel
abbrev cX4_init : ByteArray := prog_6_method_1_code
def yX4_init : MethodName := ⟨RX4, "<init>", "(LSoldHouse$Floor;)V"⟩
abbrev cX4_note : ByteArray := prog_6_method_2_code
def yX4_note : MethodName := ⟨RX4, "note", "(IIZ)I"⟩
abbrev cX4_takeBack : ByteArray := prog_6_method_3_code
def yX4_takeBack : MethodName := ⟨RX4, "takeBack", "(I)Z"⟩
abbrev cX4_moveOn : ByteArray := prog_6_method_4_code
def yX4_moveOn : MethodName := ⟨RX4, "moveOn", "(I)I"⟩
abbrev cX4_countWalks : ByteArray := prog_6_method_5_code
def yX4_countWalks : MethodName := ⟨RX4, "countWalks", "(I)I"⟩
abbrev cX4_onlyRoom : ByteArray := prog_6_method_6_code
def yX4_onlyRoom : MethodName := ⟨RX4, "onlyRoom", "(I)I"⟩
abbrev cX4_bestMinute : ByteArray := prog_6_method_7_code
def yX4_bestMinute : MethodName := ⟨RX4, "bestMinute", "()I"⟩
abbrev cX4_mostLeft : ByteArray := prog_6_method_8_code
def yX4_mostLeft : MethodName := ⟨RX4, "mostLeft", "(I)I"⟩
abbrev cX4_through : ByteArray := prog_6_method_9_code
def yX4_through : MethodName := ⟨RX4, "through", "(II)I"⟩
abbrev cX4_openRooms : ByteArray := prog_6_method_10_code
def yX4_openRooms : MethodName := ⟨RX4, "openRooms", "(I)V"⟩
abbrev cX4_isOpen : ByteArray := prog_6_method_11_code
def yX4_isOpen : MethodName := ⟨RX4, "isOpen", "(II)Z"⟩
abbrev cX4_comingTo : ByteArray := prog_6_method_12_code
def yX4_comingTo : MethodName := ⟨RX4, "comingTo", "(II)I"⟩
abbrev cX4_goingOn : ByteArray := prog_6_method_13_code
def yX4_goingOn : MethodName := ⟨RX4, "goingOn", "(II)I"⟩
abbrev cX4_sumAround : ByteArray := prog_6_method_14_code
def yX4_sumAround : MethodName := ⟨RX4, "sumAround", "([III)I"⟩
def RX5 : String := "SoldHouse$Plan"
def TX5 : u_T := fun k => match k with
  | 0 => ("SoldHouse$Plan", "rooms", "I", false)
  | 1 => ("SoldHouse$Plan", "roomName", "[J", true)
  | 2 => ("SoldHouse$Plan", "creaks", "[I", true)
  | 3 => ("SoldHouse$Plan", "doors", "I", false)
  | 4 => ("SoldHouse$Plan", "doorFrom", "[I", true)
  | 5 => ("SoldHouse$Plan", "doorTo", "[I", true)
  | 6 => ("SoldHouse$Plan", "things", "I", false)
  | 7 => ("SoldHouse$Plan", "thingName", "[J", true)
  | 8 => ("SoldHouse$Plan", "in", "[I", true)
  | 9 => ("SoldHouse$Plan", "was", "[I", true)
  | 10 => ("SoldHouse$Plan", "ours", "[I", true)
  | 11 => ("SoldHouse$Plan", "us", "[I", true)
  | 12 => ("SoldHouse$Plan", "them", "[I", true)
  | 13 => ("SoldHouse$Plan", "sure", "LSoldHouse$Formula;", true)
  | 14 => ("SoldHouse$Plan", "draw", "I", false)
  | _ => ("SoldHouse$Plan", "drawTold", "Z", false)
def tyX5 : Nat → FieldType := fun k => match k with
  | 0 => .int
  | 1 => .array .long
  | 2 => .array .int
  | 3 => .int
  | 4 => .array .int
  | 5 => .array .int
  | 6 => .int
  | 7 => .array .long
  | 8 => .array .int
  | 9 => .array .int
  | 10 => .array .int
  | 11 => .array .int
  | 12 => .array .int
  | 13 => .object "SoldHouse$Formula"
  | 14 => .int
  | _ => .boolean
abbrev wsX50 : List Cond := u_ws RX5 TX5 16
theorem nmX5 : ∀ a, a < 16 → ∀ b, b < 16 → a ≠ b → (TX5 a).2.1 ≠ (TX5 b).2.1 := by decide +kernel
theorem tyX5_ok : ∀ k, k < 16 → parseFieldDescriptor (TX5 k).2.2.1 = some (tyX5 k) := by decide +kernel
abbrev cX5_init : ByteArray := prog_7_method_1_code
def yX5_init : MethodName := ⟨RX5, "<init>", "()V"⟩
abbrev cX5_clear : ByteArray := prog_7_method_2_code
def yX5_clear : MethodName := ⟨RX5, "clear", "()V"⟩
abbrev cX5_roomNamed : ByteArray := prog_7_method_3_code
def yX5_roomNamed : MethodName := ⟨RX5, "roomNamed", "(J)I"⟩
abbrev cX5_hasThingNamed : ByteArray := prog_7_method_4_code
def yX5_hasThingNamed : MethodName := ⟨RX5, "hasThingNamed", "(J)Z"⟩
abbrev cX5_hasDoorOf : ByteArray := prog_7_method_5_code
def yX5_hasDoorOf : MethodName := ⟨RX5, "hasDoorOf", "(II)Z"⟩
abbrev cX5_behind : ByteArray := prog_7_method_6_code
def yX5_behind : MethodName := ⟨RX5, "behind", "(II)I"⟩
def RX6 : String := "SoldHouse$Reader"
def TX6 : u_T := fun k => match k with
  | 0 => ("SoldHouse$Reader", "tokens", "LSoldHouse$Tokens;", true)
  | 1 => ("SoldHouse$Reader", "plan", "LSoldHouse$Plan;", false)
  | 2 => ("SoldHouse$Reader", "fault", "I", false)
  | _ => ("SoldHouse$Reader", "faultPlace", "I", false)
def tyX6 : Nat → FieldType := fun k => match k with
  | 0 => .object "SoldHouse$Tokens"
  | 1 => .object "SoldHouse$Plan"
  | 2 => .int
  | _ => .int
abbrev wsX60 : List Cond := u_ws RX6 TX6 4
theorem nmX6 : ∀ a, a < 4 → ∀ b, b < 4 → a ≠ b → (TX6 a).2.1 ≠ (TX6 b).2.1 := by decide +kernel
theorem tyX6_ok : ∀ k, k < 4 → parseFieldDescriptor (TX6 k).2.2.1 = some (tyX6 k) := by decide +kernel
abbrev cX6_init : ByteArray := prog_8_method_1_code
def yX6_init : MethodName := ⟨RX6, "<init>", "(LSoldHouse$Tape;LSoldHouse$Plan;)V"⟩
abbrev cX6_readInto : ByteArray := prog_8_method_2_code
def yX6_readInto : MethodName := ⟨RX6, "readInto", "(LSoldHouse$Plan;)Z"⟩
abbrev cX6_readRoom : ByteArray := prog_8_method_3_code
def yX6_readRoom : MethodName := ⟨RX6, "readRoom", "()Z"⟩
abbrev cX6_readDoor : ByteArray := prog_8_method_4_code
def yX6_readDoor : MethodName := ⟨RX6, "readDoor", "()Z"⟩
abbrev cX6_readThing : ByteArray := prog_8_method_5_code
def yX6_readThing : MethodName := ⟨RX6, "readThing", "()Z"⟩
abbrev cX6_readPlaces : ByteArray := prog_8_method_6_code
def yX6_readPlaces : MethodName := ⟨RX6, "readPlaces", "(I)Z"⟩
abbrev cX6_readWorths : ByteArray := prog_8_method_7_code
def yX6_readWorths : MethodName := ⟨RX6, "readWorths", "(I)Z"⟩
abbrev cX6_readSure : ByteArray := prog_8_method_8_code
def yX6_readSure : MethodName := ⟨RX6, "readSure", "()Z"⟩
abbrev cX6_readDraw : ByteArray := prog_8_method_9_code
def yX6_readDraw : MethodName := ⟨RX6, "readDraw", "()Z"⟩
abbrev cX6_readEither : ByteArray := prog_8_method_10_code
def yX6_readEither : MethodName := ⟨RX6, "readEither", "(I)Z"⟩
abbrev cX6_readBoth : ByteArray := prog_8_method_11_code
def yX6_readBoth : MethodName := ⟨RX6, "readBoth", "(I)Z"⟩
abbrev cX6_readOne : ByteArray := prog_8_method_12_code
def yX6_readOne : MethodName := ⟨RX6, "readOne", "(I)Z"⟩
abbrev cX6_readRelation : ByteArray := prog_8_method_13_code
def yX6_readRelation : MethodName := ⟨RX6, "readRelation", "(I)Z"⟩
abbrev cX6_readSum : ByteArray := prog_8_method_14_code
def yX6_readSum : MethodName := ⟨RX6, "readSum", "(I)Z"⟩
abbrev cX6_readTerm : ByteArray := prog_8_method_15_code
def yX6_readTerm : MethodName := ⟨RX6, "readTerm", "(I)Z"⟩
abbrev cX6_readUnit : ByteArray := prog_8_method_16_code
def yX6_readUnit : MethodName := ⟨RX6, "readUnit", "(I)Z"⟩
abbrev cX6_readInner : ByteArray := prog_8_method_17_code
def yX6_readInner : MethodName := ⟨RX6, "readInner", "(I)Z"⟩
abbrev cX6_knownValue : ByteArray := prog_8_method_18_code
def yX6_knownValue : MethodName := ⟨RX6, "knownValue", "()I"⟩
abbrev cX6_relation : ByteArray := prog_8_method_19_code
def yX6_relation : MethodName := ⟨RX6, "relation", "()I"⟩
abbrev cX6_product : ByteArray := prog_8_method_20_code
def yX6_product : MethodName := ⟨RX6, "product", "()I"⟩
abbrev cX6_readNumberBehind : ByteArray := prog_8_method_21_code
def yX6_readNumberBehind : MethodName := ⟨RX6, "readNumberBehind", "(II)I"⟩
abbrev cX6_knownRoom : ByteArray := prog_8_method_22_code
def yX6_knownRoom : MethodName := ⟨RX6, "knownRoom", "()I"⟩
abbrev cX6_readSign : ByteArray := prog_8_method_23_code
def yX6_readSign : MethodName := ⟨RX6, "readSign", "(C)Z"⟩
abbrev cX6_refuse : ByteArray := prog_8_method_24_code
def yX6_refuse : MethodName := ⟨RX6, "refuse", "(I)Z"⟩
def RX7 : String := "SoldHouse$Routes"
def TX7 : u_T := fun k => match k with
  | 0 => ("SoldHouse$Routes", "floor", "LSoldHouse$Floor;", true)
  | 1 => ("SoldHouse$Routes", "lie", "[I", true)
  | 2 => ("SoldHouse$Routes", "lying", "I", false)
  | 3 => ("SoldHouse$Routes", "cost", "[I", true)
  | _ => ("SoldHouse$Routes", "rest", "[I", true)
def tyX7 : Nat → FieldType := fun k => match k with
  | 0 => .object "SoldHouse$Floor"
  | 1 => .array .int
  | 2 => .int
  | 3 => .array .int
  | _ => .array .int
abbrev wsX70 : List Cond := u_ws RX7 TX7 5
theorem nmX7 : ∀ a, a < 5 → ∀ b, b < 5 → a ≠ b → (TX7 a).2.1 ≠ (TX7 b).2.1 := by decide +kernel
theorem tyX7_ok : ∀ k, k < 5 → parseFieldDescriptor (TX7 k).2.2.1 = some (tyX7 k) := by decide +kernel
abbrev cX7_init : ByteArray := prog_9_method_1_code
def yX7_init : MethodName := ⟨RX7, "<init>", "(LSoldHouse$Floor;)V"⟩
abbrev cX7_layWay : ByteArray := prog_9_method_2_code
def yX7_layWay : MethodName := ⟨RX7, "layWay", "(II)I"⟩
abbrev cX7_layQuiet : ByteArray := prog_9_method_3_code
def yX7_layQuiet : MethodName := ⟨RX7, "layQuiet", "(II)I"⟩
abbrev cX7_countWays : ByteArray := prog_9_method_4_code
def yX7_countWays : MethodName := ⟨RX7, "countWays", "(II)I"⟩
abbrev cX7_layTour : ByteArray := prog_9_method_5_code
def yX7_layTour : MethodName := ⟨RX7, "layTour", "(II)I"⟩
abbrev cX7_lay : ByteArray := prog_9_method_6_code
def yX7_lay : MethodName := ⟨RX7, "lay", "(I)V"⟩
abbrev cX7_nextOnWay : ByteArray := prog_9_method_7_code
def yX7_nextOnWay : MethodName := ⟨RX7, "nextOnWay", "(III)I"⟩
abbrev cX7_costTo : ByteArray := prog_9_method_8_code
def yX7_costTo : MethodName := ⟨RX7, "costTo", "(I)V"⟩
abbrev cX7_nextOnQuiet : ByteArray := prog_9_method_9_code
def yX7_nextOnQuiet : MethodName := ⟨RX7, "nextOnQuiet", "(I)I"⟩
abbrev cX7_costBy : ByteArray := prog_9_method_10_code
def yX7_costBy : MethodName := ⟨RX7, "costBy", "(II)I"⟩
abbrev cX7_waysInto : ByteArray := prog_9_method_11_code
def yX7_waysInto : MethodName := ⟨RX7, "waysInto", "(II)I"⟩
abbrev cX7_measureTours : ByteArray := prog_9_method_12_code
def yX7_measureTours : MethodName := ⟨RX7, "measureTours", "(II)V"⟩
abbrev cX7_nextOnTour : ByteArray := prog_9_method_13_code
def yX7_nextOnTour : MethodName := ⟨RX7, "nextOnTour", "(II)I"⟩
abbrev cX7_tourBy : ByteArray := prog_9_method_14_code
def yX7_tourBy : MethodName := ⟨RX7, "tourBy", "(III)I"⟩
def RX8 : String := "SoldHouse$Tape"
def TX8 : u_T := fun k => match k with
  | 0 => ("SoldHouse$Tape", "bytes", "[B", true)
  | _ => ("SoldHouse$Tape", "size", "I", false)
def tyX8 : Nat → FieldType := fun k => match k with
  | 0 => .array .byte
  | _ => .int
abbrev wsX80 : List Cond := u_ws RX8 TX8 2
theorem nmX8 : ∀ a, a < 2 → ∀ b, b < 2 → a ≠ b → (TX8 a).2.1 ≠ (TX8 b).2.1 := by decide +kernel
theorem tyX8_ok : ∀ k, k < 2 → parseFieldDescriptor (TX8 k).2.2.1 = some (tyX8 k) := by decide +kernel
abbrev cX8_init : ByteArray := prog_10_method_1_code
def yX8_init : MethodName := ⟨RX8, "<init>", "()V"⟩
abbrev cX8_put : ByteArray := prog_10_method_2_code
def yX8_put : MethodName := ⟨RX8, "put", "(I)V"⟩
def RX9 : String := "SoldHouse$Tokens"
def TX9 : u_T := fun k => match k with
  | 0 => ("SoldHouse$Tokens", "tape", "LSoldHouse$Tape;", true)
  | 1 => ("SoldHouse$Tokens", "own", "[J", true)
  | 2 => ("SoldHouse$Tokens", "kind", "I", false)
  | 3 => ("SoldHouse$Tokens", "place", "I", false)
  | 4 => ("SoldHouse$Tokens", "behind", "I", false)
  | 5 => ("SoldHouse$Tokens", "word", "J", false)
  | _ => ("SoldHouse$Tokens", "value", "I", false)
def tyX9 : Nat → FieldType := fun k => match k with
  | 0 => .object "SoldHouse$Tape"
  | 1 => .array .long
  | 2 => .int
  | 3 => .int
  | 4 => .int
  | 5 => .long
  | _ => .int
abbrev wsX90 : List Cond := u_ws RX9 TX9 7
theorem nmX9 : ∀ a, a < 7 → ∀ b, b < 7 → a ≠ b → (TX9 a).2.1 ≠ (TX9 b).2.1 := by decide +kernel
theorem tyX9_ok : ∀ k, k < 7 → parseFieldDescriptor (TX9 k).2.2.1 = some (tyX9 k) := by decide +kernel
abbrev cX9_init : ByteArray := prog_11_method_1_code
def yX9_init : MethodName := ⟨RX9, "<init>", "(LSoldHouse$Tape;)V"⟩
abbrev cX9_begin : ByteArray := prog_11_method_2_code
def yX9_begin : MethodName := ⟨RX9, "begin", "()V"⟩
abbrev cX9_advance : ByteArray := prog_11_method_3_code
def yX9_advance : MethodName := ⟨RX9, "advance", "()V"⟩
abbrev cX9_isName : ByteArray := prog_11_method_4_code
def yX9_isName : MethodName := ⟨RX9, "isName", "()Z"⟩
abbrev cX9_isOwn : ByteArray := prog_11_method_5_code
def yX9_isOwn : MethodName := ⟨RX9, "isOwn", "(I)Z"⟩
abbrev cX9_isSign : ByteArray := prog_11_method_6_code
def yX9_isSign : MethodName := ⟨RX9, "isSign", "(C)Z"⟩
abbrev cX9_readWord : ByteArray := prog_11_method_7_code
def yX9_readWord : MethodName := ⟨RX9, "readWord", "()V"⟩
abbrev cX9_readNumber : ByteArray := prog_11_method_8_code
def yX9_readNumber : MethodName := ⟨RX9, "readNumber", "()V"⟩
abbrev cX9_readSign : ByteArray := prog_11_method_9_code
def yX9_readSign : MethodName := ⟨RX9, "readSign", "()V"⟩
abbrev cX9_numberOfOwn : ByteArray := prog_11_method_10_code
def yX9_numberOfOwn : MethodName := ⟨RX9, "numberOfOwn", "()I"⟩
abbrev cX9_withLetter : ByteArray := prog_11_method_11_code
def yX9_withLetter : MethodName := ⟨RX9, "withLetter", "(JI)J"⟩
abbrev cX9_isBlank : ByteArray := prog_11_method_12_code
def yX9_isBlank : MethodName := ⟨RX9, "isBlank", "(I)Z"⟩
abbrev cX9_isLetter : ByteArray := prog_11_method_13_code
def yX9_isLetter : MethodName := ⟨RX9, "isLetter", "(I)Z"⟩
abbrev cX9_isDigit : ByteArray := prog_11_method_14_code
def yX9_isDigit : MethodName := ⟨RX9, "isDigit", "(I)Z"⟩
def RX10 : String := "SoldHouse$Trader"
def TX10 : u_T := fun k => match k with
  | _ => ("SoldHouse$Trader", "memory", "LSoldHouse$Memory;", true)
def tyX10 : Nat → FieldType := fun k => match k with
  | _ => .object "SoldHouse$Memory"
abbrev wsX100 : List Cond := u_ws RX10 TX10 1
theorem nmX10 : ∀ a, a < 1 → ∀ b, b < 1 → a ≠ b → (TX10 a).2.1 ≠ (TX10 b).2.1 := by decide +kernel
theorem tyX10_ok : ∀ k, k < 1 → parseFieldDescriptor (TX10 k).2.2.1 = some (tyX10 k) := by decide +kernel
abbrev cX10_init : ByteArray := prog_12_method_1_code
def yX10_init : MethodName := ⟨RX10, "<init>", "(LSoldHouse$Memory;)V"⟩
abbrev cX10_betterElsewhere : ByteArray := prog_12_method_2_code
def yX10_betterElsewhere : MethodName := ⟨RX10, "betterElsewhere", "()I"⟩
abbrev cX10_worthOf : ByteArray := prog_12_method_3_code
def yX10_worthOf : MethodName := ⟨RX10, "worthOf", "(I[I)I"⟩
abbrev cX10_bestPair : ByteArray := prog_12_method_4_code
def yX10_bestPair : MethodName := ⟨RX10, "bestPair", "()I"⟩
abbrev cX10_gainOf : ByteArray := prog_12_method_5_code
def yX10_gainOf : MethodName := ⟨RX10, "gainOf", "(II)I"⟩
abbrev cX10_mostTrades : ByteArray := prog_12_method_6_code
def yX10_mostTrades : MethodName := ⟨RX10, "mostTrades", "()I"⟩
abbrev cX10_mostPairs : ByteArray := prog_12_method_7_code
def yX10_mostPairs : MethodName := ⟨RX10, "mostPairs", "(II)I"⟩
abbrev cX10_isOurs : ByteArray := prog_12_method_8_code
def yX10_isOurs : MethodName := ⟨RX10, "isOurs", "(I)Z"⟩
abbrev cX10_isFair : ByteArray := prog_12_method_9_code
def yX10_isFair : MethodName := ⟨RX10, "isFair", "(II)Z"⟩
abbrev cX10_ourGain : ByteArray := prog_12_method_10_code
def yX10_ourGain : MethodName := ⟨RX10, "ourGain", "(II)I"⟩
abbrev cX10_theirGain : ByteArray := prog_12_method_11_code
def yX10_theirGain : MethodName := ⟨RX10, "theirGain", "(II)I"⟩
def RX11 : String := "SoldHouse"
def TX11 : u_T := fun k => match k with
  | 0 => ("SoldHouse", "plan", "LSoldHouse$Plan;", false)
  | 1 => ("SoldHouse", "draft", "LSoldHouse$Plan;", false)
  | 2 => ("SoldHouse", "tape", "LSoldHouse$Tape;", true)
  | 3 => ("SoldHouse", "reader", "LSoldHouse$Reader;", true)
  | 4 => ("SoldHouse", "floor", "LSoldHouse$Floor;", true)
  | 5 => ("SoldHouse", "routes", "LSoldHouse$Routes;", true)
  | 6 => ("SoldHouse", "hunter", "LSoldHouse$Hunter;", true)
  | 7 => ("SoldHouse", "memory", "LSoldHouse$Memory;", true)
  | 8 => ("SoldHouse", "trader", "LSoldHouse$Trader;", true)
  | _ => ("SoldHouse", "night", "LSoldHouse$Night;", true)
def tyX11 : Nat → FieldType := fun k => match k with
  | 0 => .object "SoldHouse$Plan"
  | 1 => .object "SoldHouse$Plan"
  | 2 => .object "SoldHouse$Tape"
  | 3 => .object "SoldHouse$Reader"
  | 4 => .object "SoldHouse$Floor"
  | 5 => .object "SoldHouse$Routes"
  | 6 => .object "SoldHouse$Hunter"
  | 7 => .object "SoldHouse$Memory"
  | 8 => .object "SoldHouse$Trader"
  | _ => .object "SoldHouse$Night"
abbrev wsX110 : List Cond := u_ws RX11 TX11 10
theorem nmX11 : ∀ a, a < 10 → ∀ b, b < 10 → a ≠ b → (TX11 a).2.1 ≠ (TX11 b).2.1 := by decide +kernel
theorem tyX11_ok : ∀ k, k < 10 → parseFieldDescriptor (TX11 k).2.2.1 = some (tyX11 k) := by decide +kernel
abbrev cX11_init : ByteArray := prog_1_method_1_code
def yX11_init : MethodName := ⟨RX11, "<init>", "()V"⟩
abbrev cX11_feed : ByteArray := prog_1_method_2_code
def yX11_feed : MethodName := ⟨RX11, "feed", "(IIIII)I"⟩
abbrev cX11_end : ByteArray := prog_1_method_3_code
def yX11_end : MethodName := ⟨RX11, "end", "(I)I"⟩
abbrev cX11_house : ByteArray := prog_1_method_4_code
def yX11_house : MethodName := ⟨RX11, "house", "()I"⟩
abbrev cX11_fault : ByteArray := prog_1_method_5_code
def yX11_fault : MethodName := ⟨RX11, "fault", "(I)I"⟩
abbrev cX11_room : ByteArray := prog_1_method_6_code
def yX11_room : MethodName := ⟨RX11, "room", "(II)I"⟩
abbrev cX11_thing : ByteArray := prog_1_method_7_code
def yX11_thing : MethodName := ⟨RX11, "thing", "(II)I"⟩
abbrev cX11_door : ByteArray := prog_1_method_8_code
def yX11_door : MethodName := ⟨RX11, "door", "(II)I"⟩
abbrev cX11_far : ByteArray := prog_1_method_9_code
def yX11_far : MethodName := ⟨RX11, "far", "(II)I"⟩
abbrev cX11_tell : ByteArray := prog_1_method_10_code
def yX11_tell : MethodName := ⟨RX11, "tell", "(I)I"⟩
abbrev cX11_hear : ByteArray := prog_1_method_11_code
def yX11_hear : MethodName := ⟨RX11, "hear", "(I)I"⟩
abbrev cX11_carry : ByteArray := prog_1_method_12_code
def yX11_carry : MethodName := ⟨RX11, "carry", "(II)I"⟩
abbrev cX11_send : ByteArray := prog_1_method_13_code
def yX11_send : MethodName := ⟨RX11, "send", "(I)I"⟩
abbrev cX11_day : ByteArray := prog_1_method_14_code
def yX11_day : MethodName := ⟨RX11, "day", "()I"⟩
abbrev cX11_undo : ByteArray := prog_1_method_15_code
def yX11_undo : MethodName := ⟨RX11, "undo", "()Z"⟩
abbrev cX11_redo : ByteArray := prog_1_method_16_code
def yX11_redo : MethodName := ⟨RX11, "redo", "()Z"⟩
abbrev cX11_way : ByteArray := prog_1_method_17_code
def yX11_way : MethodName := ⟨RX11, "way", "(II)I"⟩
abbrev cX11_quiet : ByteArray := prog_1_method_18_code
def yX11_quiet : MethodName := ⟨RX11, "quiet", "(II)I"⟩
abbrev cX11_ways : ByteArray := prog_1_method_19_code
def yX11_ways : MethodName := ⟨RX11, "ways", "(II)I"⟩
abbrev cX11_pieces : ByteArray := prog_1_method_20_code
def yX11_pieces : MethodName := ⟨RX11, "pieces", "()I"⟩
abbrev cX11_parts : ByteArray := prog_1_method_21_code
def yX11_parts : MethodName := ⟨RX11, "parts", "()I"⟩
abbrev cX11_hunt : ByteArray := prog_1_method_22_code
def yX11_hunt : MethodName := ⟨RX11, "hunt", "(I)I"⟩
abbrev cX11_first : ByteArray := prog_1_method_23_code
def yX11_first : MethodName := ⟨RX11, "first", "(I)I"⟩
abbrev cX11_meet : ByteArray := prog_1_method_24_code
def yX11_meet : MethodName := ⟨RX11, "meet", "(III)I"⟩
abbrev cX11_bar : ByteArray := prog_1_method_25_code
def yX11_bar : MethodName := ⟨RX11, "bar", "(III)I"⟩
abbrev cX11_tour : ByteArray := prog_1_method_26_code
def yX11_tour : MethodName := ⟨RX11, "tour", "(II)I"⟩
abbrev cX11_centre : ByteArray := prog_1_method_27_code
def yX11_centre : MethodName := ⟨RX11, "centre", "()I"⟩
abbrev cX11_nooks : ByteArray := prog_1_method_28_code
def yX11_nooks : MethodName := ⟨RX11, "nooks", "()I"⟩
abbrev cX11_echo : ByteArray := prog_1_method_29_code
def yX11_echo : MethodName := ⟨RX11, "echo", "(II)I"⟩
abbrev cX11_mend : ByteArray := prog_1_method_30_code
def yX11_mend : MethodName := ⟨RX11, "mend", "(I)I"⟩
abbrev cX11_regret : ByteArray := prog_1_method_31_code
def yX11_regret : MethodName := ⟨RX11, "regret", "()I"⟩
abbrev cX11_trade : ByteArray := prog_1_method_32_code
def yX11_trade : MethodName := ⟨RX11, "trade", "(I)I"⟩
abbrev cX11_trades : ByteArray := prog_1_method_33_code
def yX11_trades : MethodName := ⟨RX11, "trades", "()I"⟩
abbrev cX11_wealth : ByteArray := prog_1_method_34_code
def yX11_wealth : MethodName := ⟨RX11, "wealth", "(I)I"⟩
abbrev cX11_off : ByteArray := prog_1_method_35_code
def yX11_off : MethodName := ⟨RX11, "off", "()I"⟩
abbrev cX11_right : ByteArray := prog_1_method_36_code
def yX11_right : MethodName := ⟨RX11, "right", "()I"⟩
abbrev cX11_deep : ByteArray := prog_1_method_37_code
def yX11_deep : MethodName := ⟨RX11, "deep", "(I)I"⟩
abbrev cX11_stay : ByteArray := prog_1_method_38_code
def yX11_stay : MethodName := ⟨RX11, "stay", "(III)I"⟩
abbrev cX11_will : ByteArray := prog_1_method_39_code
def yX11_will : MethodName := ⟨RX11, "will", "(II)I"⟩
abbrev cX11_lost : ByteArray := prog_1_method_40_code
def yX11_lost : MethodName := ⟨RX11, "lost", "()I"⟩
abbrev cX11_lies : ByteArray := prog_1_method_41_code
def yX11_lies : MethodName := ⟨RX11, "lies", "(I)I"⟩
abbrev cX11_heard : ByteArray := prog_1_method_42_code
def yX11_heard : MethodName := ⟨RX11, "heard", "(IIZ)I"⟩
abbrev cX11_seen : ByteArray := prog_1_method_43_code
def yX11_seen : MethodName := ⟨RX11, "seen", "(IIZ)I"⟩
abbrev cX11_untell : ByteArray := prog_1_method_44_code
def yX11_untell : MethodName := ⟨RX11, "untell", "(I)Z"⟩
abbrev cX11_later : ByteArray := prog_1_method_45_code
def yX11_later : MethodName := ⟨RX11, "later", "(I)I"⟩
abbrev cX11_walks : ByteArray := prog_1_method_46_code
def yX11_walks : MethodName := ⟨RX11, "walks", "(I)I"⟩
abbrev cX11_certain : ByteArray := prog_1_method_47_code
def yX11_certain : MethodName := ⟨RX11, "certain", "(II)I"⟩
abbrev cX11_ask : ByteArray := prog_1_method_48_code
def yX11_ask : MethodName := ⟨RX11, "ask", "(II)I"⟩
abbrev cX11_image : ByteArray := prog_1_method_49_code
def yX11_image : MethodName := ⟨RX11, "image", "(I)I"⟩
abbrev cX11_back : ByteArray := prog_1_method_50_code
def yX11_back : MethodName := ⟨RX11, "back", "(I)I"⟩
abbrev cX11_about : ByteArray := prog_1_method_51_code
def yX11_about : MethodName := ⟨RX11, "about", "(I)I"⟩
abbrev cX11_takeUp : ByteArray := prog_1_method_52_code
def yX11_takeUp : MethodName := ⟨RX11, "takeUp", "()V"⟩
abbrev cX11_isRoom : ByteArray := prog_1_method_53_code
def yX11_isRoom : MethodName := ⟨RX11, "isRoom", "(I)Z"⟩
abbrev cX11_isThing : ByteArray := prog_1_method_54_code
def yX11_isThing : MethodName := ⟨RX11, "isThing", "(I)Z"⟩
abbrev cX11_isDoor : ByteArray := prog_1_method_55_code
def yX11_isDoor : MethodName := ⟨RX11, "isDoor", "(I)Z"⟩
abbrev cX11_areRooms : ByteArray := prog_1_method_56_code
def yX11_areRooms : MethodName := ⟨RX11, "areRooms", "(I)Z"⟩
abbrev cX11_isMinute : ByteArray := prog_1_method_57_code
def yX11_isMinute : MethodName := ⟨RX11, "isMinute", "(I)Z"⟩
def RX12 : String := "SoldHouseModel"
def TX12 : u_T := fun k => match k with
  | 0 => ("SoldHouseModel", "tape", "[B", true)
  | 1 => ("SoldHouseModel", "text", "[B", true)
  | 2 => ("SoldHouseModel", "taped", "I", false)
  | 3 => ("SoldHouseModel", "size", "I", false)
  | 4 => ("SoldHouseModel", "faultKind", "I", false)
  | 5 => ("SoldHouseModel", "faultPlace", "I", false)
  | 6 => ("SoldHouseModel", "at", "I", false)
  | 7 => ("SoldHouseModel", "end", "I", false)
  | 8 => ("SoldHouseModel", "token", "I", false)
  | 9 => ("SoldHouseModel", "number", "I", false)
  | 10 => ("SoldHouseModel", "name", "J", false)
  | 11 => ("SoldHouseModel", "rooms", "[I", true)
  | 12 => ("SoldHouseModel", "doors", "[I", true)
  | 13 => ("SoldHouseModel", "things", "[I", true)
  | 14 => ("SoldHouseModel", "units", "[I", true)
  | 15 => ("SoldHouseModel", "draw", "[I", true)
  | 16 => ("SoldHouseModel", "creaks", "[I", true)
  | 17 => ("SoldHouseModel", "one", "[I", true)
  | 18 => ("SoldHouseModel", "other", "[I", true)
  | 19 => ("SoldHouseModel", "inTold", "[I", true)
  | 20 => ("SoldHouseModel", "wasTold", "[I", true)
  | 21 => ("SoldHouseModel", "isOurs", "[I", true)
  | 22 => ("SoldHouseModel", "toUs", "[I", true)
  | 23 => ("SoldHouseModel", "toThem", "[I", true)
  | 24 => ("SoldHouseModel", "ruleFrom", "[I", true)
  | 25 => ("SoldHouseModel", "ruleTo", "[I", true)
  | 26 => ("SoldHouseModel", "hasSure", "[Z", true)
  | 27 => ("SoldHouseModel", "isDraw", "[Z", true)
  | 28 => ("SoldHouseModel", "rName", "[J", true)
  | 29 => ("SoldHouseModel", "tName", "[J", true)
  | 30 => ("SoldHouseModel", "code", "[I", true)
  | 31 => ("SoldHouseModel", "codeNumber", "[I", true)
  | 32 => ("SoldHouseModel", "eWhat", "[I", true)
  | 33 => ("SoldHouseModel", "eSign", "[I", true)
  | 34 => ("SoldHouseModel", "pile", "[I", true)
  | 35 => ("SoldHouseModel", "bank", "I", false)
  | 36 => ("SoldHouseModel", "rb", "I", false)
  | 37 => ("SoldHouseModel", "codes", "I", false)
  | 38 => ("SoldHouseModel", "within", "I", false)
  | 39 => ("SoldHouseModel", "piled", "I", false)
  | 40 => ("SoldHouseModel", "unitsInRule", "I", false)
  | 41 => ("SoldHouseModel", "askThing", "I", false)
  | 42 => ("SoldHouseModel", "all", "[I", true)
  | 43 => ("SoldHouseModel", "table", "[I", true)
  | 44 => ("SoldHouseModel", "nearSide", "[I", true)
  | 45 => ("SoldHouseModel", "was", "[I", true)
  | 46 => ("SoldHouseModel", "acts", "I", false)
  | 47 => ("SoldHouseModel", "undone", "I", false)
  | 48 => ("SoldHouseModel", "toGoal", "[I", true)
  | 49 => ("SoldHouseModel", "weight", "[I", true)
  | 50 => ("SoldHouseModel", "laidRow", "[I", true)
  | 51 => ("SoldHouseModel", "laid", "I", false)
  | 52 => ("SoldHouseModel", "waysTo", "[I", true)
  | 53 => ("SoldHouseModel", "waysThen", "[I", true)
  | 54 => ("SoldHouseModel", "hunts", "[I", true)
  | 55 => ("SoldHouseModel", "firsts", "[I", true)
  | 56 => ("SoldHouseModel", "tours", "[I", true)
  | 57 => ("SoldHouseModel", "taken", "[I", true)
  | 58 => ("SoldHouseModel", "kept", "[I", true)
  | 59 => ("SoldHouseModel", "hMinute", "[I", true)
  | 60 => ("SoldHouseModel", "hCreaks", "[I", true)
  | 61 => ("SoldHouseModel", "hRoom", "[I", true)
  | 62 => ("SoldHouseModel", "hIs", "[I", true)
  | 63 => ("SoldHouseModel", "hTold", "[I", true)
  | 64 => ("SoldHouseModel", "hUntold", "[I", true)
  | 65 => ("SoldHouseModel", "waysAt", "[I", true)
  | 66 => ("SoldHouseModel", "waysOn", "[I", true)
  | 67 => ("SoldHouseModel", "heards", "I", false)
  | 68 => ("SoldHouseModel", "time", "I", false)
  | 69 => ("SoldHouseModel", "boxAll", "[I", true)
  | _ => ("SoldHouseModel", "isBoxed", "[Z", true)
def tyX12 : Nat → FieldType := fun k => match k with
  | 0 => .array .byte
  | 1 => .array .byte
  | 2 => .int
  | 3 => .int
  | 4 => .int
  | 5 => .int
  | 6 => .int
  | 7 => .int
  | 8 => .int
  | 9 => .int
  | 10 => .long
  | 11 => .array .int
  | 12 => .array .int
  | 13 => .array .int
  | 14 => .array .int
  | 15 => .array .int
  | 16 => .array .int
  | 17 => .array .int
  | 18 => .array .int
  | 19 => .array .int
  | 20 => .array .int
  | 21 => .array .int
  | 22 => .array .int
  | 23 => .array .int
  | 24 => .array .int
  | 25 => .array .int
  | 26 => .array .boolean
  | 27 => .array .boolean
  | 28 => .array .long
  | 29 => .array .long
  | 30 => .array .int
  | 31 => .array .int
  | 32 => .array .int
  | 33 => .array .int
  | 34 => .array .int
  | 35 => .int
  | 36 => .int
  | 37 => .int
  | 38 => .int
  | 39 => .int
  | 40 => .int
  | 41 => .int
  | 42 => .array .int
  | 43 => .array .int
  | 44 => .array .int
  | 45 => .array .int
  | 46 => .int
  | 47 => .int
  | 48 => .array .int
  | 49 => .array .int
  | 50 => .array .int
  | 51 => .int
  | 52 => .array .int
  | 53 => .array .int
  | 54 => .array .int
  | 55 => .array .int
  | 56 => .array .int
  | 57 => .array .int
  | 58 => .array .int
  | 59 => .array .int
  | 60 => .array .int
  | 61 => .array .int
  | 62 => .array .int
  | 63 => .array .int
  | 64 => .array .int
  | 65 => .array .int
  | 66 => .array .int
  | 67 => .int
  | 68 => .int
  | 69 => .array .int
  | _ => .array .boolean
abbrev wsX120 : List Cond := u_ws RX12 TX12 71
theorem nmX12 : ∀ a, a < 71 → ∀ b, b < 71 → a ≠ b → (TX12 a).2.1 ≠ (TX12 b).2.1 := by decide +kernel
theorem tyX12_ok : ∀ k, k < 71 → parseFieldDescriptor (TX12 k).2.2.1 = some (tyX12 k) := by decide +kernel
abbrev cX12_init : ByteArray := prog_14_method_1_code
def yX12_init : MethodName := ⟨RX12, "<init>", "()V"⟩
abbrev cX12_sign : ByteArray := prog_14_method_2_code
def yX12_sign : MethodName := ⟨RX12, "sign", "(I)I"⟩
abbrev cX12_isLetter : ByteArray := prog_14_method_3_code
def yX12_isLetter : MethodName := ⟨RX12, "isLetter", "(I)Z"⟩
abbrev cX12_isDigit : ByteArray := prog_14_method_4_code
def yX12_isDigit : MethodName := ⟨RX12, "isDigit", "(I)Z"⟩
abbrev cX12_fails : ByteArray := prog_14_method_5_code
def yX12_fails : MethodName := ⟨RX12, "fails", "(II)V"⟩
abbrev cX12_isGood : ByteArray := prog_14_method_6_code
def yX12_isGood : MethodName := ⟨RX12, "isGood", "()Z"⟩
abbrev cX12_isKept : ByteArray := prog_14_method_7_code
def yX12_isKept : MethodName := ⟨RX12, "isKept", "(J)Z"⟩
abbrev cX12_isSign : ByteArray := prog_14_method_8_code
def yX12_isSign : MethodName := ⟨RX12, "isSign", "(I)Z"⟩
abbrev cX12_goOn : ByteArray := prog_14_method_9_code
def yX12_goOn : MethodName := ⟨RX12, "goOn", "()V"⟩
abbrev cX12_isSignHere : ByteArray := prog_14_method_10_code
def yX12_isSignHere : MethodName := ⟨RX12, "isSignHere", "(I)Z"⟩
abbrev cX12_isWord : ByteArray := prog_14_method_11_code
def yX12_isWord : MethodName := ⟨RX12, "isWord", "(J)Z"⟩
abbrev cX12_misplaced : ByteArray := prog_14_method_12_code
def yX12_misplaced : MethodName := ⟨RX12, "misplaced", "()V"⟩
abbrev cX12_must : ByteArray := prog_14_method_13_code
def yX12_must : MethodName := ⟨RX12, "must", "(Z)V"⟩
abbrev cX12_numeral : ByteArray := prog_14_method_14_code
def yX12_numeral : MethodName := ⟨RX12, "numeral", "(II)I"⟩
abbrev cX12_passes : ByteArray := prog_14_method_15_code
def yX12_passes : MethodName := ⟨RX12, "passes", "(J)Z"⟩
abbrev cX12_perhaps : ByteArray := prog_14_method_16_code
def yX12_perhaps : MethodName := ⟨RX12, "perhaps", "(JI)I"⟩
abbrev cX12_clearBank : ByteArray := prog_14_method_17_code
def yX12_clearBank : MethodName := ⟨RX12, "clearBank", "()V"⟩
abbrev cX12_house : ByteArray := prog_14_method_18_code
def yX12_house : MethodName := ⟨RX12, "house", "()I"⟩
abbrev cX12_isFull : ByteArray := prog_14_method_19_code
def yX12_isFull : MethodName := ⟨RX12, "isFull", "()Z"⟩
abbrev cX12_readLine : ByteArray := prog_14_method_20_code
def yX12_readLine : MethodName := ⟨RX12, "readLine", "()V"⟩
abbrev cX12_here : ByteArray := prog_14_method_21_code
def yX12_here : MethodName := ⟨RX12, "here", "([JII)I"⟩
abbrev cX12_roomHere : ByteArray := prog_14_method_22_code
def yX12_roomHere : MethodName := ⟨RX12, "roomHere", "()I"⟩
abbrev cX12_fresh : ByteArray := prog_14_method_23_code
def yX12_fresh : MethodName := ⟨RX12, "fresh", "(I)J"⟩
abbrev cX12_known : ByteArray := prog_14_method_24_code
def yX12_known : MethodName := ⟨RX12, "known", "(I)I"⟩
abbrev cX12_readRoom : ByteArray := prog_14_method_25_code
def yX12_readRoom : MethodName := ⟨RX12, "readRoom", "()V"⟩
abbrev cX12_isDoor : ByteArray := prog_14_method_26_code
def yX12_isDoor : MethodName := ⟨RX12, "isDoor", "(II)Z"⟩
abbrev cX12_readDoor : ByteArray := prog_14_method_27_code
def yX12_readDoor : MethodName := ⟨RX12, "readDoor", "()V"⟩
abbrev cX12_readThing : ByteArray := prog_14_method_28_code
def yX12_readThing : MethodName := ⟨RX12, "readThing", "()V"⟩
abbrev cX12_readRule : ByteArray := prog_14_method_29_code
def yX12_readRule : MethodName := ⟨RX12, "readRule", "(I)V"⟩
abbrev cX12_emit : ByteArray := prog_14_method_30_code
def yX12_emit : MethodName := ⟨RX12, "emit", "(II)V"⟩
abbrev cX12_pushE : ByteArray := prog_14_method_31_code
def yX12_pushE : MethodName := ⟨RX12, "pushE", "(II)V"⟩
abbrev cX12_e : ByteArray := prog_14_method_32_code
def yX12_e : MethodName := ⟨RX12, "e", "()V"⟩
abbrev cX12_wordHere : ByteArray := prog_14_method_33_code
def yX12_wordHere : MethodName := ⟨RX12, "wordHere", "()I"⟩
abbrev cX12_unit : ByteArray := prog_14_method_34_code
def yX12_unit : MethodName := ⟨RX12, "unit", "()Z"⟩
abbrev cX12_rankHere : ByteArray := prog_14_method_35_code
def yX12_rankHere : MethodName := ⟨RX12, "rankHere", "()I"⟩
abbrev cX12_isCompared : ByteArray := prog_14_method_36_code
def yX12_isCompared : MethodName := ⟨RX12, "isCompared", "()Z"⟩
abbrev cX12_behindUnit : ByteArray := prog_14_method_37_code
def yX12_behindUnit : MethodName := ⟨RX12, "behindUnit", "()Z"⟩
abbrev cX12_two : ByteArray := prog_14_method_38_code
def yX12_two : MethodName := ⟨RX12, "two", "(III)I"⟩
abbrev cX12_asked : ByteArray := prog_14_method_39_code
def yX12_asked : MethodName := ⟨RX12, "asked", "(II)I"⟩
abbrev cX12_comes : ByteArray := prog_14_method_40_code
def yX12_comes : MethodName := ⟨RX12, "comes", "()I"⟩
abbrev cX12_fault : ByteArray := prog_14_method_41_code
def yX12_fault : MethodName := ⟨RX12, "fault", "(I)I"⟩
abbrev cX12_isIn : ByteArray := prog_14_method_42_code
def yX12_isIn : MethodName := ⟨RX12, "isIn", "(III)Z"⟩
abbrev cX12_has : ByteArray := prog_14_method_43_code
def yX12_has : MethodName := ⟨RX12, "has", "(II)Z"⟩
abbrev cX12_bitsOf : ByteArray := prog_14_method_44_code
def yX12_bitsOf : MethodName := ⟨RX12, "bitsOf", "(I)I"⟩
abbrev cX12_divisor : ByteArray := prog_14_method_45_code
def yX12_divisor : MethodName := ⟨RX12, "divisor", "(II)I"⟩
abbrev cX12_places : ByteArray := prog_14_method_46_code
def yX12_places : MethodName := ⟨RX12, "places", "()I"⟩
abbrev cX12_many : ByteArray := prog_14_method_47_code
def yX12_many : MethodName := ⟨RX12, "many", "()I"⟩
abbrev cX12_isRoom : ByteArray := prog_14_method_48_code
def yX12_isRoom : MethodName := ⟨RX12, "isRoom", "(I)Z"⟩
abbrev cX12_areRooms : ByteArray := prog_14_method_49_code
def yX12_areRooms : MethodName := ⟨RX12, "areRooms", "(II)Z"⟩
abbrev cX12_isThing : ByteArray := prog_14_method_50_code
def yX12_isThing : MethodName := ⟨RX12, "isThing", "(I)Z"⟩
abbrev cX12_isSet : ByteArray := prog_14_method_51_code
def yX12_isSet : MethodName := ⟨RX12, "isSet", "(I)Z"⟩
abbrev cX12_creakOf : ByteArray := prog_14_method_52_code
def yX12_creakOf : MethodName := ⟨RX12, "creakOf", "(I)I"⟩
abbrev cX12_oneOf : ByteArray := prog_14_method_53_code
def yX12_oneOf : MethodName := ⟨RX12, "oneOf", "(I)I"⟩
abbrev cX12_otherOf : ByteArray := prog_14_method_54_code
def yX12_otherOf : MethodName := ⟨RX12, "otherOf", "(I)I"⟩
abbrev cX12_behind : ByteArray := prog_14_method_55_code
def yX12_behind : MethodName := ⟨RX12, "behind", "(II)I"⟩
abbrev cX12_farOf : ByteArray := prog_14_method_56_code
def yX12_farOf : MethodName := ⟨RX12, "farOf", "(II)I"⟩
abbrev cX12_joined : ByteArray := prog_14_method_57_code
def yX12_joined : MethodName := ⟨RX12, "joined", "(II)I"⟩
abbrev cX12_layTable : ByteArray := prog_14_method_58_code
def yX12_layTable : MethodName := ⟨RX12, "layTable", "()V"⟩
abbrev cX12_doesPart : ByteArray := prog_14_method_59_code
def yX12_doesPart : MethodName := ⟨RX12, "doesPart", "(I)Z"⟩
abbrev cX12_startAnew : ByteArray := prog_14_method_60_code
def yX12_startAnew : MethodName := ⟨RX12, "startAnew", "()V"⟩
abbrev cX12_offOf : ByteArray := prog_14_method_61_code
def yX12_offOf : MethodName := ⟨RX12, "offOf", "(I)I"⟩
abbrev cX12_lesser : ByteArray := prog_14_method_62_code
def yX12_lesser : MethodName := ⟨RX12, "lesser", "(II)I"⟩
abbrev cX12_sureOf : ByteArray := prog_14_method_63_code
def yX12_sureOf : MethodName := ⟨RX12, "sureOf", "(I)I"⟩
abbrev cX12_thingsIn : ByteArray := prog_14_method_64_code
def yX12_thingsIn : MethodName := ⟨RX12, "thingsIn", "(II)I"⟩
abbrev cX12_room : ByteArray := prog_14_method_65_code
def yX12_room : MethodName := ⟨RX12, "room", "(II)I"⟩
abbrev cX12_thing : ByteArray := prog_14_method_66_code
def yX12_thing : MethodName := ⟨RX12, "thing", "(II)I"⟩
abbrev cX12_door : ByteArray := prog_14_method_67_code
def yX12_door : MethodName := ⟨RX12, "door", "(II)I"⟩
abbrev cX12_far : ByteArray := prog_14_method_68_code
def yX12_far : MethodName := ⟨RX12, "far", "(II)I"⟩
abbrev cX12_keepAct : ByteArray := prog_14_method_69_code
def yX12_keepAct : MethodName := ⟨RX12, "keepAct", "()V"⟩
abbrev cX12_exchange : ByteArray := prog_14_method_70_code
def yX12_exchange : MethodName := ⟨RX12, "exchange", "()V"⟩
abbrev cX12_spoken : ByteArray := prog_14_method_71_code
def yX12_spoken : MethodName := ⟨RX12, "spoken", "(II)V"⟩
abbrev cX12_tell : ByteArray := prog_14_method_72_code
def yX12_tell : MethodName := ⟨RX12, "tell", "(I)I"⟩
abbrev cX12_hear : ByteArray := prog_14_method_73_code
def yX12_hear : MethodName := ⟨RX12, "hear", "(I)I"⟩
abbrev cX12_carry : ByteArray := prog_14_method_74_code
def yX12_carry : MethodName := ⟨RX12, "carry", "(II)I"⟩
abbrev cX12_send : ByteArray := prog_14_method_75_code
def yX12_send : MethodName := ⟨RX12, "send", "(I)I"⟩
abbrev cX12_goDay : ByteArray := prog_14_method_76_code
def yX12_goDay : MethodName := ⟨RX12, "goDay", "()I"⟩
abbrev cX12_day : ByteArray := prog_14_method_77_code
def yX12_day : MethodName := ⟨RX12, "day", "()I"⟩
abbrev cX12_undo : ByteArray := prog_14_method_78_code
def yX12_undo : MethodName := ⟨RX12, "undo", "()Z"⟩
abbrev cX12_redo : ByteArray := prog_14_method_79_code
def yX12_redo : MethodName := ⟨RX12, "redo", "()Z"⟩
abbrev cX12_lies : ByteArray := prog_14_method_80_code
def yX12_lies : MethodName := ⟨RX12, "lies", "(I)I"⟩
abbrev cX12_layGoal : ByteArray := prog_14_method_81_code
def yX12_layGoal : MethodName := ⟨RX12, "layGoal", "(II)V"⟩
abbrev cX12_weighAlike : ByteArray := prog_14_method_82_code
def yX12_weighAlike : MethodName := ⟨RX12, "weighAlike", "()V"⟩
abbrev cX12_showWay : ByteArray := prog_14_method_83_code
def yX12_showWay : MethodName := ⟨RX12, "showWay", "(II)I"⟩
abbrev cX12_way : ByteArray := prog_14_method_84_code
def yX12_way : MethodName := ⟨RX12, "way", "(II)I"⟩
abbrev cX12_quiet : ByteArray := prog_14_method_85_code
def yX12_quiet : MethodName := ⟨RX12, "quiet", "(II)I"⟩
abbrev cX12_ways : ByteArray := prog_14_method_86_code
def yX12_ways : MethodName := ⟨RX12, "ways", "(II)I"⟩
abbrev cX12_pieces : ByteArray := prog_14_method_87_code
def yX12_pieces : MethodName := ⟨RX12, "pieces", "()I"⟩
abbrev cX12_parts : ByteArray := prog_14_method_88_code
def yX12_parts : MethodName := ⟨RX12, "parts", "()I"⟩
abbrev cX12_layHunts : ByteArray := prog_14_method_89_code
def yX12_layHunts : MethodName := ⟨RX12, "layHunts", "()V"⟩
abbrev cX12_hunt : ByteArray := prog_14_method_90_code
def yX12_hunt : MethodName := ⟨RX12, "hunt", "(I)I"⟩
abbrev cX12_first : ByteArray := prog_14_method_91_code
def yX12_first : MethodName := ⟨RX12, "first", "(I)I"⟩
abbrev cX12_meet : ByteArray := prog_14_method_92_code
def yX12_meet : MethodName := ⟨RX12, "meet", "(III)I"⟩
abbrev cX12_barOf : ByteArray := prog_14_method_93_code
def yX12_barOf : MethodName := ⟨RX12, "barOf", "(II)I"⟩
abbrev cX12_bar : ByteArray := prog_14_method_94_code
def yX12_bar : MethodName := ⟨RX12, "bar", "(III)I"⟩
abbrev cX12_layTours : ByteArray := prog_14_method_95_code
def yX12_layTours : MethodName := ⟨RX12, "layTours", "(I)V"⟩
abbrev cX12_tour : ByteArray := prog_14_method_96_code
def yX12_tour : MethodName := ⟨RX12, "tour", "(II)I"⟩
abbrev cX12_farthest : ByteArray := prog_14_method_97_code
def yX12_farthest : MethodName := ⟨RX12, "farthest", "(I)I"⟩
abbrev cX12_centre : ByteArray := prog_14_method_98_code
def yX12_centre : MethodName := ⟨RX12, "centre", "()I"⟩
abbrev cX12_nooks : ByteArray := prog_14_method_99_code
def yX12_nooks : MethodName := ⟨RX12, "nooks", "()I"⟩
abbrev cX12_echo : ByteArray := prog_14_method_100_code
def yX12_echo : MethodName := ⟨RX12, "echo", "(II)I"⟩
abbrev cX12_mend : ByteArray := prog_14_method_101_code
def yX12_mend : MethodName := ⟨RX12, "mend", "(I)I"⟩
abbrev cX12_worthOf : ByteArray := prog_14_method_102_code
def yX12_worthOf : MethodName := ⟨RX12, "worthOf", "(II)I"⟩
abbrev cX12_regret : ByteArray := prog_14_method_103_code
def yX12_regret : MethodName := ⟨RX12, "regret", "()I"⟩
abbrev cX12_gainOf : ByteArray := prog_14_method_104_code
def yX12_gainOf : MethodName := ⟨RX12, "gainOf", "(II)I"⟩
abbrev cX12_trade : ByteArray := prog_14_method_105_code
def yX12_trade : MethodName := ⟨RX12, "trade", "(I)I"⟩
abbrev cX12_trades : ByteArray := prog_14_method_106_code
def yX12_trades : MethodName := ⟨RX12, "trades", "()I"⟩
abbrev cX12_wealth : ByteArray := prog_14_method_107_code
def yX12_wealth : MethodName := ⟨RX12, "wealth", "(I)I"⟩
abbrev cX12_off : ByteArray := prog_14_method_108_code
def yX12_off : MethodName := ⟨RX12, "off", "()I"⟩
abbrev cX12_rightOnes : ByteArray := prog_14_method_109_code
def yX12_rightOnes : MethodName := ⟨RX12, "rightOnes", "()I"⟩
abbrev cX12_right : ByteArray := prog_14_method_110_code
def yX12_right : MethodName := ⟨RX12, "right", "()I"⟩
abbrev cX12_deep : ByteArray := prog_14_method_111_code
def yX12_deep : MethodName := ⟨RX12, "deep", "(I)I"⟩
abbrev cX12_stay : ByteArray := prog_14_method_112_code
def yX12_stay : MethodName := ⟨RX12, "stay", "(III)I"⟩
abbrev cX12_keepNow : ByteArray := prog_14_method_113_code
def yX12_keepNow : MethodName := ⟨RX12, "keepNow", "()V"⟩
abbrev cX12_bringBack : ByteArray := prog_14_method_114_code
def yX12_bringBack : MethodName := ⟨RX12, "bringBack", "()V"⟩
abbrev cX12_will : ByteArray := prog_14_method_115_code
def yX12_will : MethodName := ⟨RX12, "will", "(II)I"⟩
abbrev cX12_lost : ByteArray := prog_14_method_116_code
def yX12_lost : MethodName := ⟨RX12, "lost", "()I"⟩
abbrev cX12_told : ByteArray := prog_14_method_117_code
def yX12_told : MethodName := ⟨RX12, "told", "(IIIZ)I"⟩
abbrev cX12_heard : ByteArray := prog_14_method_118_code
def yX12_heard : MethodName := ⟨RX12, "heard", "(IIZ)I"⟩
abbrev cX12_seen : ByteArray := prog_14_method_119_code
def yX12_seen : MethodName := ⟨RX12, "seen", "(IIZ)I"⟩
abbrev cX12_untell : ByteArray := prog_14_method_120_code
def yX12_untell : MethodName := ⟨RX12, "untell", "(I)Z"⟩
abbrev cX12_later : ByteArray := prog_14_method_121_code
def yX12_later : MethodName := ⟨RX12, "later", "(I)I"⟩
abbrev cX12_openAt : ByteArray := prog_14_method_122_code
def yX12_openAt : MethodName := ⟨RX12, "openAt", "(II)I"⟩
abbrev cX12_stepOn : ByteArray := prog_14_method_123_code
def yX12_stepOn : MethodName := ⟨RX12, "stepOn", "(I)V"⟩
abbrev cX12_layWalks : ByteArray := prog_14_method_124_code
def yX12_layWalks : MethodName := ⟨RX12, "layWalks", "(I)V"⟩
abbrev cX12_walksBy : ByteArray := prog_14_method_125_code
def yX12_walksBy : MethodName := ⟨RX12, "walksBy", "(II)I"⟩
abbrev cX12_allWalks : ByteArray := prog_14_method_126_code
def yX12_allWalks : MethodName := ⟨RX12, "allWalks", "()I"⟩
abbrev cX12_walks : ByteArray := prog_14_method_127_code
def yX12_walks : MethodName := ⟨RX12, "walks", "(I)I"⟩
abbrev cX12_certain : ByteArray := prog_14_method_128_code
def yX12_certain : MethodName := ⟨RX12, "certain", "(II)I"⟩
abbrev cX12_ask : ByteArray := prog_14_method_129_code
def yX12_ask : MethodName := ⟨RX12, "ask", "(II)I"⟩
abbrev cX12_image : ByteArray := prog_14_method_130_code
def yX12_image : MethodName := ⟨RX12, "image", "(I)I"⟩
abbrev cX12_back : ByteArray := prog_14_method_131_code
def yX12_back : MethodName := ⟨RX12, "back", "(I)I"⟩
abbrev cX12_about : ByteArray := prog_14_method_132_code
def yX12_about : MethodName := ⟨RX12, "about", "(I)I"⟩
abbrev cX12_feed : ByteArray := prog_14_method_133_code
def yX12_feed : MethodName := ⟨RX12, "feed", "(IIIII)I"⟩
abbrev cX12_end : ByteArray := prog_14_method_134_code
def yX12_end : MethodName := ⟨RX12, "end", "(I)I"⟩
def RJx145de : String := "java/io/Serializable"
def TJx145de : u_T := fun k => match k with
  | _ => ("", "", "", false)
def tyJx145de : Nat → FieldType := fun k => match k with
  | _ => .int
abbrev wsJx145de0 : List Cond := u_ws RJx145de TJx145de 0
theorem nmJx145de : ∀ a, a < 0 → ∀ b, b < 0 → a ≠ b → (TJx145de a).2.1 ≠ (TJx145de b).2.1 := by decide +kernel
theorem tyJx145de_ok : ∀ k, k < 0 → parseFieldDescriptor (TJx145de k).2.2.1 = some (tyJx145de k) := by decide +kernel
def RJx9f9b0 : String := "java/lang/CharSequence"
def TJx9f9b0 : u_T := fun k => match k with
  | _ => ("", "", "", false)
def tyJx9f9b0 : Nat → FieldType := fun k => match k with
  | _ => .int
abbrev wsJx9f9b00 : List Cond := u_ws RJx9f9b0 TJx9f9b0 0
theorem nmJx9f9b0 : ∀ a, a < 0 → ∀ b, b < 0 → a ≠ b → (TJx9f9b0 a).2.1 ≠ (TJx9f9b0 b).2.1 := by decide +kernel
theorem tyJx9f9b0_ok : ∀ k, k < 0 → parseFieldDescriptor (TJx9f9b0 k).2.2.1 = some (tyJx9f9b0 k) := by decide +kernel
def RJ11 : String := "java/lang/Character"
def TJ11 : u_T := fun k => match k with
  | _ => ("", "", "", false)
def tyJ11 : Nat → FieldType := fun k => match k with
  | _ => .int
abbrev wsJ110 : List Cond := u_ws RJ11 TJ11 0
theorem nmJ11 : ∀ a, a < 0 → ∀ b, b < 0 → a ≠ b → (TJ11 a).2.1 ≠ (TJ11 b).2.1 := by decide +kernel
theorem tyJ11_ok : ∀ k, k < 0 → parseFieldDescriptor (TJ11 k).2.2.1 = some (tyJ11 k) := by decide +kernel
abbrev cJ11_isValidCodePoint_9a6ad : ByteArray := prog_15_method_11_code
def yJ11_isValidCodePoint_9a6ad : MethodName := ⟨RJ11, "isValidCodePoint", "(I)Z"⟩
abbrev cJ11_highSurrogate_5068e : ByteArray := prog_15_method_28_code
def yJ11_highSurrogate_5068e : MethodName := ⟨RJ11, "highSurrogate", "(I)C"⟩
abbrev cJ11_lowSurrogate_5068e : ByteArray := prog_15_method_29_code
def yJ11_lowSurrogate_5068e : MethodName := ⟨RJ11, "lowSurrogate", "(I)C"⟩
def RJxb160c : String := "java/lang/Comparable"
def TJxb160c : u_T := fun k => match k with
  | _ => ("", "", "", false)
def tyJxb160c : Nat → FieldType := fun k => match k with
  | _ => .int
abbrev wsJxb160c0 : List Cond := u_ws RJxb160c TJxb160c 0
theorem nmJxb160c : ∀ a, a < 0 → ∀ b, b < 0 → a ≠ b → (TJxb160c a).2.1 ≠ (TJxb160c b).2.1 := by decide +kernel
theorem tyJxb160c_ok : ∀ k, k < 0 → parseFieldDescriptor (TJxb160c k).2.2.1 = some (tyJxb160c k) := by decide +kernel
def RJ6 : String := "java/lang/Integer"
def TJ6 : u_T := fun k => match k with
  | _ => ("", "", "", false)
def tyJ6 : Nat → FieldType := fun k => match k with
  | _ => .int
abbrev wsJ60 : List Cond := u_ws RJ6 TJ6 0
theorem nmJ6 : ∀ a, a < 0 → ∀ b, b < 0 → a ≠ b → (TJ6 a).2.1 ≠ (TJ6 b).2.1 := by decide +kernel
theorem tyJ6_ok : ∀ k, k < 0 → parseFieldDescriptor (TJ6 k).2.2.1 = some (tyJ6 k) := by decide +kernel
abbrev cJ6_bitCount_0f7a4 : ByteArray := prog_16_method_49_code
def yJ6_bitCount_0f7a4 : MethodName := ⟨RJ6, "bitCount", "(I)I"⟩
def RJ9 : String := "java/lang/Math"
def TJ9 : u_T := fun k => match k with
  | _ => ("", "", "", false)
def tyJ9 : Nat → FieldType := fun k => match k with
  | _ => .int
abbrev wsJ90 : List Cond := u_ws RJ9 TJ9 0
theorem nmJ9 : ∀ a, a < 0 → ∀ b, b < 0 → a ≠ b → (TJ9 a).2.1 ≠ (TJ9 b).2.1 := by decide +kernel
theorem tyJ9_ok : ∀ k, k < 0 → parseFieldDescriptor (TJ9 k).2.2.1 = some (tyJ9 k) := by decide +kernel
abbrev cJ9_max_7cf53 : ByteArray := prog_17_method_65_code
def yJ9_max_7cf53 : MethodName := ⟨RJ9, "max", "(II)I"⟩
abbrev cJ9_min_7cf53 : ByteArray := prog_17_method_69_code
def yJ9_min_7cf53 : MethodName := ⟨RJ9, "min", "(II)I"⟩
def RJ0 : String := "java/lang/String"
def TJ0 : u_T := fun k => match k with
  | _ => ("", "", "", false)
def tyJ0 : Nat → FieldType := fun k => match k with
  | _ => .int
abbrev wsJ00 : List Cond := u_ws RJ0 TJ0 0
theorem nmJ0 : ∀ a, a < 0 → ∀ b, b < 0 → a ≠ b → (TJ0 a).2.1 ≠ (TJ0 b).2.1 := by decide +kernel
theorem tyJ0_ok : ∀ k, k < 0 → parseFieldDescriptor (TJ0 k).2.2.1 = some (tyJ0 k) := by decide +kernel
abbrev cJ0_length_8abf5 : ByteArray := prog_18_method_54_code
def yJ0_length_8abf5 : MethodName := ⟨RJ0, "length", "()I"⟩
abbrev cJ0_charAt_5068e : ByteArray := prog_18_method_56_code
def yJ0_charAt_5068e : MethodName := ⟨RJ0, "charAt", "(I)C"⟩
abbrev cJ0_indexOf_0f7a4 : ByteArray := prog_18_method_79_code
def yJ0_indexOf_0f7a4 : MethodName := ⟨RJ0, "indexOf", "(I)I"⟩
abbrev cJ0_indexOf_7cf53 : ByteArray := prog_18_method_80_code
def yJ0_indexOf_7cf53 : MethodName := ⟨RJ0, "indexOf", "(II)I"⟩
abbrev cJ0_coder_7d493 : ByteArray := prog_18_method_152_code
def yJ0_coder_7d493 : MethodName := ⟨RJ0, "coder", "()B"⟩
abbrev cJ0_isLatin1_aae02 : ByteArray := prog_18_method_154_code
def yJ0_isLatin1_aae02 : MethodName := ⟨RJ0, "isLatin1", "()Z"⟩
abbrev cJ0_checkIndex_df160 : ByteArray := prog_18_method_155_code
def yJ0_checkIndex_df160 : MethodName := ⟨RJ0, "checkIndex", "(II)V"⟩
abbrev cJ0_checkBoundsBeginEnd_23922 : ByteArray := prog_18_method_158_code
def yJ0_checkBoundsBeginEnd_23922 : MethodName := ⟨RJ0, "checkBoundsBeginEnd", "(III)V"⟩
def RJ1 : String := "java/lang/StringLatin1"
def TJ1 : u_T := fun k => match k with
  | _ => ("", "", "", false)
def tyJ1 : Nat → FieldType := fun k => match k with
  | _ => .int
abbrev wsJ10 : List Cond := u_ws RJ1 TJ1 0
theorem nmJ1 : ∀ a, a < 0 → ∀ b, b < 0 → a ≠ b → (TJ1 a).2.1 ≠ (TJ1 b).2.1 := by decide +kernel
theorem tyJ1_ok : ∀ k, k < 0 → parseFieldDescriptor (TJ1 k).2.2.1 = some (tyJ1 k) := by decide +kernel
abbrev cJ1_charAt_3b067 : ByteArray := prog_19_method_2_code
def yJ1_charAt_3b067 : MethodName := ⟨RJ1, "charAt", "([BI)C"⟩
abbrev cJ1_canEncode_9a6ad : ByteArray := prog_19_method_4_code
def yJ1_canEncode_9a6ad : MethodName := ⟨RJ1, "canEncode", "(I)Z"⟩
abbrev cJ1_indexOf_4cfef : ByteArray := prog_19_method_22_code
def yJ1_indexOf_4cfef : MethodName := ⟨RJ1, "indexOf", "([BIII)I"⟩
abbrev cJ1_indexOfChar_4cfef : ByteArray := prog_19_method_23_code
def yJ1_indexOfChar_4cfef : MethodName := ⟨RJ1, "indexOfChar", "([BIII)I"⟩
def RJ2 : String := "java/lang/StringUTF16"
def TJ2 : u_T := fun k => match k with
  | _ => ("", "", "", false)
def tyJ2 : Nat → FieldType := fun k => match k with
  | _ => .int
abbrev wsJ20 : List Cond := u_ws RJ2 TJ2 0
theorem nmJ2 : ∀ a, a < 0 → ∀ b, b < 0 → a ≠ b → (TJ2 a).2.1 ≠ (TJ2 b).2.1 := by decide +kernel
theorem tyJ2_ok : ∀ k, k < 0 → parseFieldDescriptor (TJ2 k).2.2.1 = some (tyJ2 k) := by decide +kernel
abbrev cJ2_getChar_3b067 : ByteArray := prog_20_method_5_code
def yJ2_getChar_3b067 : MethodName := ⟨RJ2, "getChar", "([BI)C"⟩
abbrev cJ2_length_9d52b : ByteArray := prog_20_method_6_code
def yJ2_length_9d52b : MethodName := ⟨RJ2, "length", "([B)I"⟩
abbrev cJ2_indexOf_4cfef : ByteArray := prog_20_method_40_code
def yJ2_indexOf_4cfef : MethodName := ⟨RJ2, "indexOf", "([BIII)I"⟩
abbrev cJ2_indexOfChar_4cfef : ByteArray := prog_20_method_47_code
def yJ2_indexOfChar_4cfef : MethodName := ⟨RJ2, "indexOfChar", "([BIII)I"⟩
abbrev cJ2_indexOfCharUnsafe_4cfef : ByteArray := prog_20_method_48_code
def yJ2_indexOfCharUnsafe_4cfef : MethodName := ⟨RJ2, "indexOfCharUnsafe", "([BIII)I"⟩
abbrev cJ2_indexOfSupplementary_4cfef : ByteArray := prog_20_method_49_code
def yJ2_indexOfSupplementary_4cfef : MethodName := ⟨RJ2, "indexOfSupplementary", "([BIII)I"⟩
abbrev cJ2_charAt_3b067 : ByteArray := prog_20_method_83_code
def yJ2_charAt_3b067 : MethodName := ⟨RJ2, "charAt", "([BI)C"⟩
abbrev cJ2_checkIndex_2214a : ByteArray := prog_20_method_91_code
def yJ2_checkIndex_2214a : MethodName := ⟨RJ2, "checkIndex", "(I[B)V"⟩
abbrev cJ2_checkBoundsBeginEnd_d044e : ByteArray := prog_20_method_93_code
def yJ2_checkBoundsBeginEnd_d044e : MethodName := ⟨RJ2, "checkBoundsBeginEnd", "(II[B)V"⟩
def RJ10 : String := "java/lang/System"
def TJ10 : u_T := fun k => match k with
  | _ => ("", "", "", false)
def tyJ10 : Nat → FieldType := fun k => match k with
  | _ => .int
abbrev wsJ100 : List Cond := u_ws RJ10 TJ10 0
theorem nmJ10 : ∀ a, a < 0 → ∀ b, b < 0 → a ≠ b → (TJ10 a).2.1 ≠ (TJ10 b).2.1 := by decide +kernel
theorem tyJ10_ok : ∀ k, k < 0 → parseFieldDescriptor (TJ10 k).2.2.1 = some (tyJ10 k) := by decide +kernel
def RJxfd54e : String := "java/lang/constant/Constable"
def TJxfd54e : u_T := fun k => match k with
  | _ => ("", "", "", false)
def tyJxfd54e : Nat → FieldType := fun k => match k with
  | _ => .int
abbrev wsJxfd54e0 : List Cond := u_ws RJxfd54e TJxfd54e 0
theorem nmJxfd54e : ∀ a, a < 0 → ∀ b, b < 0 → a ≠ b → (TJxfd54e a).2.1 ≠ (TJxfd54e b).2.1 := by decide +kernel
theorem tyJxfd54e_ok : ∀ k, k < 0 → parseFieldDescriptor (TJxfd54e k).2.2.1 = some (tyJxfd54e k) := by decide +kernel
def RJx3cf43 : String := "java/lang/constant/ConstantDesc"
def TJx3cf43 : u_T := fun k => match k with
  | _ => ("", "", "", false)
def tyJx3cf43 : Nat → FieldType := fun k => match k with
  | _ => .int
abbrev wsJx3cf430 : List Cond := u_ws RJx3cf43 TJx3cf43 0
theorem nmJx3cf43 : ∀ a, a < 0 → ∀ b, b < 0 → a ≠ b → (TJx3cf43 a).2.1 ≠ (TJx3cf43 b).2.1 := by decide +kernel
theorem tyJx3cf43_ok : ∀ k, k < 0 → parseFieldDescriptor (TJx3cf43 k).2.2.1 = some (tyJx3cf43 k) := by decide +kernel
def RJ7 : String := "java/util/Arrays"
def TJ7 : u_T := fun k => match k with
  | _ => ("", "", "", false)
def tyJ7 : Nat → FieldType := fun k => match k with
  | _ => .int
abbrev wsJ70 : List Cond := u_ws RJ7 TJ7 0
theorem nmJ7 : ∀ a, a < 0 → ∀ b, b < 0 → a ≠ b → (TJ7 a).2.1 ≠ (TJ7 b).2.1 := by decide +kernel
theorem tyJ7_ok : ∀ k, k < 0 → parseFieldDescriptor (TJ7 k).2.2.1 = some (tyJ7 k) := by decide +kernel
abbrev cJ7_fill_53178 : ByteArray := prog_22_method_103_code
def yJ7_fill_53178 : MethodName := ⟨RJ7, "fill", "([II)V"⟩
def RJ3 : String := "jdk/internal/util/Preconditions"
def TJ3 : u_T := fun k => match k with
  | _ => ("", "", "", false)
def tyJ3 : Nat → FieldType := fun k => match k with
  | _ => .int
abbrev wsJ30 : List Cond := u_ws RJ3 TJ3 0
theorem nmJ3 : ∀ a, a < 0 → ∀ b, b < 0 → a ≠ b → (TJ3 a).2.1 ≠ (TJ3 b).2.1 := by decide +kernel
theorem tyJ3_ok : ∀ k, k < 0 → parseFieldDescriptor (TJ3 k).2.2.1 = some (tyJ3 k) := by decide +kernel
abbrev cJ3_checkIndex_8e157 : ByteArray := prog_23_method_11_code
def yJ3_checkIndex_8e157 : MethodName := ⟨RJ3, "checkIndex", "(IILjava/util/function/BiFunction;)I"⟩
abbrev cJ3_checkFromToIndex_8c36e : ByteArray := prog_23_method_12_code
def yJ3_checkFromToIndex_8c36e : MethodName := ⟨RJ3, "checkFromToIndex", "(IIILjava/util/function/BiFunction;)I"⟩
def RL : String := "SoldHouseLaw"
abbrev cL_law : ByteArray := code
def yL_law : MethodName := ⟨RL, "law", "([I)Z"⟩
abbrev classes : List vw_C := [(RX0, TX0, 5), (RX1, TX1, 6), (RX2, TX2, 2), (RX3, TX3, 9), (RX4, TX4, 10), (RX5, TX5, 16), (RX6, TX6, 4), (RX7, TX7, 5), (RX8, TX8, 2), (RX9, TX9, 7), (RX10, TX10, 1), (RX11, TX11, 10), (RX12, TX12, 71)]
